section LGC
variable {p : Program} {l : Launch} {e : Env} {s : State} {m : MethodId} {below : List Frame} {meth : Method} {c : Code} {H : Heap} {locs : List Loc} {Q : State → Prop} {ls : Array Slot}
variable {D : va_G} {cy : Nat → ClassId} {σ0 : SG} {eda ca : Nat} {ia : Nat → Nat} {ad τ : List Nat} {q0 x0 av qv sa L a0 oa od t c0 n0 k N : Nat} {fd : Nat → Option Nat} {xs : Nat → Int32} {i : Int32}
theorem dL_law_1199 : decode cL_law 1199 = .ok (.aload_n 1, 1) := by decide +kernel
theorem dL_law_1200 : decode cL_law 1200 = .ok (.aload_n 0, 1) := by decide +kernel
theorem dL_law_1201 : decode cL_law 1201 = .ok (.iload 5, 2) := by decide +kernel
theorem dL_law_1203 : decode cL_law 1203 = .ok (.iconst 1, 1) := by decide +kernel
theorem dL_law_1204 : decode cL_law 1204 = .ok (.iadd, 1) := by decide +kernel
theorem dL_law_1205 : decode cL_law 1205 = .ok (.iaload, 1) := by decide +kernel
theorem dL_law_1206 : decode cL_law 1206 = .ok (.aload_n 3, 1) := by decide +kernel
theorem dL_law_1207 : decode cL_law 1207 = .ok (.invokestatic 260, 3) := by decide +kernel
theorem dL_law_1210 : decode cL_law 1210 = .ok (.istore 6, 2) := by decide +kernel
theorem dL_law_1212 : decode cL_law 1212 = .ok (.aload_n 2, 1) := by decide +kernel
theorem dL_law_1213 : decode cL_law 1213 = .ok (.aload_n 0, 1) := by decide +kernel
theorem dL_law_1214 : decode cL_law 1214 = .ok (.iload 5, 2) := by decide +kernel
theorem dL_law_1216 : decode cL_law 1216 = .ok (.iconst 1, 1) := by decide +kernel
theorem dL_law_1217 : decode cL_law 1217 = .ok (.iadd, 1) := by decide +kernel
theorem dL_law_1218 : decode cL_law 1218 = .ok (.iaload, 1) := by decide +kernel
theorem dL_law_1219 : decode cL_law 1219 = .ok (.invokevirtual 262, 3) := by decide +kernel
theorem dL_law_1222 : decode cL_law 1222 = .ok (.istore 7, 2) := by decide +kernel
theorem dL_law_1224 : decode cL_law 1224 = .ok (.goto 640, 3) := by decide +kernel
theorem dL_law_1227 : decode cL_law 1227 = .ok (.aload_n 1, 1) := by decide +kernel
theorem dL_law_1228 : decode cL_law 1228 = .ok (.aload_n 0, 1) := by decide +kernel
theorem dL_law_1229 : decode cL_law 1229 = .ok (.iload 5, 2) := by decide +kernel
theorem dL_law_1231 : decode cL_law 1231 = .ok (.iconst 1, 1) := by decide +kernel
theorem dL_law_1232 : decode cL_law 1232 = .ok (.iadd, 1) := by decide +kernel
theorem dL_law_1233 : decode cL_law 1233 = .ok (.iaload, 1) := by decide +kernel
theorem dL_law_1234 : decode cL_law 1234 = .ok (.aload_n 3, 1) := by decide +kernel
theorem dL_law_1235 : decode cL_law 1235 = .ok (.invokestatic 263, 3) := by decide +kernel
theorem dL_law_1238 : decode cL_law 1238 = .ok (.istore 6, 2) := by decide +kernel
theorem dL_law_1240 : decode cL_law 1240 = .ok (.aload_n 2, 1) := by decide +kernel
theorem dL_law_1241 : decode cL_law 1241 = .ok (.aload_n 0, 1) := by decide +kernel
theorem dL_law_1242 : decode cL_law 1242 = .ok (.iload 5, 2) := by decide +kernel
theorem dL_law_1244 : decode cL_law 1244 = .ok (.iconst 1, 1) := by decide +kernel
theorem dL_law_1245 : decode cL_law 1245 = .ok (.iadd, 1) := by decide +kernel
theorem dL_law_1246 : decode cL_law 1246 = .ok (.iaload, 1) := by decide +kernel
theorem dL_law_1247 : decode cL_law 1247 = .ok (.invokevirtual 265, 3) := by decide +kernel
theorem dL_law_1250 : decode cL_law 1250 = .ok (.istore 7, 2) := by decide +kernel
theorem dL_law_1252 : decode cL_law 1252 = .ok (.goto 612, 3) := by decide +kernel
theorem dL_law_1255 : decode cL_law 1255 = .ok (.aload_n 1, 1) := by decide +kernel
theorem dL_law_1256 : decode cL_law 1256 = .ok (.aload_n 0, 1) := by decide +kernel
theorem dL_law_1257 : decode cL_law 1257 = .ok (.iload 5, 2) := by decide +kernel
theorem dL_law_1259 : decode cL_law 1259 = .ok (.iconst 1, 1) := by decide +kernel
theorem dL_law_1260 : decode cL_law 1260 = .ok (.iadd, 1) := by decide +kernel
theorem dL_law_1261 : decode cL_law 1261 = .ok (.iaload, 1) := by decide +kernel
theorem dL_law_1262 : decode cL_law 1262 = .ok (.aload_n 3, 1) := by decide +kernel
theorem dL_law_1263 : decode cL_law 1263 = .ok (.invokestatic 266, 3) := by decide +kernel
theorem dL_law_1266 : decode cL_law 1266 = .ok (.istore 6, 2) := by decide +kernel
theorem dL_law_1268 : decode cL_law 1268 = .ok (.aload_n 2, 1) := by decide +kernel
theorem dL_law_1269 : decode cL_law 1269 = .ok (.aload_n 0, 1) := by decide +kernel
theorem dL_law_1270 : decode cL_law 1270 = .ok (.iload 5, 2) := by decide +kernel
theorem dL_law_1272 : decode cL_law 1272 = .ok (.iconst 1, 1) := by decide +kernel
theorem dL_law_1273 : decode cL_law 1273 = .ok (.iadd, 1) := by decide +kernel
theorem dL_law_1274 : decode cL_law 1274 = .ok (.iaload, 1) := by decide +kernel
theorem dL_law_1275 : decode cL_law 1275 = .ok (.invokevirtual 268, 3) := by decide +kernel
theorem dL_law_1278 : decode cL_law 1278 = .ok (.istore 7, 2) := by decide +kernel
theorem dL_law_1280 : decode cL_law 1280 = .ok (.goto 584, 3) := by decide +kernel
theorem dL_law_1283 : decode cL_law 1283 = .ok (.aload_n 1, 1) := by decide +kernel
theorem dL_law_1284 : decode cL_law 1284 = .ok (.aload_n 0, 1) := by decide +kernel
theorem dL_law_1285 : decode cL_law 1285 = .ok (.iload 5, 2) := by decide +kernel
theorem dL_law_1287 : decode cL_law 1287 = .ok (.iconst 1, 1) := by decide +kernel
theorem dL_law_1288 : decode cL_law 1288 = .ok (.iadd, 1) := by decide +kernel
theorem dL_law_1289 : decode cL_law 1289 = .ok (.iaload, 1) := by decide +kernel
theorem dL_law_1290 : decode cL_law 1290 = .ok (.aload_n 3, 1) := by decide +kernel
theorem dL_law_1291 : decode cL_law 1291 = .ok (.invokestatic 269, 3) := by decide +kernel
theorem dL_law_1294 : decode cL_law 1294 = .ok (.istore 6, 2) := by decide +kernel
theorem dL_law_1296 : decode cL_law 1296 = .ok (.aload_n 2, 1) := by decide +kernel
theorem dL_law_1297 : decode cL_law 1297 = .ok (.aload_n 0, 1) := by decide +kernel
theorem dL_law_1298 : decode cL_law 1298 = .ok (.iload 5, 2) := by decide +kernel
theorem dL_law_1300 : decode cL_law 1300 = .ok (.iconst 1, 1) := by decide +kernel
theorem dL_law_1301 : decode cL_law 1301 = .ok (.iadd, 1) := by decide +kernel
theorem dL_law_1302 : decode cL_law 1302 = .ok (.iaload, 1) := by decide +kernel
theorem dL_law_1303 : decode cL_law 1303 = .ok (.invokevirtual 271, 3) := by decide +kernel
theorem dL_law_1306 : decode cL_law 1306 = .ok (.istore 7, 2) := by decide +kernel
theorem dL_law_1308 : decode cL_law 1308 = .ok (.goto 556, 3) := by decide +kernel
theorem dL_law_1311 : decode cL_law 1311 = .ok (.aload_n 1, 1) := by decide +kernel
theorem dL_law_1312 : decode cL_law 1312 = .ok (.aload_n 0, 1) := by decide +kernel
theorem dL_law_1313 : decode cL_law 1313 = .ok (.iload 5, 2) := by decide +kernel
theorem dL_law_1315 : decode cL_law 1315 = .ok (.iconst 1, 1) := by decide +kernel
theorem dL_law_1316 : decode cL_law 1316 = .ok (.iadd, 1) := by decide +kernel
theorem dL_law_1317 : decode cL_law 1317 = .ok (.iaload, 1) := by decide +kernel
theorem dL_law_1318 : decode cL_law 1318 = .ok (.aload_n 0, 1) := by decide +kernel
theorem dL_law_1319 : decode cL_law 1319 = .ok (.iload 5, 2) := by decide +kernel
theorem dL_law_1321 : decode cL_law 1321 = .ok (.iconst 2, 1) := by decide +kernel
theorem dL_law_1322 : decode cL_law 1322 = .ok (.iadd, 1) := by decide +kernel
theorem dL_law_1323 : decode cL_law 1323 = .ok (.iaload, 1) := by decide +kernel
theorem dL_law_1324 : decode cL_law 1324 = .ok (.aload_n 3, 1) := by decide +kernel
theorem dL_law_1325 : decode cL_law 1325 = .ok (.invokestatic 272, 3) := by decide +kernel
theorem dL_law_1328 : decode cL_law 1328 = .ok (.istore 6, 2) := by decide +kernel
theorem dL_law_1330 : decode cL_law 1330 = .ok (.aload_n 2, 1) := by decide +kernel
theorem dL_law_1331 : decode cL_law 1331 = .ok (.aload_n 0, 1) := by decide +kernel
theorem dL_law_1332 : decode cL_law 1332 = .ok (.iload 5, 2) := by decide +kernel
theorem dL_law_1334 : decode cL_law 1334 = .ok (.iconst 1, 1) := by decide +kernel
theorem dL_law_1335 : decode cL_law 1335 = .ok (.iadd, 1) := by decide +kernel
theorem dL_law_1336 : decode cL_law 1336 = .ok (.iaload, 1) := by decide +kernel
theorem dL_law_1337 : decode cL_law 1337 = .ok (.aload_n 0, 1) := by decide +kernel
theorem dL_law_1338 : decode cL_law 1338 = .ok (.iload 5, 2) := by decide +kernel
theorem dL_law_1340 : decode cL_law 1340 = .ok (.iconst 2, 1) := by decide +kernel
theorem dL_law_1341 : decode cL_law 1341 = .ok (.iadd, 1) := by decide +kernel
theorem dL_law_1342 : decode cL_law 1342 = .ok (.iaload, 1) := by decide +kernel
theorem dL_law_1343 : decode cL_law 1343 = .ok (.invokevirtual 274, 3) := by decide +kernel
theorem dL_law_1346 : decode cL_law 1346 = .ok (.istore 7, 2) := by decide +kernel
theorem dL_law_1348 : decode cL_law 1348 = .ok (.goto 516, 3) := by decide +kernel
theorem dL_law_1351 : decode cL_law 1351 = .ok (.aload_n 1, 1) := by decide +kernel
theorem dL_law_1352 : decode cL_law 1352 = .ok (.aload_n 0, 1) := by decide +kernel
theorem dL_law_1353 : decode cL_law 1353 = .ok (.iload 5, 2) := by decide +kernel
theorem dL_law_1355 : decode cL_law 1355 = .ok (.iconst 1, 1) := by decide +kernel
theorem dL_law_1356 : decode cL_law 1356 = .ok (.iadd, 1) := by decide +kernel
theorem dL_law_1357 : decode cL_law 1357 = .ok (.iaload, 1) := by decide +kernel
theorem dL_law_1358 : decode cL_law 1358 = .ok (.aload_n 0, 1) := by decide +kernel
theorem dL_law_1359 : decode cL_law 1359 = .ok (.iload 5, 2) := by decide +kernel
theorem dL_law_1361 : decode cL_law 1361 = .ok (.iconst 2, 1) := by decide +kernel
theorem dL_law_1362 : decode cL_law 1362 = .ok (.iadd, 1) := by decide +kernel
theorem dL_law_1363 : decode cL_law 1363 = .ok (.iaload, 1) := by decide +kernel
theorem dL_law_1364 : decode cL_law 1364 = .ok (.aload_n 0, 1) := by decide +kernel
theorem dL_law_1365 : decode cL_law 1365 = .ok (.iload 5, 2) := by decide +kernel
theorem dL_law_1367 : decode cL_law 1367 = .ok (.iconst 3, 1) := by decide +kernel
theorem dL_law_1368 : decode cL_law 1368 = .ok (.iadd, 1) := by decide +kernel
theorem dL_law_1369 : decode cL_law 1369 = .ok (.iaload, 1) := by decide +kernel
theorem dL_law_1370 : decode cL_law 1370 = .ok (.i2c, 1) := by decide +kernel
theorem dL_law_1371 : decode cL_law 1371 = .ok (.aload_n 0, 1) := by decide +kernel
theorem dL_law_1372 : decode cL_law 1372 = .ok (.iload 5, 2) := by decide +kernel
theorem dL_law_1374 : decode cL_law 1374 = .ok (.iconst 4, 1) := by decide +kernel
theorem dL_law_1375 : decode cL_law 1375 = .ok (.iadd, 1) := by decide +kernel
theorem dL_law_1376 : decode cL_law 1376 = .ok (.iaload, 1) := by decide +kernel
theorem dL_law_1377 : decode cL_law 1377 = .ok (.aload_n 3, 1) := by decide +kernel
theorem dL_law_1378 : decode cL_law 1378 = .ok (.invokestatic 275, 3) := by decide +kernel
theorem dL_law_1381 : decode cL_law 1381 = .ok (.istore 6, 2) := by decide +kernel
theorem dL_law_1383 : decode cL_law 1383 = .ok (.aload_n 2, 1) := by decide +kernel
theorem dL_law_1384 : decode cL_law 1384 = .ok (.aload_n 0, 1) := by decide +kernel
theorem dL_law_1385 : decode cL_law 1385 = .ok (.iload 5, 2) := by decide +kernel
theorem dL_law_1387 : decode cL_law 1387 = .ok (.iconst 1, 1) := by decide +kernel
theorem dL_law_1388 : decode cL_law 1388 = .ok (.iadd, 1) := by decide +kernel
theorem dL_law_1389 : decode cL_law 1389 = .ok (.iaload, 1) := by decide +kernel
theorem dL_law_1390 : decode cL_law 1390 = .ok (.aload_n 0, 1) := by decide +kernel
theorem dL_law_1391 : decode cL_law 1391 = .ok (.iload 5, 2) := by decide +kernel
theorem dL_law_1393 : decode cL_law 1393 = .ok (.iconst 2, 1) := by decide +kernel
theorem dL_law_1394 : decode cL_law 1394 = .ok (.iadd, 1) := by decide +kernel
theorem dL_law_1395 : decode cL_law 1395 = .ok (.iaload, 1) := by decide +kernel
theorem dL_law_1396 : decode cL_law 1396 = .ok (.aload_n 0, 1) := by decide +kernel
theorem dL_law_1397 : decode cL_law 1397 = .ok (.iload 5, 2) := by decide +kernel
theorem dL_law_1399 : decode cL_law 1399 = .ok (.iconst 3, 1) := by decide +kernel
theorem dL_law_1400 : decode cL_law 1400 = .ok (.iadd, 1) := by decide +kernel
theorem dL_law_1401 : decode cL_law 1401 = .ok (.iaload, 1) := by decide +kernel
theorem dL_law_1402 : decode cL_law 1402 = .ok (.i2c, 1) := by decide +kernel
theorem dL_law_1403 : decode cL_law 1403 = .ok (.aload_n 0, 1) := by decide +kernel
theorem dL_law_1404 : decode cL_law 1404 = .ok (.iload 5, 2) := by decide +kernel
theorem dL_law_1406 : decode cL_law 1406 = .ok (.iconst 4, 1) := by decide +kernel
theorem dL_law_1407 : decode cL_law 1407 = .ok (.iadd, 1) := by decide +kernel
theorem dL_law_1408 : decode cL_law 1408 = .ok (.iaload, 1) := by decide +kernel
theorem dL_law_1409 : decode cL_law 1409 = .ok (.invokevirtual 277, 3) := by decide +kernel
theorem dL_law_1412 : decode cL_law 1412 = .ok (.istore 7, 2) := by decide +kernel
theorem dL_law_1414 : decode cL_law 1414 = .ok (.goto 450, 3) := by decide +kernel
theorem dL_law_1417 : decode cL_law 1417 = .ok (.aload_n 1, 1) := by decide +kernel
theorem dL_law_1418 : decode cL_law 1418 = .ok (.invokevirtual 278, 3) := by decide +kernel
theorem dL_law_1421 : decode cL_law 1421 = .ok (.pop, 1) := by decide +kernel
theorem dL_law_1422 : decode cL_law 1422 = .ok (.aload_n 2, 1) := by decide +kernel
theorem dL_law_1423 : decode cL_law 1423 = .ok (.invokevirtual 281, 3) := by decide +kernel
theorem dL_law_1426 : decode cL_law 1426 = .ok (.pop, 1) := by decide +kernel
theorem dL_law_1427 : decode cL_law 1427 = .ok (.goto 437, 3) := by decide +kernel
theorem dL_law_1430 : decode cL_law 1430 = .ok (.aload_n 1, 1) := by decide +kernel
theorem dL_law_1431 : decode cL_law 1431 = .ok (.invokevirtual 282, 3) := by decide +kernel
theorem dL_law_1434 : decode cL_law 1434 = .ok (.pop, 1) := by decide +kernel
theorem dL_law_1435 : decode cL_law 1435 = .ok (.aload_n 2, 1) := by decide +kernel
theorem dL_law_1436 : decode cL_law 1436 = .ok (.invokevirtual 285, 3) := by decide +kernel
theorem dL_law_1439 : decode cL_law 1439 = .ok (.pop, 1) := by decide +kernel
theorem dL_law_1440 : decode cL_law 1440 = .ok (.goto 424, 3) := by decide +kernel
theorem dL_law_1443 : decode cL_law 1443 = .ok (.aload_n 1, 1) := by decide +kernel
theorem dL_law_1444 : decode cL_law 1444 = .ok (.aload_n 0, 1) := by decide +kernel
theorem dL_law_1445 : decode cL_law 1445 = .ok (.iload 5, 2) := by decide +kernel
theorem dL_law_1447 : decode cL_law 1447 = .ok (.iconst 1, 1) := by decide +kernel
theorem dL_law_1448 : decode cL_law 1448 = .ok (.iadd, 1) := by decide +kernel
theorem dL_law_1449 : decode cL_law 1449 = .ok (.iaload, 1) := by decide +kernel
theorem dL_law_1450 : decode cL_law 1450 = .ok (.aload_n 3, 1) := by decide +kernel
theorem dL_law_1451 : decode cL_law 1451 = .ok (.invokestatic 286, 3) := by decide +kernel
theorem dL_law_1454 : decode cL_law 1454 = .ok (.istore 6, 2) := by decide +kernel
theorem dL_law_1456 : decode cL_law 1456 = .ok (.aload_n 2, 1) := by decide +kernel
theorem dL_law_1457 : decode cL_law 1457 = .ok (.aload_n 0, 1) := by decide +kernel
theorem dL_law_1458 : decode cL_law 1458 = .ok (.iload 5, 2) := by decide +kernel
theorem dL_law_1460 : decode cL_law 1460 = .ok (.iconst 1, 1) := by decide +kernel
theorem dL_law_1461 : decode cL_law 1461 = .ok (.iadd, 1) := by decide +kernel
theorem dL_law_1462 : decode cL_law 1462 = .ok (.iaload, 1) := by decide +kernel
theorem dL_law_1463 : decode cL_law 1463 = .ok (.invokevirtual 288, 3) := by decide +kernel
theorem dL_law_1466 : decode cL_law 1466 = .ok (.istore 7, 2) := by decide +kernel
theorem dL_law_1468 : decode cL_law 1468 = .ok (.goto 396, 3) := by decide +kernel
set_option maxRecDepth 100000 in
set_option maxHeartbeats 4000000 in
theorem lg_27 (X : LX p l s m meth c D cy σ0 eda ca ia ad τ q0 x0 sa L xs) (ht : t < 512) (hc0 : c0 ≤ 40000) (hn0 : n0 ≤ 400000) (hI : LI D cy s σ0 eda ia ad τ q0 x0 av qv fd a0 oa od t c0 n0 H locs k N) (hi : i.toInt = 6 * (t : Int)) (hL : 6 * t + 6 ≤ L) (hl : lv_has ls 9 [(5, .int i), (4, .ref od), (3, .ref oa), (2, .ref a0), (1, .ref x0), (0, .ref sa)]) (hE : ∀ (H : Heap) (locs : List Loc) (k N : Nat) (ls : Array Slot), LI D cy s σ0 eda ia ad τ q0 x0 av qv fd a0 oa od (t + 1) c0 n0 H locs k N → lv_has ls 9 [(5, .int i), (4, .ref od), (3, .ref oa), (2, .ref a0), (1, .ref x0), (0, .ref sa)] → W p l e room_1 s m #[Value.ref sa] below meth c H locs k N Q (F0 m 1864 ls [])) : W p l e room_1 s m #[Value.ref sa] below meth c H locs k N Q (F0 m 1199 ls []) := by
  obtain ⟨F, hst, hs, hr0, hr1, hTT, hXs, hbl, hbA, hp0, hL9⟩ := X
  obtain ⟨hx, hb, hml, hown, hts⟩ := id F.1
  obtain ⟨σ, K, g, n, S, hw, nn, w, f, fD, hB, hnn, hk, hSS, hV, hKa, hY, hH, hO, hD, ht9, hC⟩ := hI
  subst hKa
  refine lv_aload_n hx hb dL_law_1199 rfl (lv_at hl 4 rfl) ?_
  refine lv_aload_n hx hb dL_law_1200 rfl (lv_at hl 5 rfl) ?_
  refine lv_iload hx hb dL_law_1201 (lv_at hl 0 rfl) ?_
  refine lv_iconst (v := 1) hx hb dL_law_1203 (by decide) ?_
  refine lv_iadd hx hb dL_law_1204 ?_
  refine va_sld hx hb hXs hbl hbA hB.1.2.2 (lx_in hi hL hL9 (k := 1) (by decide)) dL_law_1205 ?_
  refine lv_aload_n hx hb dL_law_1206 rfl (lv_at hl 2 rfl) ?_
  refine lw_wk (wr := [(od, .inl (cy 3, 1, .inr (.inr (.inr (.inl fD)))))]) (rest := []) (vx_runSW (g := F0 m 1207 ls _) (As := [.ref x0, .int (xs (i + 1).toNatClampNeg), .ref oa]) (rest := []) F.1 (w_ring l D cy hst _ oa _ hs ht9 hr0 hr1 ((xs (i + 1).toNatClampNeg))) (vx_cwSW 3 hts (lwS lxl_ (lx_ _ (List.mem_of_getElem? (i := 369) rfl)) (lx_ _ (List.mem_of_getElem? (i := 370) rfl)) (lx_ _ (List.mem_of_getElem? (i := 177) rfl)) (lx_ _ (List.mem_of_getElem? (i := 371) rfl))) rfl rfl rfl ⟨by decide, by decide, by decide +kernel⟩ ⟨Nat.le_of_ble_eq_true rfl, Nat.le_of_ble_eq_true rfl⟩) ⟨vi_px_blind, vi_px hO.1.right hD.right F.2.1 F.2.2.1 hTT hB.1.2.2 sgB_A⟩ rfl rfl hl.1 rfl (lv_room (Nat.le_of_ble_eq_true rfl)) dL_law_1207 ⟨rm_c (show _ + 1 ≤ 606000 by omega), rm_s (show _ + 6 * 1 ≤ 7100000 by have := hB.2.2; omega)⟩) hB hO hD ht9 (fun H locs kx1 w2 f1 hB hO hD ht1 hk9 => ?_)
  obtain ⟨w3, hC, hO, hD, ht9⟩ := CS_kept (a := (od, .inl (cy 3, 1, .inr (.inr (.inr (.inl fD)))))) hC ht1 hk9 (by decide +kernel) (by decide +kernel) hO hD
  have hO : lwO D σ ([(od, .inl (cy 3, 1, .inr (.inr (.inr (.inl fD)))))] ++ (oa, .inl (cy 2, 1, .inr (.inl f1))) :: w3) H := hO
  have hD : va_D (sgA σ0 s.heap.size) ([(od, .inl (cy 3, 1, .inr (.inr (.inr (.inl fD)))))] ++ (oa, .inl (cy 2, 1, .inr (.inl f1))) :: w3) := hD
  refine lv_istore (lv' := [(6, .int kx1), (5, .int i), (4, .ref od), (3, .ref oa), (2, .ref (kA K)), (1, .ref x0), (0, .ref sa)]) hx hb dL_law_1210 hl (by decide) rfl (fun ls hl => ?_)
  refine lv_aload_n hx hb dL_law_1212 rfl (lv_at hl 4 rfl) ?_
  refine lv_aload_n hx hb dL_law_1213 rfl (lv_at hl 6 rfl) ?_
  refine lv_iload hx hb dL_law_1214 (lv_at hl 1 rfl) ?_
  refine lv_iconst (v := 1) hx hb dL_law_1216 (by decide) ?_
  refine lv_iadd hx hb dL_law_1217 ?_
  refine va_sld hx hb hXs hbl hbA hB.1.2.2 (lx_in hi hL hL9 (k := 1) (by decide)) dL_law_1218 ?_
  refine lw_callV (ci := 19) (b := kA K) (As := [.int (xs (i + 1).toNatClampNeg)]) (rest := []) F hB hO (m_ring l D cy hV ((xs (i + 1).toNatClampNeg)) _) (cwV 1 hts (lwV lxm_ (lx_ _ (List.mem_of_getElem? (i := 372) rfl)) (lx_ _ (List.mem_of_getElem? (i := 373) rfl)) (lx_ _ (List.mem_of_getElem? (i := 374) rfl)) (lx_ _ (List.mem_of_getElem? (i := 182) rfl)) (lx_ _ (List.mem_of_getElem? (i := 375) rfl))) rfl rfl rfl ⟨rfl, by decide, by decide, by decide +kernel⟩ ⟨Nat.le_of_ble_eq_true rfl, Nat.le_of_ble_eq_true rfl⟩) rfl rfl (by decide) rfl hl.1 rfl (Nat.le_of_ble_eq_true rfl) dL_law_1219 (rm_c (show _ + 1 ≤ 606000 by omega)) (rm_s (show _ + 4 + sgPot σ0 ≤ 7100000 by omega)) (inv_Mr hV).1 (fun H locs v σ N hB hX hP hO => ?_)
  obtain ⟨⟨y5, rfl⟩, hV⟩ := hP
  refine lv_istore (lv' := [(7, .int y5), (6, .int kx1), (5, .int i), (4, .ref od), (3, .ref oa), (2, .ref (kA K)), (1, .ref x0), (0, .ref sa)]) hx hb dL_law_1222 hl (by decide) rfl (fun ls hl => ?_)
  refine lv_goto (tgt := 1864) hx hb dL_law_1224 (by decide) ?_
  exact hE _ _ _ _ _ ⟨σ, K, g, n, S, hw, _, w3, f1, fD, hB, by omega, by omega, by omega, hV, rfl, hY, hH, hO, hD, ht9, CS_up hC (by omega)⟩ (lv_sub hl [2, 3, 4, 5, 6, 7] rfl)

set_option maxRecDepth 100000 in
set_option maxHeartbeats 4000000 in
theorem lg_28 (X : LX p l s m meth c D cy σ0 eda ca ia ad τ q0 x0 sa L xs) (ht : t < 512) (hc0 : c0 ≤ 40000) (hn0 : n0 ≤ 400000) (hI : LI D cy s σ0 eda ia ad τ q0 x0 av qv fd a0 oa od t c0 n0 H locs k N) (hi : i.toInt = 6 * (t : Int)) (hL : 6 * t + 6 ≤ L) (hl : lv_has ls 9 [(5, .int i), (4, .ref od), (3, .ref oa), (2, .ref a0), (1, .ref x0), (0, .ref sa)]) (hE : ∀ (H : Heap) (locs : List Loc) (k N : Nat) (ls : Array Slot), LI D cy s σ0 eda ia ad τ q0 x0 av qv fd a0 oa od (t + 1) c0 n0 H locs k N → lv_has ls 9 [(5, .int i), (4, .ref od), (3, .ref oa), (2, .ref a0), (1, .ref x0), (0, .ref sa)] → W p l e room_1 s m #[Value.ref sa] below meth c H locs k N Q (F0 m 1864 ls [])) : W p l e room_1 s m #[Value.ref sa] below meth c H locs k N Q (F0 m 1227 ls []) := by
  obtain ⟨F, hst, hs, hr0, hr1, hTT, hXs, hbl, hbA, hp0, hL9⟩ := X
  obtain ⟨hx, hb, hml, hown, hts⟩ := id F.1
  obtain ⟨σ, K, g, n, S, hw, nn, w, f, fD, hB, hnn, hk, hSS, hV, hKa, hY, hH, hO, hD, ht9, hC⟩ := hI
  subst hKa
  refine lv_aload_n hx hb dL_law_1227 rfl (lv_at hl 4 rfl) ?_
  refine lv_aload_n hx hb dL_law_1228 rfl (lv_at hl 5 rfl) ?_
  refine lv_iload hx hb dL_law_1229 (lv_at hl 0 rfl) ?_
  refine lv_iconst (v := 1) hx hb dL_law_1231 (by decide) ?_
  refine lv_iadd hx hb dL_law_1232 ?_
  refine va_sld hx hb hXs hbl hbA hB.1.2.2 (lx_in hi hL hL9 (k := 1) (by decide)) dL_law_1233 ?_
  refine lv_aload_n hx hb dL_law_1234 rfl (lv_at hl 2 rfl) ?_
  refine lw_wk (wr := [(od, .inl (cy 3, 1, .inr (.inr (.inr (.inl fD)))))]) (rest := []) (vx_runSW (g := F0 m 1235 ls _) (As := [.ref x0, .int (xs (i + 1).toNatClampNeg), .ref oa]) (rest := []) F.1 (w_isHalted l D cy hst _ oa _ hs ht9 hr0 hr1 ((xs (i + 1).toNatClampNeg))) (vx_cwSW 3 hts (lwS lxl_ (lx_ _ (List.mem_of_getElem? (i := 376) rfl)) (lx_ _ (List.mem_of_getElem? (i := 377) rfl)) (lx_ _ (List.mem_of_getElem? (i := 177) rfl)) (lx_ _ (List.mem_of_getElem? (i := 378) rfl))) rfl rfl rfl ⟨by decide, by decide, by decide +kernel⟩ ⟨Nat.le_of_ble_eq_true rfl, Nat.le_of_ble_eq_true rfl⟩) ⟨vi_px_blind, vi_px hO.1.right hD.right F.2.1 F.2.2.1 hTT hB.1.2.2 sgB_A⟩ rfl rfl hl.1 rfl (lv_room (Nat.le_of_ble_eq_true rfl)) dL_law_1235 ⟨rm_c (show _ + 1 ≤ 606000 by omega), rm_s (show _ + 6 * 1 ≤ 7100000 by have := hB.2.2; omega)⟩) hB hO hD ht9 (fun H locs kx1 w2 f1 hB hO hD ht1 hk9 => ?_)
  obtain ⟨w3, hC, hO, hD, ht9⟩ := CS_kept (a := (od, .inl (cy 3, 1, .inr (.inr (.inr (.inl fD)))))) hC ht1 hk9 (by decide +kernel) (by decide +kernel) hO hD
  have hO : lwO D σ ([(od, .inl (cy 3, 1, .inr (.inr (.inr (.inl fD)))))] ++ (oa, .inl (cy 2, 1, .inr (.inl f1))) :: w3) H := hO
  have hD : va_D (sgA σ0 s.heap.size) ([(od, .inl (cy 3, 1, .inr (.inr (.inr (.inl fD)))))] ++ (oa, .inl (cy 2, 1, .inr (.inl f1))) :: w3) := hD
  refine lv_istore (lv' := [(6, .int kx1), (5, .int i), (4, .ref od), (3, .ref oa), (2, .ref (kA K)), (1, .ref x0), (0, .ref sa)]) hx hb dL_law_1238 hl (by decide) rfl (fun ls hl => ?_)
  refine lv_aload_n hx hb dL_law_1240 rfl (lv_at hl 4 rfl) ?_
  refine lv_aload_n hx hb dL_law_1241 rfl (lv_at hl 6 rfl) ?_
  refine lv_iload hx hb dL_law_1242 (lv_at hl 1 rfl) ?_
  refine lv_iconst (v := 1) hx hb dL_law_1244 (by decide) ?_
  refine lv_iadd hx hb dL_law_1245 ?_
  refine va_sld hx hb hXs hbl hbA hB.1.2.2 (lx_in hi hL hL9 (k := 1) (by decide)) dL_law_1246 ?_
  refine lw_callV (ci := 19) (b := kA K) (As := [.int (xs (i + 1).toNatClampNeg)]) (rest := []) F hB hO (m_isHalted l D cy hV ((xs (i + 1).toNatClampNeg)) _) (cwV 1 hts (lwV lxm_ (lx_ _ (List.mem_of_getElem? (i := 379) rfl)) (lx_ _ (List.mem_of_getElem? (i := 380) rfl)) (lx_ _ (List.mem_of_getElem? (i := 381) rfl)) (lx_ _ (List.mem_of_getElem? (i := 182) rfl)) (lx_ _ (List.mem_of_getElem? (i := 382) rfl))) rfl rfl rfl ⟨rfl, by decide, by decide, by decide +kernel⟩ ⟨Nat.le_of_ble_eq_true rfl, Nat.le_of_ble_eq_true rfl⟩) rfl rfl (by decide) rfl hl.1 rfl (Nat.le_of_ble_eq_true rfl) dL_law_1247 (rm_c (show _ + 0 ≤ 606000 by omega)) (rm_s (show _ + 0 + sgPot σ0 ≤ 7100000 by omega)) (inv_Mr hV).1 (fun H locs v σ N hB hX hP hO => ?_)
  obtain ⟨⟨y5, rfl⟩, hV⟩ := hP
  refine lv_istore (lv' := [(7, .int y5), (6, .int kx1), (5, .int i), (4, .ref od), (3, .ref oa), (2, .ref (kA K)), (1, .ref x0), (0, .ref sa)]) hx hb dL_law_1250 hl (by decide) rfl (fun ls hl => ?_)
  refine lv_goto (tgt := 1864) hx hb dL_law_1252 (by decide) ?_
  exact hE _ _ _ _ _ ⟨σ, K, g, n, S, hw, _, w3, f1, fD, hB, by omega, by omega, by omega, hV, rfl, hY, hH, hO, hD, ht9, CS_up hC (by omega)⟩ (lv_sub hl [2, 3, 4, 5, 6, 7] rfl)

set_option maxRecDepth 100000 in
set_option maxHeartbeats 4000000 in
theorem lg_29 (X : LX p l s m meth c D cy σ0 eda ca ia ad τ q0 x0 sa L xs) (ht : t < 512) (hc0 : c0 ≤ 40000) (hn0 : n0 ≤ 400000) (hI : LI D cy s σ0 eda ia ad τ q0 x0 av qv fd a0 oa od t c0 n0 H locs k N) (hi : i.toInt = 6 * (t : Int)) (hL : 6 * t + 6 ≤ L) (hl : lv_has ls 9 [(5, .int i), (4, .ref od), (3, .ref oa), (2, .ref a0), (1, .ref x0), (0, .ref sa)]) (hE : ∀ (H : Heap) (locs : List Loc) (k N : Nat) (ls : Array Slot), LI D cy s σ0 eda ia ad τ q0 x0 av qv fd a0 oa od (t + 1) c0 n0 H locs k N → lv_has ls 9 [(5, .int i), (4, .ref od), (3, .ref oa), (2, .ref a0), (1, .ref x0), (0, .ref sa)] → W p l e room_1 s m #[Value.ref sa] below meth c H locs k N Q (F0 m 1864 ls [])) : W p l e room_1 s m #[Value.ref sa] below meth c H locs k N Q (F0 m 1255 ls []) := by
  obtain ⟨F, hst, hs, hr0, hr1, hTT, hXs, hbl, hbA, hp0, hL9⟩ := X
  obtain ⟨hx, hb, hml, hown, hts⟩ := id F.1
  obtain ⟨σ, K, g, n, S, hw, nn, w, f, fD, hB, hnn, hk, hSS, hV, hKa, hY, hH, hO, hD, ht9, hC⟩ := hI
  subst hKa
  refine lv_aload_n hx hb dL_law_1255 rfl (lv_at hl 4 rfl) ?_
  refine lv_aload_n hx hb dL_law_1256 rfl (lv_at hl 5 rfl) ?_
  refine lv_iload hx hb dL_law_1257 (lv_at hl 0 rfl) ?_
  refine lv_iconst (v := 1) hx hb dL_law_1259 (by decide) ?_
  refine lv_iadd hx hb dL_law_1260 ?_
  refine va_sld hx hb hXs hbl hbA hB.1.2.2 (lx_in hi hL hL9 (k := 1) (by decide)) dL_law_1261 ?_
  refine lv_aload_n hx hb dL_law_1262 rfl (lv_at hl 2 rfl) ?_
  refine lw_wk (wr := [(od, .inl (cy 3, 1, .inr (.inr (.inr (.inl fD)))))]) (rest := []) (vx_runSW (g := F0 m 1263 ls _) (As := [.ref x0, .int (xs (i + 1).toNatClampNeg), .ref oa]) (rest := []) F.1 (w_clear l D cy hst _ oa _ hs ht9 hr0 hr1 ((xs (i + 1).toNatClampNeg))) (vx_cwSW 3 hts (lwS lxl_ (lx_ _ (List.mem_of_getElem? (i := 383) rfl)) (lx_ _ (List.mem_of_getElem? (i := 384) rfl)) (lx_ _ (List.mem_of_getElem? (i := 177) rfl)) (lx_ _ (List.mem_of_getElem? (i := 385) rfl))) rfl rfl rfl ⟨by decide, by decide, by decide +kernel⟩ ⟨Nat.le_of_ble_eq_true rfl, Nat.le_of_ble_eq_true rfl⟩) ⟨vi_px_blind, vi_px hO.1.right hD.right F.2.1 F.2.2.1 hTT hB.1.2.2 sgB_A⟩ rfl rfl hl.1 rfl (lv_room (Nat.le_of_ble_eq_true rfl)) dL_law_1263 ⟨rm_c (show _ + 1 ≤ 606000 by omega), rm_s (show _ + 6 * 1 ≤ 7100000 by have := hB.2.2; omega)⟩) hB hO hD ht9 (fun H locs kx1 w2 f1 hB hO hD ht1 hk9 => ?_)
  obtain ⟨w3, hC, hO, hD, ht9⟩ := CS_kept (a := (od, .inl (cy 3, 1, .inr (.inr (.inr (.inl fD)))))) hC ht1 hk9 (by decide +kernel) (by decide +kernel) hO hD
  have hO : lwO D σ ([(od, .inl (cy 3, 1, .inr (.inr (.inr (.inl fD)))))] ++ (oa, .inl (cy 2, 1, .inr (.inl f1))) :: w3) H := hO
  have hD : va_D (sgA σ0 s.heap.size) ([(od, .inl (cy 3, 1, .inr (.inr (.inr (.inl fD)))))] ++ (oa, .inl (cy 2, 1, .inr (.inl f1))) :: w3) := hD
  refine lv_istore (lv' := [(6, .int kx1), (5, .int i), (4, .ref od), (3, .ref oa), (2, .ref (kA K)), (1, .ref x0), (0, .ref sa)]) hx hb dL_law_1266 hl (by decide) rfl (fun ls hl => ?_)
  refine lv_aload_n hx hb dL_law_1268 rfl (lv_at hl 4 rfl) ?_
  refine lv_aload_n hx hb dL_law_1269 rfl (lv_at hl 6 rfl) ?_
  refine lv_iload hx hb dL_law_1270 (lv_at hl 1 rfl) ?_
  refine lv_iconst (v := 1) hx hb dL_law_1272 (by decide) ?_
  refine lv_iadd hx hb dL_law_1273 ?_
  refine va_sld hx hb hXs hbl hbA hB.1.2.2 (lx_in hi hL hL9 (k := 1) (by decide)) dL_law_1274 ?_
  refine lw_callV (ci := 19) (b := kA K) (As := [.int (xs (i + 1).toNatClampNeg)]) (rest := []) F hB hO (m_clear_ l D cy hV ((xs (i + 1).toNatClampNeg)) _) (cwV 1 hts (lwV lxm_ (lx_ _ (List.mem_of_getElem? (i := 386) rfl)) (lx_ _ (List.mem_of_getElem? (i := 387) rfl)) (lx_ _ (List.mem_of_getElem? (i := 388) rfl)) (lx_ _ (List.mem_of_getElem? (i := 182) rfl)) (lx_ _ (List.mem_of_getElem? (i := 389) rfl))) rfl rfl rfl ⟨rfl, by decide, by decide, by decide +kernel⟩ ⟨Nat.le_of_ble_eq_true rfl, Nat.le_of_ble_eq_true rfl⟩) rfl rfl (by decide) rfl hl.1 rfl (Nat.le_of_ble_eq_true rfl) dL_law_1275 (rm_c (show _ + 0 ≤ 606000 by omega)) (rm_s (show _ + 0 + sgPot σ0 ≤ 7100000 by omega)) (inv_Mr hV).1 (fun H locs v σ N hB hX hP hO => ?_)
  obtain ⟨⟨y5, rfl⟩, hV⟩ := hP
  refine lv_istore (lv' := [(7, .int y5), (6, .int kx1), (5, .int i), (4, .ref od), (3, .ref oa), (2, .ref (kA K)), (1, .ref x0), (0, .ref sa)]) hx hb dL_law_1278 hl (by decide) rfl (fun ls hl => ?_)
  refine lv_goto (tgt := 1864) hx hb dL_law_1280 (by decide) ?_
  exact hE _ _ _ _ _ ⟨σ, K, g, n, S, hw, _, w3, f1, fD, hB, by omega, by omega, by omega, hV, rfl, hY, hH, hO, hD, ht9, CS_up hC (by omega)⟩ (lv_sub hl [2, 3, 4, 5, 6, 7] rfl)

set_option maxRecDepth 100000 in
set_option maxHeartbeats 4000000 in
theorem lg_30 (X : LX p l s m meth c D cy σ0 eda ca ia ad τ q0 x0 sa L xs) (ht : t < 512) (hc0 : c0 ≤ 40000) (hn0 : n0 ≤ 400000) (hI : LI D cy s σ0 eda ia ad τ q0 x0 av qv fd a0 oa od t c0 n0 H locs k N) (hi : i.toInt = 6 * (t : Int)) (hL : 6 * t + 6 ≤ L) (hl : lv_has ls 9 [(5, .int i), (4, .ref od), (3, .ref oa), (2, .ref a0), (1, .ref x0), (0, .ref sa)]) (hE : ∀ (H : Heap) (locs : List Loc) (k N : Nat) (ls : Array Slot), LI D cy s σ0 eda ia ad τ q0 x0 av qv fd a0 oa od (t + 1) c0 n0 H locs k N → lv_has ls 9 [(5, .int i), (4, .ref od), (3, .ref oa), (2, .ref a0), (1, .ref x0), (0, .ref sa)] → W p l e room_1 s m #[Value.ref sa] below meth c H locs k N Q (F0 m 1864 ls [])) : W p l e room_1 s m #[Value.ref sa] below meth c H locs k N Q (F0 m 1283 ls []) := by
  obtain ⟨F, hst, hs, hr0, hr1, hTT, hXs, hbl, hbA, hp0, hL9⟩ := X
  obtain ⟨hx, hb, hml, hown, hts⟩ := id F.1
  obtain ⟨σ, K, g, n, S, hw, nn, w, f, fD, hB, hnn, hk, hSS, hV, hKa, hY, hH, hO, hD, ht9, hC⟩ := hI
  subst hKa
  refine lv_aload_n hx hb dL_law_1283 rfl (lv_at hl 4 rfl) ?_
  refine lv_aload_n hx hb dL_law_1284 rfl (lv_at hl 5 rfl) ?_
  refine lv_iload hx hb dL_law_1285 (lv_at hl 0 rfl) ?_
  refine lv_iconst (v := 1) hx hb dL_law_1287 (by decide) ?_
  refine lv_iadd hx hb dL_law_1288 ?_
  refine va_sld hx hb hXs hbl hbA hB.1.2.2 (lx_in hi hL hL9 (k := 1) (by decide)) dL_law_1289 ?_
  refine lv_aload_n hx hb dL_law_1290 rfl (lv_at hl 2 rfl) ?_
  refine lw_wkS (wr := [(od, .inl (cy 3, 1, .inr (.inr (.inr (.inl fD)))))]) (rest := []) (vx_runSW (g := F0 m 1291 ls _) (As := [.ref x0, .int (xs (i + 1).toNatClampNeg), .ref oa]) (rest := []) F.1 (ws_cancel l D cy hst _ oa _ hs hr1 hC ((xs (i + 1).toNatClampNeg))) (vx_cwSW 3 hts (lwS lxl_ (lx_ _ (List.mem_of_getElem? (i := 390) rfl)) (lx_ _ (List.mem_of_getElem? (i := 391) rfl)) (lx_ _ (List.mem_of_getElem? (i := 177) rfl)) (lx_ _ (List.mem_of_getElem? (i := 392) rfl))) rfl rfl rfl ⟨by decide, by decide, by decide +kernel⟩ ⟨Nat.le_of_ble_eq_true rfl, Nat.le_of_ble_eq_true rfl⟩) ⟨vi_px_blind, vi_px hO.1.right hD.right F.2.1 F.2.2.1 hTT hB.1.2.2 sgB_A⟩ rfl rfl hl.1 rfl (lv_room (Nat.le_of_ble_eq_true rfl)) dL_law_1291 ⟨rm_c (show _ + 2 ≤ 606000 by omega), rm_s (show _ + 6 * 2 ≤ 7100000 by have := hB.2.2; omega)⟩) hB hO hD ht9 (fun H locs kx1 w2 f1 hB hO hD ht1 hC => ?_)
  have ht9 := ht1
  refine lv_istore (lv' := [(6, .int kx1), (5, .int i), (4, .ref od), (3, .ref oa), (2, .ref (kA K)), (1, .ref x0), (0, .ref sa)]) hx hb dL_law_1294 hl (by decide) rfl (fun ls hl => ?_)
  refine lv_aload_n hx hb dL_law_1296 rfl (lv_at hl 4 rfl) ?_
  refine lv_aload_n hx hb dL_law_1297 rfl (lv_at hl 6 rfl) ?_
  refine lv_iload hx hb dL_law_1298 (lv_at hl 1 rfl) ?_
  refine lv_iconst (v := 1) hx hb dL_law_1300 (by decide) ?_
  refine lv_iadd hx hb dL_law_1301 ?_
  refine va_sld hx hb hXs hbl hbA hB.1.2.2 (lx_in hi hL hL9 (k := 1) (by decide)) dL_law_1302 ?_
  refine lw_callV (ci := 19) (b := kA K) (As := [.int (xs (i + 1).toNatClampNeg)]) (rest := []) F hB hO (m_cancel l D cy hV ((xs (i + 1).toNatClampNeg)) _) (cwV 1 hts (lwV lxm_ (lx_ _ (List.mem_of_getElem? (i := 393) rfl)) (lx_ _ (List.mem_of_getElem? (i := 394) rfl)) (lx_ _ (List.mem_of_getElem? (i := 395) rfl)) (lx_ _ (List.mem_of_getElem? (i := 182) rfl)) (lx_ _ (List.mem_of_getElem? (i := 396) rfl))) rfl rfl rfl ⟨rfl, by decide, by decide, by decide +kernel⟩ ⟨Nat.le_of_ble_eq_true rfl, Nat.le_of_ble_eq_true rfl⟩) rfl rfl (by decide) rfl hl.1 rfl (Nat.le_of_ble_eq_true rfl) dL_law_1303 (rm_c (show _ + 2 ≤ 606000 by omega)) (rm_s (show _ + 18 + sgPot σ0 ≤ 7100000 by omega)) (inv_Mr hV).1 (fun H locs v σ N hB hX hP hO => ?_)
  obtain ⟨⟨y4, rfl⟩, hV⟩ := hP
  refine lv_istore (lv' := [(7, .int y4), (6, .int kx1), (5, .int i), (4, .ref od), (3, .ref oa), (2, .ref (kA K)), (1, .ref x0), (0, .ref sa)]) hx hb dL_law_1306 hl (by decide) rfl (fun ls hl => ?_)
  refine lv_goto (tgt := 1864) hx hb dL_law_1308 (by decide) ?_
  exact hE _ _ _ _ _ ⟨σ, K, g, n, S, hw, _, w2, f1, fD, hB, by omega, by omega, by omega, hV, rfl, hY, hH, hO, hD, ht9, CS_up hC (by omega)⟩ (lv_sub hl [2, 3, 4, 5, 6, 7] rfl)

set_option maxRecDepth 100000 in
set_option maxHeartbeats 4000000 in
theorem lg_31 (X : LX p l s m meth c D cy σ0 eda ca ia ad τ q0 x0 sa L xs) (ht : t < 512) (hc0 : c0 ≤ 40000) (hn0 : n0 ≤ 400000) (hI : LI D cy s σ0 eda ia ad τ q0 x0 av qv fd a0 oa od t c0 n0 H locs k N) (hi : i.toInt = 6 * (t : Int)) (hL : 6 * t + 6 ≤ L) (hl : lv_has ls 9 [(5, .int i), (4, .ref od), (3, .ref oa), (2, .ref a0), (1, .ref x0), (0, .ref sa)]) (hE : ∀ (H : Heap) (locs : List Loc) (k N : Nat) (ls : Array Slot), LI D cy s σ0 eda ia ad τ q0 x0 av qv fd a0 oa od (t + 1) c0 n0 H locs k N → lv_has ls 9 [(5, .int i), (4, .ref od), (3, .ref oa), (2, .ref a0), (1, .ref x0), (0, .ref sa)] → W p l e room_1 s m #[Value.ref sa] below meth c H locs k N Q (F0 m 1864 ls [])) : W p l e room_1 s m #[Value.ref sa] below meth c H locs k N Q (F0 m 1311 ls []) := by
  obtain ⟨F, hst, hs, hr0, hr1, hTT, hXs, hbl, hbA, hp0, hL9⟩ := X
  obtain ⟨hx, hb, hml, hown, hts⟩ := id F.1
  obtain ⟨σ, K, g, n, S, hw, nn, w, f, fD, hB, hnn, hk, hSS, hV, hKa, hY, hH, hO, hD, ht9, hC⟩ := hI
  subst hKa
  refine lv_aload_n hx hb dL_law_1311 rfl (lv_at hl 4 rfl) ?_
  refine lv_aload_n hx hb dL_law_1312 rfl (lv_at hl 5 rfl) ?_
  refine lv_iload hx hb dL_law_1313 (lv_at hl 0 rfl) ?_
  refine lv_iconst (v := 1) hx hb dL_law_1315 (by decide) ?_
  refine lv_iadd hx hb dL_law_1316 ?_
  refine va_sld hx hb hXs hbl hbA hB.1.2.2 (lx_in hi hL hL9 (k := 1) (by decide)) dL_law_1317 ?_
  refine lv_aload_n hx hb dL_law_1318 rfl (lv_at hl 5 rfl) ?_
  refine lv_iload hx hb dL_law_1319 (lv_at hl 0 rfl) ?_
  refine lv_iconst (v := 2) hx hb dL_law_1321 (by decide) ?_
  refine lv_iadd hx hb dL_law_1322 ?_
  refine va_sld hx hb hXs hbl hbA hB.1.2.2 (lx_in hi hL hL9 (k := 2) (by decide)) dL_law_1323 ?_
  refine lv_aload_n hx hb dL_law_1324 rfl (lv_at hl 2 rfl) ?_
  refine lw_wkS (wr := [(od, .inl (cy 3, 1, .inr (.inr (.inr (.inl fD)))))]) (rest := []) (vx_runSW (g := F0 m 1325 ls _) (As := [.ref x0, .int (xs (i + 1).toNatClampNeg), .int (xs (i + 2).toNatClampNeg), .ref oa]) (rest := []) F.1 (ws_load l D cy hst _ oa _ hs hr1 hC ((xs (i + 1).toNatClampNeg)) ((xs (i + 2).toNatClampNeg))) (vx_cwSW 4 hts (lwS lxl_ (lx_ _ (List.mem_of_getElem? (i := 397) rfl)) (lx_ _ (List.mem_of_getElem? (i := 398) rfl)) (lx_ _ (List.mem_of_getElem? (i := 177) rfl)) (lx_ _ (List.mem_of_getElem? (i := 399) rfl))) rfl rfl rfl ⟨by decide, by decide, by decide +kernel⟩ ⟨Nat.le_of_ble_eq_true rfl, Nat.le_of_ble_eq_true rfl⟩) ⟨vi_px_blind, vi_px hO.1.right hD.right F.2.1 F.2.2.1 hTT hB.1.2.2 sgB_A⟩ rfl rfl hl.1 rfl (lv_room (Nat.le_of_ble_eq_true rfl)) dL_law_1325 ⟨rm_c (show _ + 3 ≤ 606000 by omega), rm_s (show _ + 6 * 3 ≤ 7100000 by have := hB.2.2; omega)⟩) hB hO hD ht9 (fun H locs kx1 w2 f1 hB hO hD ht1 hC => ?_)
  have ht9 := ht1
  refine lv_istore (lv' := [(6, .int kx1), (5, .int i), (4, .ref od), (3, .ref oa), (2, .ref (kA K)), (1, .ref x0), (0, .ref sa)]) hx hb dL_law_1328 hl (by decide) rfl (fun ls hl => ?_)
  refine lv_aload_n hx hb dL_law_1330 rfl (lv_at hl 4 rfl) ?_
  refine lv_aload_n hx hb dL_law_1331 rfl (lv_at hl 6 rfl) ?_
  refine lv_iload hx hb dL_law_1332 (lv_at hl 1 rfl) ?_
  refine lv_iconst (v := 1) hx hb dL_law_1334 (by decide) ?_
  refine lv_iadd hx hb dL_law_1335 ?_
  refine va_sld hx hb hXs hbl hbA hB.1.2.2 (lx_in hi hL hL9 (k := 1) (by decide)) dL_law_1336 ?_
  refine lv_aload_n hx hb dL_law_1337 rfl (lv_at hl 6 rfl) ?_
  refine lv_iload hx hb dL_law_1338 (lv_at hl 1 rfl) ?_
  refine lv_iconst (v := 2) hx hb dL_law_1340 (by decide) ?_
  refine lv_iadd hx hb dL_law_1341 ?_
  refine va_sld hx hb hXs hbl hbA hB.1.2.2 (lx_in hi hL hL9 (k := 2) (by decide)) dL_law_1342 ?_
  refine lw_callV (ci := 19) (b := kA K) (As := [.int (xs (i + 1).toNatClampNeg), .int (xs (i + 2).toNatClampNeg)]) (rest := []) F hB hO (m_load l D cy hV ((xs (i + 1).toNatClampNeg)) ((xs (i + 2).toNatClampNeg)) _) (cwV 2 hts (lwV lxm_ (lx_ _ (List.mem_of_getElem? (i := 400) rfl)) (lx_ _ (List.mem_of_getElem? (i := 401) rfl)) (lx_ _ (List.mem_of_getElem? (i := 402) rfl)) (lx_ _ (List.mem_of_getElem? (i := 182) rfl)) (lx_ _ (List.mem_of_getElem? (i := 403) rfl))) rfl rfl rfl ⟨rfl, by decide, by decide, by decide +kernel⟩ ⟨Nat.le_of_ble_eq_true rfl, Nat.le_of_ble_eq_true rfl⟩) rfl rfl (by decide) rfl hl.1 rfl (Nat.le_of_ble_eq_true rfl) dL_law_1343 (rm_c (show _ + 2 ≤ 606000 by omega)) (rm_s (show _ + 192 + sgPot σ0 ≤ 7100000 by omega)) (inv_Mr hV).1 (fun H locs v σ N hB hX hP hO => ?_)
  obtain ⟨⟨y4, rfl⟩, hV⟩ := hP
  refine lv_istore (lv' := [(7, .int y4), (6, .int kx1), (5, .int i), (4, .ref od), (3, .ref oa), (2, .ref (kA K)), (1, .ref x0), (0, .ref sa)]) hx hb dL_law_1346 hl (by decide) rfl (fun ls hl => ?_)
  refine lv_goto (tgt := 1864) hx hb dL_law_1348 (by decide) ?_
  exact hE _ _ _ _ _ ⟨σ, K, g, n, S, hw, _, w2, f1, fD, hB, by omega, by omega, by omega, hV, rfl, hY, hH, hO, hD, ht9, CS_up hC (by omega)⟩ (lv_sub hl [2, 3, 4, 5, 6, 7] rfl)

set_option maxRecDepth 100000 in
set_option maxHeartbeats 4000000 in
theorem lg_32 (X : LX p l s m meth c D cy σ0 eda ca ia ad τ q0 x0 sa L xs) (ht : t < 512) (hc0 : c0 ≤ 40000) (hn0 : n0 ≤ 400000) (hI : LI D cy s σ0 eda ia ad τ q0 x0 av qv fd a0 oa od t c0 n0 H locs k N) (hi : i.toInt = 6 * (t : Int)) (hL : 6 * t + 6 ≤ L) (hl : lv_has ls 9 [(5, .int i), (4, .ref od), (3, .ref oa), (2, .ref a0), (1, .ref x0), (0, .ref sa)]) (hE : ∀ (H : Heap) (locs : List Loc) (k N : Nat) (ls : Array Slot), LI D cy s σ0 eda ia ad τ q0 x0 av qv fd a0 oa od (t + 1) c0 n0 H locs k N → lv_has ls 9 [(5, .int i), (4, .ref od), (3, .ref oa), (2, .ref a0), (1, .ref x0), (0, .ref sa)] → W p l e room_1 s m #[Value.ref sa] below meth c H locs k N Q (F0 m 1864 ls [])) : W p l e room_1 s m #[Value.ref sa] below meth c H locs k N Q (F0 m 1351 ls []) := by
  obtain ⟨F, hst, hs, hr0, hr1, hTT, hXs, hbl, hbA, hp0, hL9⟩ := X
  obtain ⟨hx, hb, hml, hown, hts⟩ := id F.1
  obtain ⟨σ, K, g, n, S, hw, nn, w, f, fD, hB, hnn, hk, hSS, hV, hKa, hY, hH, hO, hD, ht9, hC⟩ := hI
  subst hKa
  refine lv_aload_n hx hb dL_law_1351 rfl (lv_at hl 4 rfl) ?_
  refine lv_aload_n hx hb dL_law_1352 rfl (lv_at hl 5 rfl) ?_
  refine lv_iload hx hb dL_law_1353 (lv_at hl 0 rfl) ?_
  refine lv_iconst (v := 1) hx hb dL_law_1355 (by decide) ?_
  refine lv_iadd hx hb dL_law_1356 ?_
  refine va_sld hx hb hXs hbl hbA hB.1.2.2 (lx_in hi hL hL9 (k := 1) (by decide)) dL_law_1357 ?_
  refine lv_aload_n hx hb dL_law_1358 rfl (lv_at hl 5 rfl) ?_
  refine lv_iload hx hb dL_law_1359 (lv_at hl 0 rfl) ?_
  refine lv_iconst (v := 2) hx hb dL_law_1361 (by decide) ?_
  refine lv_iadd hx hb dL_law_1362 ?_
  refine va_sld hx hb hXs hbl hbA hB.1.2.2 (lx_in hi hL hL9 (k := 2) (by decide)) dL_law_1363 ?_
  refine lv_aload_n hx hb dL_law_1364 rfl (lv_at hl 5 rfl) ?_
  refine lv_iload hx hb dL_law_1365 (lv_at hl 0 rfl) ?_
  refine lv_iconst (v := 3) hx hb dL_law_1367 (by decide) ?_
  refine lv_iadd hx hb dL_law_1368 ?_
  refine va_sld hx hb hXs hbl hbA hB.1.2.2 (lx_in hi hL hL9 (k := 3) (by decide)) dL_law_1369 ?_
  refine lv_i2c (v := ((xs (i + 3).toNatClampNeg).toUInt32 % 65536).toInt32) hx hb dL_law_1370 rfl ?_
  refine lv_aload_n hx hb dL_law_1371 rfl (lv_at hl 5 rfl) ?_
  refine lv_iload hx hb dL_law_1372 (lv_at hl 0 rfl) ?_
  refine lv_iconst (v := 4) hx hb dL_law_1374 (by decide) ?_
  refine lv_iadd hx hb dL_law_1375 ?_
  refine va_sld hx hb hXs hbl hbA hB.1.2.2 (lx_in hi hL hL9 (k := 4) (by decide)) dL_law_1376 ?_
  refine lv_aload_n hx hb dL_law_1377 rfl (lv_at hl 2 rfl) ?_
  refine lw_wk (wr := [(od, .inl (cy 3, 1, .inr (.inr (.inr (.inl fD)))))]) (rest := []) (vx_runSW (g := F0 m 1378 ls _) (As := [.ref x0, .int (xs (i + 1).toNatClampNeg), .int (xs (i + 2).toNatClampNeg), .int (((xs (i + 3).toNatClampNeg).toUInt32 % 65536).toInt32), .int (xs (i + 4).toNatClampNeg), .ref oa]) (rest := []) F.1 (w_fault l D cy hst _ oa _ hs ht9 hr0 hr1 ((xs (i + 1).toNatClampNeg)) ((xs (i + 2).toNatClampNeg)) ((((xs (i + 3).toNatClampNeg).toUInt32 % 65536).toInt32)) (lw_c16 (xs (i + 3).toNatClampNeg)) ((xs (i + 4).toNatClampNeg))) (vx_cwSW 6 hts (lwS lxl_ (lx_ _ (List.mem_of_getElem? (i := 404) rfl)) (lx_ _ (List.mem_of_getElem? (i := 405) rfl)) (lx_ _ (List.mem_of_getElem? (i := 177) rfl)) (lx_ _ (List.mem_of_getElem? (i := 406) rfl))) rfl rfl rfl ⟨by decide, by decide, by decide +kernel⟩ ⟨Nat.le_of_ble_eq_true rfl, Nat.le_of_ble_eq_true rfl⟩) ⟨vi_px_blind, vi_px hO.1.right hD.right F.2.1 F.2.2.1 hTT hB.1.2.2 sgB_A⟩ rfl rfl hl.1 rfl (lv_room (Nat.le_of_ble_eq_true rfl)) dL_law_1378 ⟨rm_c (show _ + 1 ≤ 606000 by omega), rm_s (show _ + 6 * 1 ≤ 7100000 by have := hB.2.2; omega)⟩) hB hO hD ht9 (fun H locs kx1 w2 f1 hB hO hD ht1 hk9 => ?_)
  obtain ⟨w3, hC, hO, hD, ht9⟩ := CS_kept (a := (od, .inl (cy 3, 1, .inr (.inr (.inr (.inl fD)))))) hC ht1 hk9 (by decide +kernel) (by decide +kernel) hO hD
  have hO : lwO D σ ([(od, .inl (cy 3, 1, .inr (.inr (.inr (.inl fD)))))] ++ (oa, .inl (cy 2, 1, .inr (.inl f1))) :: w3) H := hO
  have hD : va_D (sgA σ0 s.heap.size) ([(od, .inl (cy 3, 1, .inr (.inr (.inr (.inl fD)))))] ++ (oa, .inl (cy 2, 1, .inr (.inl f1))) :: w3) := hD
  refine lv_istore (lv' := [(6, .int kx1), (5, .int i), (4, .ref od), (3, .ref oa), (2, .ref (kA K)), (1, .ref x0), (0, .ref sa)]) hx hb dL_law_1381 hl (by decide) rfl (fun ls hl => ?_)
  refine lv_aload_n hx hb dL_law_1383 rfl (lv_at hl 4 rfl) ?_
  refine lv_aload_n hx hb dL_law_1384 rfl (lv_at hl 6 rfl) ?_
  refine lv_iload hx hb dL_law_1385 (lv_at hl 1 rfl) ?_
  refine lv_iconst (v := 1) hx hb dL_law_1387 (by decide) ?_
  refine lv_iadd hx hb dL_law_1388 ?_
  refine va_sld hx hb hXs hbl hbA hB.1.2.2 (lx_in hi hL hL9 (k := 1) (by decide)) dL_law_1389 ?_
  refine lv_aload_n hx hb dL_law_1390 rfl (lv_at hl 6 rfl) ?_
  refine lv_iload hx hb dL_law_1391 (lv_at hl 1 rfl) ?_
  refine lv_iconst (v := 2) hx hb dL_law_1393 (by decide) ?_
  refine lv_iadd hx hb dL_law_1394 ?_
  refine va_sld hx hb hXs hbl hbA hB.1.2.2 (lx_in hi hL hL9 (k := 2) (by decide)) dL_law_1395 ?_
  refine lv_aload_n hx hb dL_law_1396 rfl (lv_at hl 6 rfl) ?_
  refine lv_iload hx hb dL_law_1397 (lv_at hl 1 rfl) ?_
  refine lv_iconst (v := 3) hx hb dL_law_1399 (by decide) ?_
  refine lv_iadd hx hb dL_law_1400 ?_
  refine va_sld hx hb hXs hbl hbA hB.1.2.2 (lx_in hi hL hL9 (k := 3) (by decide)) dL_law_1401 ?_
  refine lv_i2c (v := ((xs (i + 3).toNatClampNeg).toUInt32 % 65536).toInt32) hx hb dL_law_1402 rfl ?_
  refine lv_aload_n hx hb dL_law_1403 rfl (lv_at hl 6 rfl) ?_
  refine lv_iload hx hb dL_law_1404 (lv_at hl 1 rfl) ?_
  refine lv_iconst (v := 4) hx hb dL_law_1406 (by decide) ?_
  refine lv_iadd hx hb dL_law_1407 ?_
  refine va_sld hx hb hXs hbl hbA hB.1.2.2 (lx_in hi hL hL9 (k := 4) (by decide)) dL_law_1408 ?_
  refine lw_callV (ci := 19) (b := kA K) (As := [.int (xs (i + 1).toNatClampNeg), .int (xs (i + 2).toNatClampNeg), .int (((xs (i + 3).toNatClampNeg).toUInt32 % 65536).toInt32), .int (xs (i + 4).toNatClampNeg)]) (rest := []) F hB hO (m_fault l D cy hV ((xs (i + 1).toNatClampNeg)) ((xs (i + 2).toNatClampNeg)) ((((xs (i + 3).toNatClampNeg).toUInt32 % 65536).toInt32)) ((xs (i + 4).toNatClampNeg)) (lw_c16 (xs (i + 3).toNatClampNeg)) _) (cwV 4 hts (lwV lxm_ (lx_ _ (List.mem_of_getElem? (i := 407) rfl)) (lx_ _ (List.mem_of_getElem? (i := 408) rfl)) (lx_ _ (List.mem_of_getElem? (i := 409) rfl)) (lx_ _ (List.mem_of_getElem? (i := 182) rfl)) (lx_ _ (List.mem_of_getElem? (i := 410) rfl))) rfl rfl rfl ⟨rfl, by decide, by decide, by decide +kernel⟩ ⟨Nat.le_of_ble_eq_true rfl, Nat.le_of_ble_eq_true rfl⟩) rfl rfl (by decide) rfl hl.1 rfl (Nat.le_of_ble_eq_true rfl) dL_law_1409 (rm_c (show _ + 0 ≤ 606000 by omega)) (rm_s (show _ + 0 + sgPot σ0 ≤ 7100000 by omega)) (inv_Mr hV).1 (fun H locs v σ N hB hX hP hO => ?_)
  obtain ⟨⟨y5, rfl⟩, hV⟩ := hP
  refine lv_istore (lv' := [(7, .int y5), (6, .int kx1), (5, .int i), (4, .ref od), (3, .ref oa), (2, .ref (kA K)), (1, .ref x0), (0, .ref sa)]) hx hb dL_law_1412 hl (by decide) rfl (fun ls hl => ?_)
  refine lv_goto (tgt := 1864) hx hb dL_law_1414 (by decide) ?_
  exact hE _ _ _ _ _ ⟨σ, K, g, n, S, hw, _, w3, f1, fD, hB, by omega, by omega, by omega, hV, rfl, hY, hH, hO, hD, ht9, CS_up hC (by omega)⟩ (lv_sub hl [2, 3, 4, 5, 6, 7] rfl)

set_option maxRecDepth 100000 in
set_option maxHeartbeats 4000000 in
theorem lg_33 (X : LX p l s m meth c D cy σ0 eda ca ia ad τ q0 x0 sa L xs) (ht : t < 512) (hc0 : c0 ≤ 40000) (hn0 : n0 ≤ 400000) (hI : LI D cy s σ0 eda ia ad τ q0 x0 av qv fd a0 oa od t c0 n0 H locs k N) (hi : i.toInt = 6 * (t : Int)) (hL : 6 * t + 6 ≤ L) (hl : lv_has ls 9 [(5, .int i), (4, .ref od), (3, .ref oa), (2, .ref a0), (1, .ref x0), (0, .ref sa)]) (hE : ∀ (H : Heap) (locs : List Loc) (k N : Nat) (ls : Array Slot), LI D cy s σ0 eda ia ad τ q0 x0 av qv fd a0 oa od (t + 1) c0 n0 H locs k N → lv_has ls 9 [(5, .int i), (4, .ref od), (3, .ref oa), (2, .ref a0), (1, .ref x0), (0, .ref sa)] → W p l e room_1 s m #[Value.ref sa] below meth c H locs k N Q (F0 m 1864 ls [])) : W p l e room_1 s m #[Value.ref sa] below meth c H locs k N Q (F0 m 1417 ls []) := by
  obtain ⟨F, hst, hs, hr0, hr1, hTT, hXs, hbl, hbA, hp0, hL9⟩ := X
  obtain ⟨hx, hb, hml, hown, hts⟩ := id F.1
  obtain ⟨σ, K, g, n, S, hw, nn, w, f, fD, hB, hnn, hk, hSS, hV, hKa, hY, hH, hO, hD, ht9, hC⟩ := hI
  subst hKa
  refine lv_aload_n hx hb dL_law_1417 rfl (lv_at hl 4 rfl) ?_
  obtain ⟨vs, fr0, c1, c4, hf0, hf1⟩ := CS_f hC hr1
  have hOw : va_P D vwCl _ H := (show va_P D vwCl ([(oa, .inl (cy 2, 1, .inr (.inl f)))] ++ w) H from hO.1.right).right
  have hDw : va_D _ _ := (show va_D (sgA σ0 s.heap.size) ([(oa, .inl (cy 2, 1, .inr (.inl f)))] ++ w) from hD.right).right
  refine lw_wcS (nc := 0) (wr := [(od, .inl (cy 3, 1, .inr (.inr (.inr (.inl fD))))), (oa, .inl (cy 2, 1, .inr (.inl f)))]) (rest := []) (va_runV (g := F0 m 1418 ls _) (b := x0) (As := []) (rest := []) F.1 (cs_frame l hst hs hC (by omega) _) (cwV 0 hts (lwV lxv_ (lx_ _ (List.mem_of_getElem? (i := 411) rfl)) (lx_ _ (List.mem_of_getElem? (i := 412) rfl)) (lx_ _ (List.mem_of_getElem? (i := 413) rfl)) (lx_ _ (List.mem_of_getElem? (i := 3) rfl)) (lx_ _ (List.mem_of_getElem? (i := 414) rfl))) rfl rfl rfl ⟨rfl, by decide, by decide, by decide +kernel⟩ ⟨Nat.le_of_ble_eq_true rfl, Nat.le_of_ble_eq_true rfl⟩) ⟨pme_blind, va_recv F.2.1 hOw (ci := 14) rfl c1, vi_pv hOw hDw F.2.1 F.2.2.1⟩ rfl rfl hl.1 rfl (lv_room (Nat.le_of_ble_eq_true rfl)) dL_law_1418 ⟨rm_c (show _ + 0 ≤ 606000 by omega), rm_s (show _ + 0 ≤ 7100000 by have := hB.2.2; omega)⟩) hB hO hD ht9 (fun H locs v w1 hB hO hD ht1 h8 => ?_)
  obtain ⟨⟨y2, rfl⟩, hC⟩ := h8
  have ht9 := ht1
  have hO : lwO D σ ([(od, .inl (cy 3, 1, .inr (.inr (.inr (.inl fD)))))] ++ (oa, .inl (cy 2, 1, .inr (.inl f))) :: w1) H := hO
  have hD : va_D (sgA σ0 s.heap.size) ([(od, .inl (cy 3, 1, .inr (.inr (.inr (.inl fD)))))] ++ (oa, .inl (cy 2, 1, .inr (.inl f))) :: w1) := hD
  refine lv_pop hx hb dL_law_1421 rfl ?_
  refine lv_aload_n hx hb dL_law_1422 rfl (lv_at hl 3 rfl) ?_
  refine lw_callV (ci := 19) (b := kA K) (As := []) (rest := []) F hB hO (m_frame l D cy hV hY (by omega) _) (cwV 0 hts (lwV lxm_ (lx_ _ (List.mem_of_getElem? (i := 415) rfl)) (lx_ _ (List.mem_of_getElem? (i := 416) rfl)) (lx_ _ (List.mem_of_getElem? (i := 417) rfl)) (lx_ _ (List.mem_of_getElem? (i := 182) rfl)) (lx_ _ (List.mem_of_getElem? (i := 418) rfl))) rfl rfl rfl ⟨rfl, by decide, by decide, by decide +kernel⟩ ⟨Nat.le_of_ble_eq_true rfl, Nat.le_of_ble_eq_true rfl⟩) rfl rfl (by decide) rfl hl.1 rfl (Nat.le_of_ble_eq_true rfl) dL_law_1423 (rm_c (show _ + 813 ≤ 606000 by omega)) (rm_s (show _ + 6906 + sgPot σ0 ≤ 7100000 by omega)) (inv_Mr hV).1 (fun H locs v σ N hB hX hP hO => ?_)
  obtain ⟨y4, hw2, rfl, hV⟩ := hP
  refine lv_pop hx hb dL_law_1426 rfl ?_
  refine lv_goto (tgt := 1864) hx hb dL_law_1427 (by decide) ?_
  exact hE _ _ _ _ _ ⟨σ, K, g, n, (S + 100), hw2, _, w1, f, fD, hB, by omega, by omega, by omega, hV, rfl, hY, hH, hO, hD, ht9, CS_up hC (by omega)⟩ (lv_sub hl [0, 1, 2, 3, 4, 5] rfl)

set_option maxRecDepth 100000 in
set_option maxHeartbeats 4000000 in
theorem lg_34 (X : LX p l s m meth c D cy σ0 eda ca ia ad τ q0 x0 sa L xs) (ht : t < 512) (hc0 : c0 ≤ 40000) (hn0 : n0 ≤ 400000) (hI : LI D cy s σ0 eda ia ad τ q0 x0 av qv fd a0 oa od t c0 n0 H locs k N) (hi : i.toInt = 6 * (t : Int)) (hL : 6 * t + 6 ≤ L) (hl : lv_has ls 9 [(5, .int i), (4, .ref od), (3, .ref oa), (2, .ref a0), (1, .ref x0), (0, .ref sa)]) (hE : ∀ (H : Heap) (locs : List Loc) (k N : Nat) (ls : Array Slot), LI D cy s σ0 eda ia ad τ q0 x0 av qv fd a0 oa od (t + 1) c0 n0 H locs k N → lv_has ls 9 [(5, .int i), (4, .ref od), (3, .ref oa), (2, .ref a0), (1, .ref x0), (0, .ref sa)] → W p l e room_1 s m #[Value.ref sa] below meth c H locs k N Q (F0 m 1864 ls [])) : W p l e room_1 s m #[Value.ref sa] below meth c H locs k N Q (F0 m 1430 ls []) := by
  obtain ⟨F, hst, hs, hr0, hr1, hTT, hXs, hbl, hbA, hp0, hL9⟩ := X
  obtain ⟨hx, hb, hml, hown, hts⟩ := id F.1
  obtain ⟨σ, K, g, n, S, hw, nn, w, f, fD, hB, hnn, hk, hSS, hV, hKa, hY, hH, hO, hD, ht9, hC⟩ := hI
  subst hKa
  refine lv_aload_n hx hb dL_law_1430 rfl (lv_at hl 4 rfl) ?_
  obtain ⟨vs, fr0, c1, c4, hf0, hf1⟩ := CS_f hC hr1
  have hOw : va_P D vwCl _ H := (show va_P D vwCl ([(oa, .inl (cy 2, 1, .inr (.inl f)))] ++ w) H from hO.1.right).right
  have hDw : va_D _ _ := (show va_D (sgA σ0 s.heap.size) ([(oa, .inl (cy 2, 1, .inr (.inl f)))] ++ w) from hD.right).right
  refine lw_wc (nc := 0) (wr := [(od, .inl (cy 3, 1, .inr (.inr (.inr (.inl fD))))), (oa, .inl (cy 2, 1, .inr (.inl f)))]) (rest := []) (lw_mono (Qb := vw_QC D vK cy ad τ w q_Hubcascade_frames_0.2.2.2.1 (va_A _ H.size) (fun v _ => ∃ y : Int32, v = some (.int y))) (va_runV (g := F0 m 1431 ls _) (b := x0) (As := []) (rest := []) F.1 ((m_Hubcascade_frames_0 l D cy hst).2 ad τ _ _ [.ref x0] hs ht9 rfl (vi_tys_ok (ad := ad) (τ := τ) (as := q_Hubcascade_frames_0.1) ⟨Or.inr ⟨q0, x0, hr0, hr1, rfl⟩, True.intro⟩) (fun f hf => by cases hf)) (cwV 0 hts (lwV lxv_ (lx_ _ (List.mem_of_getElem? (i := 419) rfl)) (lx_ _ (List.mem_of_getElem? (i := 420) rfl)) (lx_ _ (List.mem_of_getElem? (i := 421) rfl)) (lx_ _ (List.mem_of_getElem? (i := 3) rfl)) (lx_ _ (List.mem_of_getElem? (i := 422) rfl))) rfl rfl rfl ⟨rfl, by decide, by decide, by decide +kernel⟩ ⟨Nat.le_of_ble_eq_true rfl, Nat.le_of_ble_eq_true rfl⟩) ⟨pme_blind, va_recv F.2.1 hOw (ci := 14) rfl c1, vi_pv hOw hDw F.2.1 F.2.2.1⟩ rfl rfl hl.1 rfl (lv_room (Nat.le_of_ble_eq_true rfl)) dL_law_1431 ⟨rm_c (show _ + 0 ≤ 606000 by omega), rm_s (show _ + 0 ≤ 7100000 by have := hB.2.2; omega)⟩) (fun st oc t h => ⟨by obtain ⟨⟨v, w1, alt, halt, e1, e2, e3, e4, e5⟩, -⟩ := h; exact ⟨v, w1, e1, e2, e3, e4, vw_int (by decide +kernel) halt e5⟩, h.2⟩)) hB hO hD ht9 (fun H locs v w1 hB hO hD ht1 hk9 h8 => ?_)
  obtain ⟨y2, rfl⟩ := h8
  have hO : lwO D σ ([(od, .inl (cy 3, 1, .inr (.inr (.inr (.inl fD)))))] ++ (oa, .inl (cy 2, 1, .inr (.inl f))) :: w1) H := hO
  have hD : va_D (sgA σ0 s.heap.size) ([(od, .inl (cy 3, 1, .inr (.inr (.inr (.inl fD)))))] ++ (oa, .inl (cy 2, 1, .inr (.inl f))) :: w1) := hD
  obtain ⟨w3, hC, hO, hD, ht9⟩ := CS_kept (a := (od, .inl (cy 3, 1, .inr (.inr (.inr (.inl fD)))))) hC ht1 hk9 (by decide +kernel) (by decide +kernel) hO hD
  have hO : lwO D σ ([(od, .inl (cy 3, 1, .inr (.inr (.inr (.inl fD)))))] ++ (oa, .inl (cy 2, 1, .inr (.inl f))) :: w3) H := hO
  have hD : va_D (sgA σ0 s.heap.size) ([(od, .inl (cy 3, 1, .inr (.inr (.inr (.inl fD)))))] ++ (oa, .inl (cy 2, 1, .inr (.inl f))) :: w3) := hD
  refine lv_pop hx hb dL_law_1434 rfl ?_
  refine lv_aload_n hx hb dL_law_1435 rfl (lv_at hl 3 rfl) ?_
  refine lw_callV (ci := 19) (b := kA K) (As := []) (rest := []) F hB hO (m_frames l D cy hV _) (cwV 0 hts (lwV lxm_ (lx_ _ (List.mem_of_getElem? (i := 423) rfl)) (lx_ _ (List.mem_of_getElem? (i := 424) rfl)) (lx_ _ (List.mem_of_getElem? (i := 425) rfl)) (lx_ _ (List.mem_of_getElem? (i := 182) rfl)) (lx_ _ (List.mem_of_getElem? (i := 426) rfl))) rfl rfl rfl ⟨rfl, by decide, by decide, by decide +kernel⟩ ⟨Nat.le_of_ble_eq_true rfl, Nat.le_of_ble_eq_true rfl⟩) rfl rfl (by decide) rfl hl.1 rfl (Nat.le_of_ble_eq_true rfl) dL_law_1436 (rm_c (show _ + 0 ≤ 606000 by omega)) (rm_s (show _ + 0 + sgPot σ0 ≤ 7100000 by omega)) (inv_Mr hV).1 (fun H locs v σ N hB hX hP hO => ?_)
  obtain ⟨rfl, hV⟩ := hP
  refine lv_pop hx hb dL_law_1439 rfl ?_
  refine lv_goto (tgt := 1864) hx hb dL_law_1440 (by decide) ?_
  exact hE _ _ _ _ _ ⟨σ, K, g, n, S, hw, _, w3, f, fD, hB, by omega, by omega, by omega, hV, rfl, hY, hH, hO, hD, ht9, CS_up hC (by omega)⟩ (lv_sub hl [0, 1, 2, 3, 4, 5] rfl)

set_option maxRecDepth 100000 in
set_option maxHeartbeats 4000000 in
theorem lg_35 (X : LX p l s m meth c D cy σ0 eda ca ia ad τ q0 x0 sa L xs) (ht : t < 512) (hc0 : c0 ≤ 40000) (hn0 : n0 ≤ 400000) (hI : LI D cy s σ0 eda ia ad τ q0 x0 av qv fd a0 oa od t c0 n0 H locs k N) (hi : i.toInt = 6 * (t : Int)) (hL : 6 * t + 6 ≤ L) (hl : lv_has ls 9 [(5, .int i), (4, .ref od), (3, .ref oa), (2, .ref a0), (1, .ref x0), (0, .ref sa)]) (hE : ∀ (H : Heap) (locs : List Loc) (k N : Nat) (ls : Array Slot), LI D cy s σ0 eda ia ad τ q0 x0 av qv fd a0 oa od (t + 1) c0 n0 H locs k N → lv_has ls 9 [(5, .int i), (4, .ref od), (3, .ref oa), (2, .ref a0), (1, .ref x0), (0, .ref sa)] → W p l e room_1 s m #[Value.ref sa] below meth c H locs k N Q (F0 m 1864 ls [])) : W p l e room_1 s m #[Value.ref sa] below meth c H locs k N Q (F0 m 1443 ls []) := by
  obtain ⟨F, hst, hs, hr0, hr1, hTT, hXs, hbl, hbA, hp0, hL9⟩ := X
  obtain ⟨hx, hb, hml, hown, hts⟩ := id F.1
  obtain ⟨σ, K, g, n, S, hw, nn, w, f, fD, hB, hnn, hk, hSS, hV, hKa, hY, hH, hO, hD, ht9, hC⟩ := hI
  subst hKa
  refine lv_aload_n hx hb dL_law_1443 rfl (lv_at hl 4 rfl) ?_
  refine lv_aload_n hx hb dL_law_1444 rfl (lv_at hl 5 rfl) ?_
  refine lv_iload hx hb dL_law_1445 (lv_at hl 0 rfl) ?_
  refine lv_iconst (v := 1) hx hb dL_law_1447 (by decide) ?_
  refine lv_iadd hx hb dL_law_1448 ?_
  refine va_sld hx hb hXs hbl hbA hB.1.2.2 (lx_in hi hL hL9 (k := 1) (by decide)) dL_law_1449 ?_
  refine lv_aload_n hx hb dL_law_1450 rfl (lv_at hl 2 rfl) ?_
  refine lw_wk (wr := [(od, .inl (cy 3, 1, .inr (.inr (.inr (.inl fD)))))]) (rest := []) (vx_runSW (g := F0 m 1451 ls _) (As := [.ref x0, .int (xs (i + 1).toNatClampNeg), .ref oa]) (rest := []) F.1 (w_left l D cy hst _ oa _ hs ht9 hr0 hr1 ((xs (i + 1).toNatClampNeg))) (vx_cwSW 3 hts (lwS lxl_ (lx_ _ (List.mem_of_getElem? (i := 427) rfl)) (lx_ _ (List.mem_of_getElem? (i := 428) rfl)) (lx_ _ (List.mem_of_getElem? (i := 177) rfl)) (lx_ _ (List.mem_of_getElem? (i := 429) rfl))) rfl rfl rfl ⟨by decide, by decide, by decide +kernel⟩ ⟨Nat.le_of_ble_eq_true rfl, Nat.le_of_ble_eq_true rfl⟩) ⟨vi_px_blind, vi_px hO.1.right hD.right F.2.1 F.2.2.1 hTT hB.1.2.2 sgB_A⟩ rfl rfl hl.1 rfl (lv_room (Nat.le_of_ble_eq_true rfl)) dL_law_1451 ⟨rm_c (show _ + 1 ≤ 606000 by omega), rm_s (show _ + 6 * 1 ≤ 7100000 by have := hB.2.2; omega)⟩) hB hO hD ht9 (fun H locs kx1 w2 f1 hB hO hD ht1 hk9 => ?_)
  obtain ⟨w3, hC, hO, hD, ht9⟩ := CS_kept (a := (od, .inl (cy 3, 1, .inr (.inr (.inr (.inl fD)))))) hC ht1 hk9 (by decide +kernel) (by decide +kernel) hO hD
  have hO : lwO D σ ([(od, .inl (cy 3, 1, .inr (.inr (.inr (.inl fD)))))] ++ (oa, .inl (cy 2, 1, .inr (.inl f1))) :: w3) H := hO
  have hD : va_D (sgA σ0 s.heap.size) ([(od, .inl (cy 3, 1, .inr (.inr (.inr (.inl fD)))))] ++ (oa, .inl (cy 2, 1, .inr (.inl f1))) :: w3) := hD
  refine lv_istore (lv' := [(6, .int kx1), (5, .int i), (4, .ref od), (3, .ref oa), (2, .ref (kA K)), (1, .ref x0), (0, .ref sa)]) hx hb dL_law_1454 hl (by decide) rfl (fun ls hl => ?_)
  refine lv_aload_n hx hb dL_law_1456 rfl (lv_at hl 4 rfl) ?_
  refine lv_aload_n hx hb dL_law_1457 rfl (lv_at hl 6 rfl) ?_
  refine lv_iload hx hb dL_law_1458 (lv_at hl 1 rfl) ?_
  refine lv_iconst (v := 1) hx hb dL_law_1460 (by decide) ?_
  refine lv_iadd hx hb dL_law_1461 ?_
  refine va_sld hx hb hXs hbl hbA hB.1.2.2 (lx_in hi hL hL9 (k := 1) (by decide)) dL_law_1462 ?_
  refine lw_callV (ci := 19) (b := kA K) (As := [.int (xs (i + 1).toNatClampNeg)]) (rest := []) F hB hO (m_left l D cy hV ((xs (i + 1).toNatClampNeg)) _) (cwV 1 hts (lwV lxm_ (lx_ _ (List.mem_of_getElem? (i := 430) rfl)) (lx_ _ (List.mem_of_getElem? (i := 431) rfl)) (lx_ _ (List.mem_of_getElem? (i := 432) rfl)) (lx_ _ (List.mem_of_getElem? (i := 182) rfl)) (lx_ _ (List.mem_of_getElem? (i := 433) rfl))) rfl rfl rfl ⟨rfl, by decide, by decide, by decide +kernel⟩ ⟨Nat.le_of_ble_eq_true rfl, Nat.le_of_ble_eq_true rfl⟩) rfl rfl (by decide) rfl hl.1 rfl (Nat.le_of_ble_eq_true rfl) dL_law_1463 (rm_c (show _ + 0 ≤ 606000 by omega)) (rm_s (show _ + 0 + sgPot σ0 ≤ 7100000 by omega)) (inv_Mr hV).1 (fun H locs v σ N hB hX hP hO => ?_)
  obtain ⟨⟨y5, rfl⟩, hV⟩ := hP
  refine lv_istore (lv' := [(7, .int y5), (6, .int kx1), (5, .int i), (4, .ref od), (3, .ref oa), (2, .ref (kA K)), (1, .ref x0), (0, .ref sa)]) hx hb dL_law_1466 hl (by decide) rfl (fun ls hl => ?_)
  refine lv_goto (tgt := 1864) hx hb dL_law_1468 (by decide) ?_
  exact hE _ _ _ _ _ ⟨σ, K, g, n, S, hw, _, w3, f1, fD, hB, by omega, by omega, by omega, hV, rfl, hY, hH, hO, hD, ht9, CS_up hC (by omega)⟩ (lv_sub hl [2, 3, 4, 5, 6, 7] rfl)
end LGC
