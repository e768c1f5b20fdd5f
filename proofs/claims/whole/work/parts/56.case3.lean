/-! by program: wip/whole/genl.py: cases of the law's switch -/
theorem dL_law_1180 : decode code 1180 = .ok (.aload_n 1, 1) := by decide +kernel
theorem dL_law_1181 : decode code 1181 = .ok (.invokevirtual 193, 3) := by decide +kernel
theorem dL_law_1184 : decode code 1184 = .ok (.aload_n 2, 1) := by decide +kernel
theorem dL_law_1185 : decode code 1185 = .ok (.invokevirtual 196, 3) := by decide +kernel
theorem dL_law_1188 : decode code 1188 = .ok (.if_icmp .eq 1390, 3) := by decide +kernel
theorem dL_law_1193 : decode code 1193 = .ok (.aload_n 1, 1) := by decide +kernel
theorem dL_law_1194 : decode code 1194 = .ok (.invokevirtual 197, 3) := by decide +kernel
theorem dL_law_1197 : decode code 1197 = .ok (.dstore 5, 2) := by decide +kernel
theorem dL_law_1199 : decode code 1199 = .ok (.aload_n 2, 1) := by decide +kernel
theorem dL_law_1200 : decode code 1200 = .ok (.invokevirtual 201, 3) := by decide +kernel
theorem dL_law_1203 : decode code 1203 = .ok (.dstore 7, 2) := by decide +kernel
theorem dL_law_1205 : decode code 1205 = .ok (.dload 5, 2) := by decide +kernel
theorem dL_law_1207 : decode code 1207 = .ok (.dload 7, 2) := by decide +kernel
theorem dL_law_1209 : decode code 1209 = .ok (.dcmp .l, 1) := by decide +kernel
theorem dL_law_1210 : decode code 1210 = .ok (.ifCond .eq 21, 3) := by decide +kernel
theorem dL_law_1231 : decode code 1231 = .ok (.goto 1347, 3) := by decide +kernel
theorem dL_law_1234 : decode code 1234 = .ok (.aload_n 1, 1) := by decide +kernel
theorem dL_law_1235 : decode code 1235 = .ok (.aload_n 0, 1) := by decide +kernel
theorem dL_law_1236 : decode code 1236 = .ok (.iload 4, 2) := by decide +kernel
theorem dL_law_1238 : decode code 1238 = .ok (.iconst 1, 1) := by decide +kernel
theorem dL_law_1239 : decode code 1239 = .ok (.iadd, 1) := by decide +kernel
theorem dL_law_1240 : decode code 1240 = .ok (.iaload, 1) := by decide +kernel
theorem dL_law_1241 : decode code 1241 = .ok (.aload_n 3, 1) := by decide +kernel
theorem dL_law_1242 : decode code 1242 = .ok (.invokestatic 202, 3) := by decide +kernel
theorem dL_law_1245 : decode code 1245 = .ok (.istore 5, 2) := by decide +kernel
theorem dL_law_1247 : decode code 1247 = .ok (.aload_n 2, 1) := by decide +kernel
theorem dL_law_1248 : decode code 1248 = .ok (.aload_n 0, 1) := by decide +kernel
theorem dL_law_1249 : decode code 1249 = .ok (.iload 4, 2) := by decide +kernel
theorem dL_law_1251 : decode code 1251 = .ok (.iconst 1, 1) := by decide +kernel
theorem dL_law_1252 : decode code 1252 = .ok (.iadd, 1) := by decide +kernel
theorem dL_law_1253 : decode code 1253 = .ok (.iaload, 1) := by decide +kernel
theorem dL_law_1254 : decode code 1254 = .ok (.invokevirtual 204, 3) := by decide +kernel
theorem dL_law_1257 : decode code 1257 = .ok (.istore 6, 2) := by decide +kernel
theorem dL_law_1259 : decode code 1259 = .ok (.aload_n 2, 1) := by decide +kernel
theorem dL_law_1260 : decode code 1260 = .ok (.invokevirtual 131, 3) := by decide +kernel
theorem dL_law_1263 : decode code 1263 = .ok (.iload 5, 2) := by decide +kernel
theorem dL_law_1265 : decode code 1265 = .ok (.if_icmp .eq 5, 3) := by decide +kernel
theorem dL_law_1270 : decode code 1270 = .ok (.iload 5, 2) := by decide +kernel
theorem dL_law_1272 : decode code 1272 = .ok (.ifCond .ne 15, 3) := by decide +kernel
theorem dL_law_1275 : decode code 1275 = .ok (.aload_n 3, 1) := by decide +kernel
theorem dL_law_1276 : decode code 1276 = .ok (.iconst 0, 1) := by decide +kernel
theorem dL_law_1277 : decode code 1277 = .ok (.laload, 1) := by decide +kernel
theorem dL_law_1278 : decode code 1278 = .ok (.iload 6, 2) := by decide +kernel
theorem dL_law_1280 : decode code 1280 = .ok (.i2l, 1) := by decide +kernel
theorem dL_law_1281 : decode code 1281 = .ok (.lcmp, 1) := by decide +kernel
theorem dL_law_1282 : decode code 1282 = .ok (.ifCond .eq 5, 3) := by decide +kernel
theorem dL_law_1287 : decode code 1287 = .ok (.goto 1291, 3) := by decide +kernel
theorem dL_law_1290 : decode code 1290 = .ok (.aload_n 1, 1) := by decide +kernel
theorem dL_law_1291 : decode code 1291 = .ok (.aload_n 0, 1) := by decide +kernel
theorem dL_law_1292 : decode code 1292 = .ok (.iload 4, 2) := by decide +kernel
theorem dL_law_1294 : decode code 1294 = .ok (.iconst 1, 1) := by decide +kernel
theorem dL_law_1295 : decode code 1295 = .ok (.iadd, 1) := by decide +kernel
theorem dL_law_1296 : decode code 1296 = .ok (.iaload, 1) := by decide +kernel
theorem dL_law_1297 : decode code 1297 = .ok (.aload_n 0, 1) := by decide +kernel
theorem dL_law_1298 : decode code 1298 = .ok (.iload 4, 2) := by decide +kernel
theorem dL_law_1300 : decode code 1300 = .ok (.iconst 2, 1) := by decide +kernel
theorem dL_law_1301 : decode code 1301 = .ok (.iadd, 1) := by decide +kernel
theorem dL_law_1302 : decode code 1302 = .ok (.iaload, 1) := by decide +kernel
theorem dL_law_1303 : decode code 1303 = .ok (.aload_n 3, 1) := by decide +kernel
theorem dL_law_1304 : decode code 1304 = .ok (.invokestatic 205, 3) := by decide +kernel
theorem dL_law_1307 : decode code 1307 = .ok (.istore 5, 2) := by decide +kernel
theorem dL_law_1309 : decode code 1309 = .ok (.aload_n 2, 1) := by decide +kernel
theorem dL_law_1310 : decode code 1310 = .ok (.aload_n 0, 1) := by decide +kernel
theorem dL_law_1311 : decode code 1311 = .ok (.iload 4, 2) := by decide +kernel
theorem dL_law_1313 : decode code 1313 = .ok (.iconst 1, 1) := by decide +kernel
theorem dL_law_1314 : decode code 1314 = .ok (.iadd, 1) := by decide +kernel
theorem dL_law_1315 : decode code 1315 = .ok (.iaload, 1) := by decide +kernel
theorem dL_law_1316 : decode code 1316 = .ok (.aload_n 0, 1) := by decide +kernel
theorem dL_law_1317 : decode code 1317 = .ok (.iload 4, 2) := by decide +kernel
theorem dL_law_1319 : decode code 1319 = .ok (.iconst 2, 1) := by decide +kernel
theorem dL_law_1320 : decode code 1320 = .ok (.iadd, 1) := by decide +kernel
theorem dL_law_1321 : decode code 1321 = .ok (.iaload, 1) := by decide +kernel
theorem dL_law_1322 : decode code 1322 = .ok (.invokevirtual 207, 3) := by decide +kernel
theorem dL_law_1325 : decode code 1325 = .ok (.istore 6, 2) := by decide +kernel
theorem dL_law_1327 : decode code 1327 = .ok (.aload_n 2, 1) := by decide +kernel
theorem dL_law_1328 : decode code 1328 = .ok (.invokevirtual 131, 3) := by decide +kernel
theorem dL_law_1331 : decode code 1331 = .ok (.iload 5, 2) := by decide +kernel
theorem dL_law_1333 : decode code 1333 = .ok (.if_icmp .eq 5, 3) := by decide +kernel
theorem dL_law_1338 : decode code 1338 = .ok (.iload 5, 2) := by decide +kernel
theorem dL_law_1340 : decode code 1340 = .ok (.ifCond .ne 15, 3) := by decide +kernel
theorem dL_law_1343 : decode code 1343 = .ok (.aload_n 3, 1) := by decide +kernel
theorem dL_law_1344 : decode code 1344 = .ok (.iconst 0, 1) := by decide +kernel
theorem dL_law_1345 : decode code 1345 = .ok (.laload, 1) := by decide +kernel
theorem dL_law_1346 : decode code 1346 = .ok (.iload 6, 2) := by decide +kernel
theorem dL_law_1348 : decode code 1348 = .ok (.i2l, 1) := by decide +kernel
theorem dL_law_1349 : decode code 1349 = .ok (.lcmp, 1) := by decide +kernel
theorem dL_law_1350 : decode code 1350 = .ok (.ifCond .eq 5, 3) := by decide +kernel
theorem dL_law_1355 : decode code 1355 = .ok (.goto 1223, 3) := by decide +kernel
theorem dL_law_1358 : decode code 1358 = .ok (.aload_n 1, 1) := by decide +kernel
theorem dL_law_1359 : decode code 1359 = .ok (.aload_n 0, 1) := by decide +kernel
theorem dL_law_1360 : decode code 1360 = .ok (.iload 4, 2) := by decide +kernel
theorem dL_law_1362 : decode code 1362 = .ok (.iconst 1, 1) := by decide +kernel
theorem dL_law_1363 : decode code 1363 = .ok (.iadd, 1) := by decide +kernel
theorem dL_law_1364 : decode code 1364 = .ok (.iaload, 1) := by decide +kernel
theorem dL_law_1365 : decode code 1365 = .ok (.aload_n 0, 1) := by decide +kernel
theorem dL_law_1366 : decode code 1366 = .ok (.iload 4, 2) := by decide +kernel
theorem dL_law_1368 : decode code 1368 = .ok (.iconst 2, 1) := by decide +kernel
theorem dL_law_1369 : decode code 1369 = .ok (.iadd, 1) := by decide +kernel
theorem dL_law_1370 : decode code 1370 = .ok (.iaload, 1) := by decide +kernel
theorem dL_law_1371 : decode code 1371 = .ok (.aload_n 3, 1) := by decide +kernel
theorem dL_law_1372 : decode code 1372 = .ok (.invokestatic 208, 3) := by decide +kernel
theorem dL_law_1375 : decode code 1375 = .ok (.istore 5, 2) := by decide +kernel
theorem dL_law_1377 : decode code 1377 = .ok (.aload_n 2, 1) := by decide +kernel
theorem dL_law_1378 : decode code 1378 = .ok (.aload_n 0, 1) := by decide +kernel
theorem dL_law_1379 : decode code 1379 = .ok (.iload 4, 2) := by decide +kernel
theorem dL_law_1381 : decode code 1381 = .ok (.iconst 1, 1) := by decide +kernel
theorem dL_law_1382 : decode code 1382 = .ok (.iadd, 1) := by decide +kernel
theorem dL_law_1383 : decode code 1383 = .ok (.iaload, 1) := by decide +kernel
theorem dL_law_1384 : decode code 1384 = .ok (.aload_n 0, 1) := by decide +kernel
theorem dL_law_1385 : decode code 1385 = .ok (.iload 4, 2) := by decide +kernel
theorem dL_law_1387 : decode code 1387 = .ok (.iconst 2, 1) := by decide +kernel
theorem dL_law_1388 : decode code 1388 = .ok (.iadd, 1) := by decide +kernel
theorem dL_law_1389 : decode code 1389 = .ok (.iaload, 1) := by decide +kernel
theorem dL_law_1390 : decode code 1390 = .ok (.invokevirtual 210, 3) := by decide +kernel
theorem dL_law_1393 : decode code 1393 = .ok (.istore 6, 2) := by decide +kernel
theorem dL_law_1395 : decode code 1395 = .ok (.aload_n 2, 1) := by decide +kernel
theorem dL_law_1396 : decode code 1396 = .ok (.invokevirtual 131, 3) := by decide +kernel
theorem dL_law_1399 : decode code 1399 = .ok (.iload 5, 2) := by decide +kernel
theorem dL_law_1401 : decode code 1401 = .ok (.if_icmp .eq 5, 3) := by decide +kernel
theorem dL_law_1406 : decode code 1406 = .ok (.iload 5, 2) := by decide +kernel
theorem dL_law_1408 : decode code 1408 = .ok (.ifCond .ne 15, 3) := by decide +kernel
theorem dL_law_1411 : decode code 1411 = .ok (.aload_n 3, 1) := by decide +kernel
theorem dL_law_1412 : decode code 1412 = .ok (.iconst 0, 1) := by decide +kernel
theorem dL_law_1413 : decode code 1413 = .ok (.laload, 1) := by decide +kernel
theorem dL_law_1414 : decode code 1414 = .ok (.iload 6, 2) := by decide +kernel
theorem dL_law_1416 : decode code 1416 = .ok (.i2l, 1) := by decide +kernel
theorem dL_law_1417 : decode code 1417 = .ok (.lcmp, 1) := by decide +kernel
theorem dL_law_1418 : decode code 1418 = .ok (.ifCond .eq 5, 3) := by decide +kernel
theorem dL_law_1423 : decode code 1423 = .ok (.goto 1155, 3) := by decide +kernel
theorem dL_law_1426 : decode code 1426 = .ok (.aload_n 1, 1) := by decide +kernel
theorem dL_law_1427 : decode code 1427 = .ok (.aload_n 0, 1) := by decide +kernel
theorem dL_law_1428 : decode code 1428 = .ok (.iload 4, 2) := by decide +kernel
theorem dL_law_1430 : decode code 1430 = .ok (.iconst 1, 1) := by decide +kernel
theorem dL_law_1431 : decode code 1431 = .ok (.iadd, 1) := by decide +kernel
theorem dL_law_1432 : decode code 1432 = .ok (.iaload, 1) := by decide +kernel
theorem dL_law_1433 : decode code 1433 = .ok (.aload_n 0, 1) := by decide +kernel
theorem dL_law_1434 : decode code 1434 = .ok (.iload 4, 2) := by decide +kernel
theorem dL_law_1436 : decode code 1436 = .ok (.iconst 2, 1) := by decide +kernel
theorem dL_law_1437 : decode code 1437 = .ok (.iadd, 1) := by decide +kernel
theorem dL_law_1438 : decode code 1438 = .ok (.iaload, 1) := by decide +kernel
theorem dL_law_1439 : decode code 1439 = .ok (.aload_n 3, 1) := by decide +kernel
theorem dL_law_1440 : decode code 1440 = .ok (.invokestatic 211, 3) := by decide +kernel
theorem dL_law_1443 : decode code 1443 = .ok (.istore 5, 2) := by decide +kernel
theorem dL_law_1445 : decode code 1445 = .ok (.aload_n 2, 1) := by decide +kernel
theorem dL_law_1446 : decode code 1446 = .ok (.aload_n 0, 1) := by decide +kernel
theorem dL_law_1447 : decode code 1447 = .ok (.iload 4, 2) := by decide +kernel
theorem dL_law_1449 : decode code 1449 = .ok (.iconst 1, 1) := by decide +kernel
theorem dL_law_1450 : decode code 1450 = .ok (.iadd, 1) := by decide +kernel
theorem dL_law_1451 : decode code 1451 = .ok (.iaload, 1) := by decide +kernel
theorem dL_law_1452 : decode code 1452 = .ok (.aload_n 0, 1) := by decide +kernel
theorem dL_law_1453 : decode code 1453 = .ok (.iload 4, 2) := by decide +kernel
theorem dL_law_1455 : decode code 1455 = .ok (.iconst 2, 1) := by decide +kernel
theorem dL_law_1456 : decode code 1456 = .ok (.iadd, 1) := by decide +kernel
theorem dL_law_1457 : decode code 1457 = .ok (.iaload, 1) := by decide +kernel
theorem dL_law_1458 : decode code 1458 = .ok (.invokevirtual 213, 3) := by decide +kernel
theorem dL_law_1461 : decode code 1461 = .ok (.istore 6, 2) := by decide +kernel
theorem dL_law_1463 : decode code 1463 = .ok (.aload_n 2, 1) := by decide +kernel
theorem dL_law_1464 : decode code 1464 = .ok (.invokevirtual 131, 3) := by decide +kernel
theorem dL_law_1467 : decode code 1467 = .ok (.iload 5, 2) := by decide +kernel
theorem dL_law_1469 : decode code 1469 = .ok (.if_icmp .eq 5, 3) := by decide +kernel
theorem dL_law_1474 : decode code 1474 = .ok (.iload 5, 2) := by decide +kernel
theorem dL_law_1476 : decode code 1476 = .ok (.ifCond .ne 15, 3) := by decide +kernel
theorem dL_law_1479 : decode code 1479 = .ok (.aload_n 3, 1) := by decide +kernel
theorem dL_law_1480 : decode code 1480 = .ok (.iconst 0, 1) := by decide +kernel
theorem dL_law_1481 : decode code 1481 = .ok (.laload, 1) := by decide +kernel
theorem dL_law_1482 : decode code 1482 = .ok (.iload 6, 2) := by decide +kernel
theorem dL_law_1484 : decode code 1484 = .ok (.i2l, 1) := by decide +kernel
theorem dL_law_1485 : decode code 1485 = .ok (.lcmp, 1) := by decide +kernel
theorem dL_law_1486 : decode code 1486 = .ok (.ifCond .eq 5, 3) := by decide +kernel
theorem dL_law_1491 : decode code 1491 = .ok (.goto 1087, 3) := by decide +kernel
set_option maxRecDepth 100000 in
set_option maxHeartbeats 8000000 in
theorem case_18 {p : Program} {l : Launch} {e : Env} {s : State} {m : MethodId} {below : List Frame} {meth : Method} {c : Code} {Q : State → Prop} {D : va_G} {cys : Nat → ClassId} {ad : Nat → Int → Nat} {b Ls : Nat} {xs : Nat → Int32} (hi : injA ad) (hst : l.stackTraces = false) (G : GG p l s m #[Value.ref b] meth c D cys ad (fun q => s.heap.size ≤ q) code RL 9) (hN : NCS s) (hk4 : HK4 cys s) (hX : va_X b Ls xs s s.heap) (hbl : b < s.heap.size) (hL : Ls ≤ 2560) {L : List Nat} {g : Nat → va_E} {X : Int64} {Z : ZT} {ao : Nat} (hI : INV cys ad ao L g Z) {i : Int} (hi0 : 0 ≤ i) (hi5 : i + 5 ≤ Ls) {cells slots : Nat} (hc : cells + 200 ≤ 601024) (hs : slots + 3000 ≤ 7293034)
    (K : ∀ (L1 : List Nat) (g1 : Nat → va_E) (X1 : Int64) (Z1 : ZT), INV cys ad ao L1 g1 Z1 → JJ p l e room_1 s m #[Value.ref b] below meth c D cys ad (fun q => s.heap.size ≤ q) Q 9 (cells + 200) (slots + 3000) L1 g1 X1 Z1 2578 (LV5 b ad ao i) []) :
    JJ p l e room_1 s m #[Value.ref b] below meth c D cys ad (fun q => s.heap.size ≤ q) Q 9 cells slots L g X Z 1180 (LV5 b ad ao i) [] := by
  obtain ⟨hG, hRL, ⟨hao, hns, h33⟩, v0, hgo⟩ := hI
  have hW := hG.1.1
  have hbA : ¬ (fun q => s.heap.size ≤ q) b := Nat.not_le.mpr hbl
  refine j_aload_n G dL_law_1180 rfl ?_
  refine j_cVI G cvX6_greatest mlL_193 (c_X6_greatest hi (SP.rf Z) hW) dL_law_1181 ⟨by decide, by decide⟩ ⟨by rw [r1c]; omega, by rw [r1s]; omega⟩ rfl rfl (Nat.le_of_ble_eq_true rfl) (by decide) rfl rfl rfl (fun r h => ?_)
  have hS : SP Z Z := SP.rf Z
  have hR1 : RMZ Z Z := hG.2.hi (HI.sp hS)
  have hRL1 := hRL
  refine j_aload_n G dL_law_1184 rfl ?_
  refine j_cVIZ G cvX7_greatest mlL_196 (c_X7_greatest hi hR1 hRL1 hW) dL_law_1185 ⟨by decide, by decide⟩ ⟨by rw [r1c]; omega, by rw [r1s]; omega⟩ rfl rfl (Nat.le_of_ble_eq_true rfl) (by decide) rfl rfl rfl (fun x Z2 h2 => ?_)
  obtain ⟨hx, hM⟩ := h2
  have hq := ag_ask hG hS hM
  have hrx : r = x := h.trans hx.symm
  refine j_icmpS G 2578 dL_law_1188 (by decide) hrx ?_
  refine j_keep [0, 1, 2, 3, 4] ?_
  refine j_wid (cells' := cells + 200) (slots' := slots + 3000) (by omega) (by omega) ?_
  exact K _ _ _ _ ⟨hq.1, hq.2.1 cys ad _ _ hRL, ⟨hao, hns, h33⟩, v0, hgo⟩
set_option maxRecDepth 100000 in
set_option maxHeartbeats 8000000 in
theorem case_19 {p : Program} {l : Launch} {e : Env} {s : State} {m : MethodId} {below : List Frame} {meth : Method} {c : Code} {Q : State → Prop} {D : va_G} {cys : Nat → ClassId} {ad : Nat → Int → Nat} {b Ls : Nat} {xs : Nat → Int32} (hi : injA ad) (hst : l.stackTraces = false) (G : GG p l s m #[Value.ref b] meth c D cys ad (fun q => s.heap.size ≤ q) code RL 9) (hN : NCS s) (hk4 : HK4 cys s) (hX : va_X b Ls xs s s.heap) (hbl : b < s.heap.size) (hL : Ls ≤ 2560) {L : List Nat} {g : Nat → va_E} {X : Int64} {Z : ZT} {ao : Nat} (hI : INV cys ad ao L g Z) {i : Int} (hi0 : 0 ≤ i) (hi5 : i + 5 ≤ Ls) {cells slots : Nat} (hc : cells + 200 ≤ 601024) (hs : slots + 3000 ≤ 7293034)
    (K : ∀ (L1 : List Nat) (g1 : Nat → va_E) (X1 : Int64) (Z1 : ZT), INV cys ad ao L1 g1 Z1 → JJ p l e room_1 s m #[Value.ref b] below meth c D cys ad (fun q => s.heap.size ≤ q) Q 9 (cells + 200) (slots + 3000) L1 g1 X1 Z1 2578 (LV5 b ad ao i) []) :
    JJ p l e room_1 s m #[Value.ref b] below meth c D cys ad (fun q => s.heap.size ≤ q) Q 9 cells slots L g X Z 1193 (LV5 b ad ao i) [] := by
  obtain ⟨hG, hRL, ⟨hao, hns, h33⟩, v0, hgo⟩ := hI
  have hW := hG.1.1
  have hbA : ¬ (fun q => s.heap.size ≤ q) b := Nat.not_le.mpr hbl
  refine j_aload_n G dL_law_1193 rfl ?_
  refine j_cVDZ G cvX6_mean mlL_197 (c_X6_mean hi (SP.rf Z) hW) dL_law_1194 ⟨by decide, by decide⟩ ⟨by rw [r1c]; omega, by rw [r1s]; omega⟩ rfl rfl (Nat.le_of_ble_eq_true rfl) (by decide) rfl rfl rfl (fun r Z1 h => ?_)
  obtain ⟨hr, hz⟩ := h
  have hS : SP Z Z1 := by rw [hz]; exact SP.rf Z
  have hR1 : RMZ Z Z1 := hG.2.hi (HI.sp hS)
  have hRL1 := hRL
  refine j_dstore G dL_law_1197 (by decide) rfl ?_
  refine j_aload_n G dL_law_1199 rfl ?_
  refine j_cVDZ G cvX7_mean mlL_201 (c_X7_mean hi hR1 hRL1 hW) dL_law_1200 ⟨by decide, by decide⟩ ⟨by rw [r1c]; omega, by rw [r1s]; omega⟩ rfl rfl (Nat.le_of_ble_eq_true rfl) (by decide) rfl rfl rfl (fun x Z2 h2 => ?_)
  obtain ⟨hx, hM⟩ := h2
  have hq := ag_ask hG hS hM
  subst hr hx
  refine j_dstore G dL_law_1203 (by decide) rfl ?_
  refine j_dload G dL_law_1205 rfl ?_
  refine j_dload G dL_law_1207 rfl ?_
  refine j_dcmpS G dL_law_1209 (MEAN_nn hW) ?_
  refine j_if_eq G 1231 dL_law_1210 (by decide) (by decide) (fun _ => ?_) (fun h => absurd rfl h)
  refine j_goto G 2578 dL_law_1231 (by decide) ?_
  refine j_keep [0, 1, 2, 3, 4] ?_
  refine j_wid (cells' := cells + 200) (slots' := slots + 3000) (by omega) (by omega) ?_
  exact K _ _ _ _ ⟨hq.1, hq.2.1 cys ad _ _ hRL, ⟨hao, hns, h33⟩, v0, hgo⟩
set_option maxRecDepth 100000 in
set_option maxHeartbeats 8000000 in
theorem case_20 {p : Program} {l : Launch} {e : Env} {s : State} {m : MethodId} {below : List Frame} {meth : Method} {c : Code} {Q : State → Prop} {D : va_G} {cys : Nat → ClassId} {ad : Nat → Int → Nat} {b Ls : Nat} {xs : Nat → Int32} (hi : injA ad) (hst : l.stackTraces = false) (G : GG p l s m #[Value.ref b] meth c D cys ad (fun q => s.heap.size ≤ q) code RL 9) (hN : NCS s) (hk4 : HK4 cys s) (hX : va_X b Ls xs s s.heap) (hbl : b < s.heap.size) (hL : Ls ≤ 2560) {L : List Nat} {g : Nat → va_E} {X : Int64} {Z : ZT} {ao : Nat} (hI : INV cys ad ao L g Z) {i : Int} (hi0 : 0 ≤ i) (hi5 : i + 5 ≤ Ls) {cells slots : Nat} (hc : cells + 200 ≤ 601024) (hs : slots + 3000 ≤ 7293034)
    (K : ∀ (L1 : List Nat) (g1 : Nat → va_E) (X1 : Int64) (Z1 : ZT), INV cys ad ao L1 g1 Z1 → JJ p l e room_1 s m #[Value.ref b] below meth c D cys ad (fun q => s.heap.size ≤ q) Q 9 (cells + 200) (slots + 3000) L1 g1 X1 Z1 2578 (LV5 b ad ao i) []) :
    JJ p l e room_1 s m #[Value.ref b] below meth c D cys ad (fun q => s.heap.size ≤ q) Q 9 cells slots L g X Z 1234 (LV5 b ad ao i) [] := by
  obtain ⟨hG, hRL, ⟨hao, hns, h33⟩, v0, hgo⟩ := hI
  have hW := hG.1.1
  have hbA : ¬ (fun q => s.heap.size ≤ q) b := Nat.not_le.mpr hbl
  refine j_aload_n G dL_law_1234 rfl ?_
  refine j_aload_n G dL_law_1235 rfl ?_
  refine j_iload G dL_law_1236 rfl ?_
  refine j_iconst G dL_law_1238 ?_
  refine j_iadd G dL_law_1239 ?_
  refine j_sld G hX hbl hbA dL_law_1240 (by omega) (by omega) hL ?_
  refine j_aload_n G dL_law_1241 rfl ?_
  refine j_callW (n := 3) G hN (TW_of 775 (by decide +kernel) (by decide +kernel)) (TW_of 71 (by decide +kernel) (by decide +kernel)) (TW_of 776 (by decide +kernel) (by decide +kernel)) ⟨by decide +kernel, by decide +kernel, by decide +kernel⟩ (TW_of 774 (by decide +kernel) (by decide +kernel)) (cw_children hi hst (SP.rf Z) hW (sv_in _ _) hao hns hgo) dL_law_1242 ⟨by decide, by decide⟩ ⟨by rw [r1c]; omega, by rw [r1s]; omega⟩ rfl rfl (Nat.le_of_ble_eq_true rfl) (fun k L1 g1 X1 Z1 h => ?_)
  obtain ⟨eL, eX, v9, eg, hA⟩ := h
  subst L1 X1 g1
  have hR1 : RMZ Z Z1 := hG.2.hi (hi_children hA)
  have hRL1 := hRL.out h33 hgo v9
  have hgo1 : va_up g ao (OUT cys v9) ao = OUT cys v9 := va_up_self _ _ _
  refine j_istore G dL_law_1245 (by decide) rfl ?_
  refine j_aload_n G dL_law_1247 rfl ?_
  refine j_aload_n G dL_law_1248 rfl ?_
  refine j_iload G dL_law_1249 rfl ?_
  refine j_iconst G dL_law_1251 ?_
  refine j_iadd G dL_law_1252 ?_
  refine j_sld G hX hbl hbA dL_law_1253 (by omega) (by omega) hL ?_
  refine j_cVGI G cvX7_children mlL_204 (c_X7_children hi hR1 hW (sv_in _ _)) dL_law_1254 ⟨by decide, by decide⟩ ⟨by rw [r1c]; omega, by rw [r1s]; omega⟩ rfl rfl (Nat.le_of_ble_eq_true rfl) (by decide) rfl rfl rfl (fun x L2 g2 X2 Z2 h2 => ?_)
  obtain ⟨hB0, hE, eX⟩ := h2
  subst X2
  have hao2 : ao ∈ L2 := hE.1 _ hao
  have hgo2 : g2 ao = OUT cys v9 := (hE.2 _ hao).trans hgo1
  have hag := ag_children hG hA hB0
  have hRL2 := hag.2.1 cys ad _ _ (hRL1.ext hE)
  refine j_istore G dL_law_1257 (by decide) rfl ?_
  refine j_aload_n G dL_law_1259 rfl ?_
  refine j_cVI G cvX7_thrown mlL_131 (c_X7_thrown hi) dL_law_1260 ⟨by decide, by decide⟩ ⟨by rw [r1c]; omega, by rw [r1s]; omega⟩ rfl rfl (Nat.le_of_ble_eq_true rfl) (by decide) rfl rfl rfl (fun t ht => ?_)
  refine j_iload G dL_law_1263 rfl ?_
  refine j_icmpS G 1270 dL_law_1265 (by decide) (ht.trans hag.2.2.1) ?_
  refine j_iload G dL_law_1270 rfl ?_
  have hk02 := hag.2.2.2.2
  refine j_if_ne G 1287 dL_law_1272 (by decide) (by omega) (fun c0 => ?_) (fun c0 => ?_)
  · refine j_goto G 2578 dL_law_1287 (by decide) ?_
    refine j_keep [0, 1, 2, 3, 4] ?_
    refine j_wid (cells' := cells + 200) (slots' := slots + 3000) (by omega) (by omega) ?_
    exact K _ _ _ _ ⟨hag.1, hRL2, ⟨hao2, hns, h33⟩, v9, hgo2⟩
  · refine j_aload_n G dL_law_1275 rfl ?_
    refine j_iconst G dL_law_1276 ?_
    refine j_laldO G dL_law_1277 hao2 hns hgo2 ?_
    refine j_iload G dL_law_1278 rfl ?_
    refine j_i2l G dL_law_1280 ?_
    refine j_lcmpS G dL_law_1281 (hag.2.2.2.1 c0) ?_
    refine j_if_eq G 1287 dL_law_1282 (by decide) (by decide) (fun _ => ?_) (fun h => absurd rfl h)
    refine j_goto G 2578 dL_law_1287 (by decide) ?_
    refine j_keep [0, 1, 2, 3, 4] ?_
    refine j_wid (cells' := cells + 200) (slots' := slots + 3000) (by omega) (by omega) ?_
    exact K _ _ _ _ ⟨hag.1, hRL2, ⟨hao2, hns, h33⟩, v9, hgo2⟩
set_option maxRecDepth 100000 in
set_option maxHeartbeats 8000000 in
theorem case_21 {p : Program} {l : Launch} {e : Env} {s : State} {m : MethodId} {below : List Frame} {meth : Method} {c : Code} {Q : State → Prop} {D : va_G} {cys : Nat → ClassId} {ad : Nat → Int → Nat} {b Ls : Nat} {xs : Nat → Int32} (hi : injA ad) (hst : l.stackTraces = false) (G : GG p l s m #[Value.ref b] meth c D cys ad (fun q => s.heap.size ≤ q) code RL 9) (hN : NCS s) (hk4 : HK4 cys s) (hX : va_X b Ls xs s s.heap) (hbl : b < s.heap.size) (hL : Ls ≤ 2560) {L : List Nat} {g : Nat → va_E} {X : Int64} {Z : ZT} {ao : Nat} (hI : INV cys ad ao L g Z) {i : Int} (hi0 : 0 ≤ i) (hi5 : i + 5 ≤ Ls) {cells slots : Nat} (hc : cells + 200 ≤ 601024) (hs : slots + 3000 ≤ 7293034)
    (K : ∀ (L1 : List Nat) (g1 : Nat → va_E) (X1 : Int64) (Z1 : ZT), INV cys ad ao L1 g1 Z1 → JJ p l e room_1 s m #[Value.ref b] below meth c D cys ad (fun q => s.heap.size ≤ q) Q 9 (cells + 200) (slots + 3000) L1 g1 X1 Z1 2578 (LV5 b ad ao i) []) :
    JJ p l e room_1 s m #[Value.ref b] below meth c D cys ad (fun q => s.heap.size ≤ q) Q 9 cells slots L g X Z 1290 (LV5 b ad ao i) [] := by
  obtain ⟨hG, hRL, ⟨hao, hns, h33⟩, v0, hgo⟩ := hI
  have hW := hG.1.1
  have hbA : ¬ (fun q => s.heap.size ≤ q) b := Nat.not_le.mpr hbl
  refine j_aload_n G dL_law_1290 rfl ?_
  refine j_aload_n G dL_law_1291 rfl ?_
  refine j_iload G dL_law_1292 rfl ?_
  refine j_iconst G dL_law_1294 ?_
  refine j_iadd G dL_law_1295 ?_
  refine j_sld G hX hbl hbA dL_law_1296 (by omega) (by omega) hL ?_
  refine j_aload_n G dL_law_1297 rfl ?_
  refine j_iload G dL_law_1298 rfl ?_
  refine j_iconst G dL_law_1300 ?_
  refine j_iadd G dL_law_1301 ?_
  refine j_sld G hX hbl hbA dL_law_1302 (by omega) (by omega) hL ?_
  refine j_aload_n G dL_law_1303 rfl ?_
  refine j_callW (n := 4) G hN (TW_of 782 (by decide +kernel) (by decide +kernel)) (TW_of 71 (by decide +kernel) (by decide +kernel)) (TW_of 783 (by decide +kernel) (by decide +kernel)) ⟨by decide +kernel, by decide +kernel, by decide +kernel⟩ (TW_of 781 (by decide +kernel) (by decide +kernel)) (cw_sumOf hi hst (SP.rf Z) hW (sv_in _ _) (sv_in _ _) hao hns hgo) dL_law_1304 ⟨by decide, by decide⟩ ⟨by rw [r1c]; omega, by rw [r1s]; omega⟩ rfl rfl (Nat.le_of_ble_eq_true rfl) (fun k L1 g1 X1 Z1 h => ?_)
  obtain ⟨eL, eX, v9, eg, hA⟩ := h
  subst L1 X1 g1
  have hR1 : RMZ Z Z1 := hG.2.hi (hi_sumOf hA)
  have hRL1 := hRL.out h33 hgo v9
  have hgo1 : va_up g ao (OUT cys v9) ao = OUT cys v9 := va_up_self _ _ _
  refine j_istore G dL_law_1307 (by decide) rfl ?_
  refine j_aload_n G dL_law_1309 rfl ?_
  refine j_aload_n G dL_law_1310 rfl ?_
  refine j_iload G dL_law_1311 rfl ?_
  refine j_iconst G dL_law_1313 ?_
  refine j_iadd G dL_law_1314 ?_
  refine j_sld G hX hbl hbA dL_law_1315 (by omega) (by omega) hL ?_
  refine j_aload_n G dL_law_1316 rfl ?_
  refine j_iload G dL_law_1317 rfl ?_
  refine j_iconst G dL_law_1319 ?_
  refine j_iadd G dL_law_1320 ?_
  refine j_sld G hX hbl hbA dL_law_1321 (by omega) (by omega) hL ?_
  refine j_cVGI G cvX7_sumOf mlL_207 (c_X7_sumOf hi hR1 hRL1 hW (sv_in _ _) (sv_in _ _)) dL_law_1322 ⟨by decide, by decide⟩ ⟨by rw [r1c]; omega, by rw [r1s]; omega⟩ rfl rfl (Nat.le_of_ble_eq_true rfl) (by decide) rfl rfl rfl (fun x L2 g2 X2 Z2 h2 => ?_)
  obtain ⟨hB0, hE, eX⟩ := h2
  subst X2
  have hao2 : ao ∈ L2 := hE.1 _ hao
  have hgo2 : g2 ao = OUT cys v9 := (hE.2 _ hao).trans hgo1
  have hag := ag_sumOf hG hA hB0
  have hRL2 := hag.2.1 cys ad _ _ (hRL1.ext hE)
  refine j_istore G dL_law_1325 (by decide) rfl ?_
  refine j_aload_n G dL_law_1327 rfl ?_
  refine j_cVI G cvX7_thrown mlL_131 (c_X7_thrown hi) dL_law_1328 ⟨by decide, by decide⟩ ⟨by rw [r1c]; omega, by rw [r1s]; omega⟩ rfl rfl (Nat.le_of_ble_eq_true rfl) (by decide) rfl rfl rfl (fun t ht => ?_)
  refine j_iload G dL_law_1331 rfl ?_
  refine j_icmpS G 1338 dL_law_1333 (by decide) (ht.trans hag.2.2.1) ?_
  refine j_iload G dL_law_1338 rfl ?_
  have hk02 := hag.2.2.2.2
  refine j_if_ne G 1355 dL_law_1340 (by decide) (by omega) (fun c0 => ?_) (fun c0 => ?_)
  · refine j_goto G 2578 dL_law_1355 (by decide) ?_
    refine j_keep [0, 1, 2, 3, 4] ?_
    refine j_wid (cells' := cells + 200) (slots' := slots + 3000) (by omega) (by omega) ?_
    exact K _ _ _ _ ⟨hag.1, hRL2, ⟨hao2, hns, h33⟩, v9, hgo2⟩
  · refine j_aload_n G dL_law_1343 rfl ?_
    refine j_iconst G dL_law_1344 ?_
    refine j_laldO G dL_law_1345 hao2 hns hgo2 ?_
    refine j_iload G dL_law_1346 rfl ?_
    refine j_i2l G dL_law_1348 ?_
    refine j_lcmpS G dL_law_1349 (hag.2.2.2.1 c0) ?_
    refine j_if_eq G 1355 dL_law_1350 (by decide) (by decide) (fun _ => ?_) (fun h => absurd rfl h)
    refine j_goto G 2578 dL_law_1355 (by decide) ?_
    refine j_keep [0, 1, 2, 3, 4] ?_
    refine j_wid (cells' := cells + 200) (slots' := slots + 3000) (by omega) (by omega) ?_
    exact K _ _ _ _ ⟨hag.1, hRL2, ⟨hao2, hns, h33⟩, v9, hgo2⟩
set_option maxRecDepth 100000 in
set_option maxHeartbeats 8000000 in
theorem case_22 {p : Program} {l : Launch} {e : Env} {s : State} {m : MethodId} {below : List Frame} {meth : Method} {c : Code} {Q : State → Prop} {D : va_G} {cys : Nat → ClassId} {ad : Nat → Int → Nat} {b Ls : Nat} {xs : Nat → Int32} (hi : injA ad) (hst : l.stackTraces = false) (G : GG p l s m #[Value.ref b] meth c D cys ad (fun q => s.heap.size ≤ q) code RL 9) (hN : NCS s) (hk4 : HK4 cys s) (hX : va_X b Ls xs s s.heap) (hbl : b < s.heap.size) (hL : Ls ≤ 2560) {L : List Nat} {g : Nat → va_E} {X : Int64} {Z : ZT} {ao : Nat} (hI : INV cys ad ao L g Z) {i : Int} (hi0 : 0 ≤ i) (hi5 : i + 5 ≤ Ls) {cells slots : Nat} (hc : cells + 200 ≤ 601024) (hs : slots + 3000 ≤ 7293034)
    (K : ∀ (L1 : List Nat) (g1 : Nat → va_E) (X1 : Int64) (Z1 : ZT), INV cys ad ao L1 g1 Z1 → JJ p l e room_1 s m #[Value.ref b] below meth c D cys ad (fun q => s.heap.size ≤ q) Q 9 (cells + 200) (slots + 3000) L1 g1 X1 Z1 2578 (LV5 b ad ao i) []) :
    JJ p l e room_1 s m #[Value.ref b] below meth c D cys ad (fun q => s.heap.size ≤ q) Q 9 cells slots L g X Z 1358 (LV5 b ad ao i) [] := by
  obtain ⟨hG, hRL, ⟨hao, hns, h33⟩, v0, hgo⟩ := hI
  have hW := hG.1.1
  have hbA : ¬ (fun q => s.heap.size ≤ q) b := Nat.not_le.mpr hbl
  refine j_aload_n G dL_law_1358 rfl ?_
  refine j_aload_n G dL_law_1359 rfl ?_
  refine j_iload G dL_law_1360 rfl ?_
  refine j_iconst G dL_law_1362 ?_
  refine j_iadd G dL_law_1363 ?_
  refine j_sld G hX hbl hbA dL_law_1364 (by omega) (by omega) hL ?_
  refine j_aload_n G dL_law_1365 rfl ?_
  refine j_iload G dL_law_1366 rfl ?_
  refine j_iconst G dL_law_1368 ?_
  refine j_iadd G dL_law_1369 ?_
  refine j_sld G hX hbl hbA dL_law_1370 (by omega) (by omega) hL ?_
  refine j_aload_n G dL_law_1371 rfl ?_
  refine j_callW (n := 4) G hN (TW_of 794 (by decide +kernel) (by decide +kernel)) (TW_of 71 (by decide +kernel) (by decide +kernel)) (TW_of 795 (by decide +kernel) (by decide +kernel)) ⟨by decide +kernel, by decide +kernel, by decide +kernel⟩ (TW_of 793 (by decide +kernel) (by decide +kernel)) (cw_ranked hi hst (SP.rf Z) hW (sv_in _ _) (sv_in _ _) hao hns hgo) dL_law_1372 ⟨by decide, by decide⟩ ⟨by rw [r1c]; omega, by rw [r1s]; omega⟩ rfl rfl (Nat.le_of_ble_eq_true rfl) (fun k L1 g1 X1 Z1 h => ?_)
  obtain ⟨eL, eX, v9, eg, hA⟩ := h
  subst L1 X1 g1
  have hR1 : RMZ Z Z1 := hG.2.hi (hi_ranked hA)
  have hRL1 := hRL.out h33 hgo v9
  have hgo1 : va_up g ao (OUT cys v9) ao = OUT cys v9 := va_up_self _ _ _
  refine j_istore G dL_law_1375 (by decide) rfl ?_
  refine j_aload_n G dL_law_1377 rfl ?_
  refine j_aload_n G dL_law_1378 rfl ?_
  refine j_iload G dL_law_1379 rfl ?_
  refine j_iconst G dL_law_1381 ?_
  refine j_iadd G dL_law_1382 ?_
  refine j_sld G hX hbl hbA dL_law_1383 (by omega) (by omega) hL ?_
  refine j_aload_n G dL_law_1384 rfl ?_
  refine j_iload G dL_law_1385 rfl ?_
  refine j_iconst G dL_law_1387 ?_
  refine j_iadd G dL_law_1388 ?_
  refine j_sld G hX hbl hbA dL_law_1389 (by omega) (by omega) hL ?_
  refine j_cVGI G cvX7_ranked mlL_210 (c_X7_ranked hi hR1 hRL1 hW (sv_in _ _) (sv_in _ _)) dL_law_1390 ⟨by decide, by decide⟩ ⟨by rw [r1c]; omega, by rw [r1s]; omega⟩ rfl rfl (Nat.le_of_ble_eq_true rfl) (by decide) rfl rfl rfl (fun x L2 g2 X2 Z2 h2 => ?_)
  obtain ⟨hB0, hE, eX⟩ := h2
  subst X2
  have hao2 : ao ∈ L2 := hE.1 _ hao
  have hgo2 : g2 ao = OUT cys v9 := (hE.2 _ hao).trans hgo1
  have hag := ag_ranked hG hA hB0
  have hRL2 := hag.2.1 cys ad _ _ (hRL1.ext hE)
  refine j_istore G dL_law_1393 (by decide) rfl ?_
  refine j_aload_n G dL_law_1395 rfl ?_
  refine j_cVI G cvX7_thrown mlL_131 (c_X7_thrown hi) dL_law_1396 ⟨by decide, by decide⟩ ⟨by rw [r1c]; omega, by rw [r1s]; omega⟩ rfl rfl (Nat.le_of_ble_eq_true rfl) (by decide) rfl rfl rfl (fun t ht => ?_)
  refine j_iload G dL_law_1399 rfl ?_
  refine j_icmpS G 1406 dL_law_1401 (by decide) (ht.trans hag.2.2.1) ?_
  refine j_iload G dL_law_1406 rfl ?_
  have hk02 := hag.2.2.2.2
  refine j_if_ne G 1423 dL_law_1408 (by decide) (by omega) (fun c0 => ?_) (fun c0 => ?_)
  · refine j_goto G 2578 dL_law_1423 (by decide) ?_
    refine j_keep [0, 1, 2, 3, 4] ?_
    refine j_wid (cells' := cells + 200) (slots' := slots + 3000) (by omega) (by omega) ?_
    exact K _ _ _ _ ⟨hag.1, hRL2, ⟨hao2, hns, h33⟩, v9, hgo2⟩
  · refine j_aload_n G dL_law_1411 rfl ?_
    refine j_iconst G dL_law_1412 ?_
    refine j_laldO G dL_law_1413 hao2 hns hgo2 ?_
    refine j_iload G dL_law_1414 rfl ?_
    refine j_i2l G dL_law_1416 ?_
    refine j_lcmpS G dL_law_1417 (hag.2.2.2.1 c0) ?_
    refine j_if_eq G 1423 dL_law_1418 (by decide) (by decide) (fun _ => ?_) (fun h => absurd rfl h)
    refine j_goto G 2578 dL_law_1423 (by decide) ?_
    refine j_keep [0, 1, 2, 3, 4] ?_
    refine j_wid (cells' := cells + 200) (slots' := slots + 3000) (by omega) (by omega) ?_
    exact K _ _ _ _ ⟨hag.1, hRL2, ⟨hao2, hns, h33⟩, v9, hgo2⟩
set_option maxRecDepth 100000 in
set_option maxHeartbeats 8000000 in
theorem case_23 {p : Program} {l : Launch} {e : Env} {s : State} {m : MethodId} {below : List Frame} {meth : Method} {c : Code} {Q : State → Prop} {D : va_G} {cys : Nat → ClassId} {ad : Nat → Int → Nat} {b Ls : Nat} {xs : Nat → Int32} (hi : injA ad) (hst : l.stackTraces = false) (G : GG p l s m #[Value.ref b] meth c D cys ad (fun q => s.heap.size ≤ q) code RL 9) (hN : NCS s) (hk4 : HK4 cys s) (hX : va_X b Ls xs s s.heap) (hbl : b < s.heap.size) (hL : Ls ≤ 2560) {L : List Nat} {g : Nat → va_E} {X : Int64} {Z : ZT} {ao : Nat} (hI : INV cys ad ao L g Z) {i : Int} (hi0 : 0 ≤ i) (hi5 : i + 5 ≤ Ls) {cells slots : Nat} (hc : cells + 200 ≤ 601024) (hs : slots + 3000 ≤ 7293034)
    (K : ∀ (L1 : List Nat) (g1 : Nat → va_E) (X1 : Int64) (Z1 : ZT), INV cys ad ao L1 g1 Z1 → JJ p l e room_1 s m #[Value.ref b] below meth c D cys ad (fun q => s.heap.size ≤ q) Q 9 (cells + 200) (slots + 3000) L1 g1 X1 Z1 2578 (LV5 b ad ao i) []) :
    JJ p l e room_1 s m #[Value.ref b] below meth c D cys ad (fun q => s.heap.size ≤ q) Q 9 cells slots L g X Z 1426 (LV5 b ad ao i) [] := by
  obtain ⟨hG, hRL, ⟨hao, hns, h33⟩, v0, hgo⟩ := hI
  have hW := hG.1.1
  have hbA : ¬ (fun q => s.heap.size ≤ q) b := Nat.not_le.mpr hbl
  refine j_aload_n G dL_law_1426 rfl ?_
  refine j_aload_n G dL_law_1427 rfl ?_
  refine j_iload G dL_law_1428 rfl ?_
  refine j_iconst G dL_law_1430 ?_
  refine j_iadd G dL_law_1431 ?_
  refine j_sld G hX hbl hbA dL_law_1432 (by omega) (by omega) hL ?_
  refine j_aload_n G dL_law_1433 rfl ?_
  refine j_iload G dL_law_1434 rfl ?_
  refine j_iconst G dL_law_1436 ?_
  refine j_iadd G dL_law_1437 ?_
  refine j_sld G hX hbl hbA dL_law_1438 (by omega) (by omega) hL ?_
  refine j_aload_n G dL_law_1439 rfl ?_
  refine j_callW (n := 4) G hN (TW_of 801 (by decide +kernel) (by decide +kernel)) (TW_of 71 (by decide +kernel) (by decide +kernel)) (TW_of 802 (by decide +kernel) (by decide +kernel)) ⟨by decide +kernel, by decide +kernel, by decide +kernel⟩ (TW_of 800 (by decide +kernel) (by decide +kernel)) (cw_running hi hst (SP.rf Z) hW (sv_in _ _) (sv_in _ _) hao hns hgo) dL_law_1440 ⟨by decide, by decide⟩ ⟨by rw [r1c]; omega, by rw [r1s]; omega⟩ rfl rfl (Nat.le_of_ble_eq_true rfl) (fun k L1 g1 X1 Z1 h => ?_)
  obtain ⟨eL, eX, v9, eg, hA⟩ := h
  subst L1 X1 g1
  have hR1 : RMZ Z Z1 := hG.2.hi (hi_running hA)
  have hRL1 := hRL.out h33 hgo v9
  have hgo1 : va_up g ao (OUT cys v9) ao = OUT cys v9 := va_up_self _ _ _
  refine j_istore G dL_law_1443 (by decide) rfl ?_
  refine j_aload_n G dL_law_1445 rfl ?_
  refine j_aload_n G dL_law_1446 rfl ?_
  refine j_iload G dL_law_1447 rfl ?_
  refine j_iconst G dL_law_1449 ?_
  refine j_iadd G dL_law_1450 ?_
  refine j_sld G hX hbl hbA dL_law_1451 (by omega) (by omega) hL ?_
  refine j_aload_n G dL_law_1452 rfl ?_
  refine j_iload G dL_law_1453 rfl ?_
  refine j_iconst G dL_law_1455 ?_
  refine j_iadd G dL_law_1456 ?_
  refine j_sld G hX hbl hbA dL_law_1457 (by omega) (by omega) hL ?_
  refine j_cVGI G cvX7_running mlL_213 (c_X7_running hi hR1 hRL1 hW (sv_in _ _) (sv_in _ _)) dL_law_1458 ⟨by decide, by decide⟩ ⟨by rw [r1c]; omega, by rw [r1s]; omega⟩ rfl rfl (Nat.le_of_ble_eq_true rfl) (by decide) rfl rfl rfl (fun x L2 g2 X2 Z2 h2 => ?_)
  obtain ⟨hB0, hE, eX⟩ := h2
  subst X2
  have hao2 : ao ∈ L2 := hE.1 _ hao
  have hgo2 : g2 ao = OUT cys v9 := (hE.2 _ hao).trans hgo1
  have hag := ag_running hG hA hB0
  have hRL2 := hag.2.1 cys ad _ _ (hRL1.ext hE)
  refine j_istore G dL_law_1461 (by decide) rfl ?_
  refine j_aload_n G dL_law_1463 rfl ?_
  refine j_cVI G cvX7_thrown mlL_131 (c_X7_thrown hi) dL_law_1464 ⟨by decide, by decide⟩ ⟨by rw [r1c]; omega, by rw [r1s]; omega⟩ rfl rfl (Nat.le_of_ble_eq_true rfl) (by decide) rfl rfl rfl (fun t ht => ?_)
  refine j_iload G dL_law_1467 rfl ?_
  refine j_icmpS G 1474 dL_law_1469 (by decide) (ht.trans hag.2.2.1) ?_
  refine j_iload G dL_law_1474 rfl ?_
  have hk02 := hag.2.2.2.2
  refine j_if_ne G 1491 dL_law_1476 (by decide) (by omega) (fun c0 => ?_) (fun c0 => ?_)
  · refine j_goto G 2578 dL_law_1491 (by decide) ?_
    refine j_keep [0, 1, 2, 3, 4] ?_
    refine j_wid (cells' := cells + 200) (slots' := slots + 3000) (by omega) (by omega) ?_
    exact K _ _ _ _ ⟨hag.1, hRL2, ⟨hao2, hns, h33⟩, v9, hgo2⟩
  · refine j_aload_n G dL_law_1479 rfl ?_
    refine j_iconst G dL_law_1480 ?_
    refine j_laldO G dL_law_1481 hao2 hns hgo2 ?_
    refine j_iload G dL_law_1482 rfl ?_
    refine j_i2l G dL_law_1484 ?_
    refine j_lcmpS G dL_law_1485 (hag.2.2.2.1 c0) ?_
    refine j_if_eq G 1491 dL_law_1486 (by decide) (by decide) (fun _ => ?_) (fun h => absurd rfl h)
    refine j_goto G 2578 dL_law_1491 (by decide) ?_
    refine j_keep [0, 1, 2, 3, 4] ?_
    refine j_wid (cells' := cells + 200) (slots' := slots + 3000) (by omega) (by omega) ?_
    exact K _ _ _ _ ⟨hag.1, hRL2, ⟨hao2, hns, h33⟩, v9, hgo2⟩
