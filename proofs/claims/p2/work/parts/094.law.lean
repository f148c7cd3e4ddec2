set_option maxHeartbeats 4000000 in
theorem law_c36 {z : ZZ} {g : GG} {Qf : State → Prop} {M : MM} {b Ln : Nat} {xs : Nat → Int32} {v3 : Int32} (hC : CX z g cL_law 4 wsL_law RL room_1) (hF : full g) (hX : SX z g b Ln xs) (hB : inS v3 Ln) (hR : Rel M) (kk : ∀ M2, Rel M2 → XX z g Qf 4 1437 [(0, .ref b), (1, .ref (gA g 0)), (2, .ref (gA g 52)), (3, .int v3)] [] M2) : XX z g Qf 4 1262 [(0, .ref b), (1, .ref (gA g 0)), (2, .ref (gA g 52)), (3, .int v3)] [] M := by
  refine q_aload_n hC dL_law_1262 1 rfl 1263 rfl ?_
  refine q_aload_n hC dL_law_1263 0 rfl 1264 rfl ?_
  refine q_iload_n hC dL_law_1264 3 rfl 1265 rfl ?_
  refine q_iconst (v := 1) hC dL_law_1265 (by decide) 1266 rfl ?_
  refine q_iadd hC dL_law_1266 1267 rfl ?_
  refine q_sld hC hX hB.2.1 dL_law_1267 1268 rfl ?_
  refine q_aload_n hC dL_law_1268 0 rfl 1269 rfl ?_
  refine q_iload_n hC dL_law_1269 3 rfl 1270 rfl ?_
  refine q_iconst (v := 2) hC dL_law_1270 (by decide) 1271 rfl ?_
  refine q_iadd hC dL_law_1271 1272 rfl ?_
  refine q_sld hC hX hB.2.2.1 dL_law_1272 1273 rfl ?_
  refine q_aload_n hC dL_law_1273 0 rfl 1274 rfl ?_
  refine q_iload_n hC dL_law_1274 3 rfl 1275 rfl ?_
  refine q_iconst (v := 3) hC dL_law_1275 (by decide) 1276 rfl ?_
  refine q_iadd hC dL_law_1276 1277 rfl ?_
  refine q_sld hC hX hB.2.2.2.1 dL_law_1277 1278 rfl ?_
  refine r_callI hC (go_V (q := (RX4, TX4, 12)) (As := [.int (xs (v3 + 1).toNatClampNeg), .int (xs (v3 + 2).toNatClampNeg), .int (xs (v3 + 3).toNatClampNeg)]) (rest := []) hC (ctX4_sheet (zl z) g M (xs (v3 + 1).toNatClampNeg) (xs (v3 + 2).toNatClampNeg) (xs (v3 + 3).toNatClampNeg) _ hF (L_sheet hR (xs (v3 + 1).toNatClampNeg) (xs (v3 + 2).toNatClampNeg) (xs (v3 + 3).toNatClampNeg))) 3 gL_law_X4_sheet rfl ⟨rfl, rfl⟩ hdL_X4_sheet ⟨Nat.le_of_ble_eq_true rfl, Nat.le_of_ble_eq_true rfl⟩ (obF0 hF) rfl rfl rfl (Nat.le_of_ble_eq_true rfl) dL_law_1278) 1281 rfl (fun r1 M1 hw => ?_)
  refine q_pop hC dL_law_1281 rfl 1282 rfl ?_
  refine q_aload_n hC dL_law_1282 2 rfl 1283 rfl ?_
  refine q_aload_n hC dL_law_1283 0 rfl 1284 rfl ?_
  refine q_iload_n hC dL_law_1284 3 rfl 1285 rfl ?_
  refine q_iconst (v := 1) hC dL_law_1285 (by decide) 1286 rfl ?_
  refine q_iadd hC dL_law_1286 1287 rfl ?_
  refine q_sld hC hX hB.2.1 dL_law_1287 1288 rfl ?_
  refine q_aload_n hC dL_law_1288 0 rfl 1289 rfl ?_
  refine q_iload_n hC dL_law_1289 3 rfl 1290 rfl ?_
  refine q_iconst (v := 2) hC dL_law_1290 (by decide) 1291 rfl ?_
  refine q_iadd hC dL_law_1291 1292 rfl ?_
  refine q_sld hC hX hB.2.2.1 dL_law_1292 1293 rfl ?_
  refine q_aload_n hC dL_law_1293 0 rfl 1294 rfl ?_
  refine q_iload_n hC dL_law_1294 3 rfl 1295 rfl ?_
  refine q_iconst (v := 3) hC dL_law_1295 (by decide) 1296 rfl ?_
  refine q_iadd hC dL_law_1296 1297 rfl ?_
  refine q_sld hC hX hB.2.2.2.1 dL_law_1297 1298 rfl ?_
  refine r_callI hC (go_V (q := (RX5, TX5, 26)) (As := [.int (xs (v3 + 1).toNatClampNeg), .int (xs (v3 + 2).toNatClampNeg), .int (xs (v3 + 3).toNatClampNeg)]) (rest := []) hC (ctX5_sheet (zl z) g M1 (xs (v3 + 1).toNatClampNeg) (xs (v3 + 2).toNatClampNeg) (xs (v3 + 3).toNatClampNeg) _ hF.f5 hw) 3 gL_law_X5_sheet rfl ⟨rfl, rfl⟩ hdL_X5_sheet ⟨Nat.le_of_ble_eq_true rfl, Nat.le_of_ble_eq_true rfl⟩ (obF52 hF.f5) rfl rfl rfl (Nat.le_of_ble_eq_true rfl) dL_law_1298) 1301 rfl (fun r2 M2 hw => ?_)
  have hw3 := hw.2
  refine q_pop hC dL_law_1301 rfl 1302 rfl ?_
  refine q_goto hC 1437 dL_law_1302 (by decide) ?_
  exact kk _ hw3
set_option maxHeartbeats 4000000 in
theorem law_c37 {z : ZZ} {g : GG} {Qf : State → Prop} {M : MM} {b Ln : Nat} {xs : Nat → Int32} {v3 : Int32} (hC : CX z g cL_law 4 wsL_law RL room_1) (hF : full g) (hX : SX z g b Ln xs) (hB : inS v3 Ln) (hR : Rel M) (kk : ∀ M2, Rel M2 → XX z g Qf 4 1437 [(0, .ref b), (1, .ref (gA g 0)), (2, .ref (gA g 52)), (3, .int v3)] [] M2) : XX z g Qf 4 1305 [(0, .ref b), (1, .ref (gA g 0)), (2, .ref (gA g 52)), (3, .int v3)] [] M := by
  refine q_aload_n hC dL_law_1305 1 rfl 1306 rfl ?_
  refine q_aload_n hC dL_law_1306 0 rfl 1307 rfl ?_
  refine q_iload_n hC dL_law_1307 3 rfl 1308 rfl ?_
  refine q_iconst (v := 1) hC dL_law_1308 (by decide) 1309 rfl ?_
  refine q_iadd hC dL_law_1309 1310 rfl ?_
  refine q_sld hC hX hB.2.1 dL_law_1310 1311 rfl ?_
  refine q_aload_n hC dL_law_1311 0 rfl 1312 rfl ?_
  refine q_iload_n hC dL_law_1312 3 rfl 1313 rfl ?_
  refine q_iconst (v := 2) hC dL_law_1313 (by decide) 1314 rfl ?_
  refine q_iadd hC dL_law_1314 1315 rfl ?_
  refine q_sld hC hX hB.2.2.1 dL_law_1315 1316 rfl ?_
  refine q_aload_n hC dL_law_1316 0 rfl 1317 rfl ?_
  refine q_iload_n hC dL_law_1317 3 rfl 1318 rfl ?_
  refine q_iconst (v := 3) hC dL_law_1318 (by decide) 1319 rfl ?_
  refine q_iadd hC dL_law_1319 1320 rfl ?_
  refine q_sld hC hX hB.2.2.2.1 dL_law_1320 1321 rfl ?_
  refine r_callI hC (go_V (q := (RX4, TX4, 12)) (As := [.int (xs (v3 + 1).toNatClampNeg), .int (xs (v3 + 2).toNatClampNeg), .int (xs (v3 + 3).toNatClampNeg)]) (rest := []) hC (ctX4_lay (zl z) g M (xs (v3 + 1).toNatClampNeg) (xs (v3 + 2).toNatClampNeg) (xs (v3 + 3).toNatClampNeg) _ hF (L_lay hR (xs (v3 + 1).toNatClampNeg) (xs (v3 + 2).toNatClampNeg) (xs (v3 + 3).toNatClampNeg))) 3 gL_law_X4_lay rfl ⟨rfl, rfl⟩ hdL_X4_lay ⟨Nat.le_of_ble_eq_true rfl, Nat.le_of_ble_eq_true rfl⟩ (obF0 hF) rfl rfl rfl (Nat.le_of_ble_eq_true rfl) dL_law_1321) 1324 rfl (fun r1 M1 hw => ?_)
  refine q_pop hC dL_law_1324 rfl 1325 rfl ?_
  refine q_aload_n hC dL_law_1325 2 rfl 1326 rfl ?_
  refine q_aload_n hC dL_law_1326 0 rfl 1327 rfl ?_
  refine q_iload_n hC dL_law_1327 3 rfl 1328 rfl ?_
  refine q_iconst (v := 1) hC dL_law_1328 (by decide) 1329 rfl ?_
  refine q_iadd hC dL_law_1329 1330 rfl ?_
  refine q_sld hC hX hB.2.1 dL_law_1330 1331 rfl ?_
  refine q_aload_n hC dL_law_1331 0 rfl 1332 rfl ?_
  refine q_iload_n hC dL_law_1332 3 rfl 1333 rfl ?_
  refine q_iconst (v := 2) hC dL_law_1333 (by decide) 1334 rfl ?_
  refine q_iadd hC dL_law_1334 1335 rfl ?_
  refine q_sld hC hX hB.2.2.1 dL_law_1335 1336 rfl ?_
  refine q_aload_n hC dL_law_1336 0 rfl 1337 rfl ?_
  refine q_iload_n hC dL_law_1337 3 rfl 1338 rfl ?_
  refine q_iconst (v := 3) hC dL_law_1338 (by decide) 1339 rfl ?_
  refine q_iadd hC dL_law_1339 1340 rfl ?_
  refine q_sld hC hX hB.2.2.2.1 dL_law_1340 1341 rfl ?_
  refine r_callI hC (go_V (q := (RX5, TX5, 26)) (As := [.int (xs (v3 + 1).toNatClampNeg), .int (xs (v3 + 2).toNatClampNeg), .int (xs (v3 + 3).toNatClampNeg)]) (rest := []) hC (ctX5_lay (zl z) g M1 (xs (v3 + 1).toNatClampNeg) (xs (v3 + 2).toNatClampNeg) (xs (v3 + 3).toNatClampNeg) _ hF.f5 hw) 3 gL_law_X5_lay rfl ⟨rfl, rfl⟩ hdL_X5_lay ⟨Nat.le_of_ble_eq_true rfl, Nat.le_of_ble_eq_true rfl⟩ (obF52 hF.f5) rfl rfl rfl (Nat.le_of_ble_eq_true rfl) dL_law_1341) 1344 rfl (fun r2 M2 hw => ?_)
  have hw3 := hw.2
  refine q_pop hC dL_law_1344 rfl 1345 rfl ?_
  refine q_goto hC 1437 dL_law_1345 (by decide) ?_
  exact kk _ hw3
set_option maxHeartbeats 4000000 in
theorem law_c38 {z : ZZ} {g : GG} {Qf : State → Prop} {M : MM} {b Ln : Nat} {xs : Nat → Int32} {v3 : Int32} (hC : CX z g cL_law 4 wsL_law RL room_1) (hF : full g) (hX : SX z g b Ln xs) (hB : inS v3 Ln) (hR : Rel M) (kk : ∀ M2, Rel M2 → XX z g Qf 4 1437 [(0, .ref b), (1, .ref (gA g 0)), (2, .ref (gA g 52)), (3, .int v3)] [] M2) : XX z g Qf 4 1348 [(0, .ref b), (1, .ref (gA g 0)), (2, .ref (gA g 52)), (3, .int v3)] [] M := by
  refine q_aload_n hC dL_law_1348 1 rfl 1349 rfl ?_
  refine q_aload_n hC dL_law_1349 0 rfl 1350 rfl ?_
  refine q_iload_n hC dL_law_1350 3 rfl 1351 rfl ?_
  refine q_iconst (v := 1) hC dL_law_1351 (by decide) 1352 rfl ?_
  refine q_iadd hC dL_law_1352 1353 rfl ?_
  refine q_sld hC hX hB.2.1 dL_law_1353 1354 rfl ?_
  refine q_aload_n hC dL_law_1354 0 rfl 1355 rfl ?_
  refine q_iload_n hC dL_law_1355 3 rfl 1356 rfl ?_
  refine q_iconst (v := 2) hC dL_law_1356 (by decide) 1357 rfl ?_
  refine q_iadd hC dL_law_1357 1358 rfl ?_
  refine q_sld hC hX hB.2.2.1 dL_law_1358 1359 rfl ?_
  refine q_aload_n hC dL_law_1359 0 rfl 1360 rfl ?_
  refine q_iload_n hC dL_law_1360 3 rfl 1361 rfl ?_
  refine q_iconst (v := 3) hC dL_law_1361 (by decide) 1362 rfl ?_
  refine q_iadd hC dL_law_1362 1363 rfl ?_
  refine q_sld hC hX hB.2.2.2.1 dL_law_1363 1364 rfl ?_
  refine q_aload_n hC dL_law_1364 0 rfl 1365 rfl ?_
  refine q_iload_n hC dL_law_1365 3 rfl 1366 rfl ?_
  refine q_iconst (v := 4) hC dL_law_1366 (by decide) 1367 rfl ?_
  refine q_iadd hC dL_law_1367 1368 rfl ?_
  refine q_sld hC hX hB.2.2.2.2.1 dL_law_1368 1369 rfl ?_
  refine r_callI hC (go_V (q := (RX4, TX4, 12)) (As := [.int (xs (v3 + 1).toNatClampNeg), .int (xs (v3 + 2).toNatClampNeg), .int (xs (v3 + 3).toNatClampNeg), .int (xs (v3 + 4).toNatClampNeg)]) (rest := []) hC (ctX4_read (zl z) g M (xs (v3 + 1).toNatClampNeg) (xs (v3 + 2).toNatClampNeg) (xs (v3 + 3).toNatClampNeg) (xs (v3 + 4).toNatClampNeg) _ hF (L_read hR (xs (v3 + 1).toNatClampNeg) (xs (v3 + 2).toNatClampNeg) (xs (v3 + 3).toNatClampNeg) (xs (v3 + 4).toNatClampNeg))) 4 gL_law_X4_read rfl ⟨rfl, rfl⟩ hdL_X4_read ⟨Nat.le_of_ble_eq_true rfl, Nat.le_of_ble_eq_true rfl⟩ (obF0 hF) rfl rfl rfl (Nat.le_of_ble_eq_true rfl) dL_law_1369) 1372 rfl (fun r1 M1 hw => ?_)
  refine q_pop hC dL_law_1372 rfl 1373 rfl ?_
  refine q_aload_n hC dL_law_1373 2 rfl 1374 rfl ?_
  refine q_aload_n hC dL_law_1374 0 rfl 1375 rfl ?_
  refine q_iload_n hC dL_law_1375 3 rfl 1376 rfl ?_
  refine q_iconst (v := 1) hC dL_law_1376 (by decide) 1377 rfl ?_
  refine q_iadd hC dL_law_1377 1378 rfl ?_
  refine q_sld hC hX hB.2.1 dL_law_1378 1379 rfl ?_
  refine q_aload_n hC dL_law_1379 0 rfl 1380 rfl ?_
  refine q_iload_n hC dL_law_1380 3 rfl 1381 rfl ?_
  refine q_iconst (v := 2) hC dL_law_1381 (by decide) 1382 rfl ?_
  refine q_iadd hC dL_law_1382 1383 rfl ?_
  refine q_sld hC hX hB.2.2.1 dL_law_1383 1384 rfl ?_
  refine q_aload_n hC dL_law_1384 0 rfl 1385 rfl ?_
  refine q_iload_n hC dL_law_1385 3 rfl 1386 rfl ?_
  refine q_iconst (v := 3) hC dL_law_1386 (by decide) 1387 rfl ?_
  refine q_iadd hC dL_law_1387 1388 rfl ?_
  refine q_sld hC hX hB.2.2.2.1 dL_law_1388 1389 rfl ?_
  refine q_aload_n hC dL_law_1389 0 rfl 1390 rfl ?_
  refine q_iload_n hC dL_law_1390 3 rfl 1391 rfl ?_
  refine q_iconst (v := 4) hC dL_law_1391 (by decide) 1392 rfl ?_
  refine q_iadd hC dL_law_1392 1393 rfl ?_
  refine q_sld hC hX hB.2.2.2.2.1 dL_law_1393 1394 rfl ?_
  refine r_callI hC (go_V (q := (RX5, TX5, 26)) (As := [.int (xs (v3 + 1).toNatClampNeg), .int (xs (v3 + 2).toNatClampNeg), .int (xs (v3 + 3).toNatClampNeg), .int (xs (v3 + 4).toNatClampNeg)]) (rest := []) hC (ctX5_read (zl z) g M1 (xs (v3 + 1).toNatClampNeg) (xs (v3 + 2).toNatClampNeg) (xs (v3 + 3).toNatClampNeg) (xs (v3 + 4).toNatClampNeg) _ hF.f5 hw) 4 gL_law_X5_read rfl ⟨rfl, rfl⟩ hdL_X5_read ⟨Nat.le_of_ble_eq_true rfl, Nat.le_of_ble_eq_true rfl⟩ (obF52 hF.f5) rfl rfl rfl (Nat.le_of_ble_eq_true rfl) dL_law_1394) 1397 rfl (fun r2 M2 hw => ?_)
  have hw3 := hw.2
  refine q_pop hC dL_law_1397 rfl 1398 rfl ?_
  refine q_goto hC 1437 dL_law_1398 (by decide) ?_
  exact kk _ hw3
set_option maxHeartbeats 4000000 in
theorem law_c39 {z : ZZ} {g : GG} {Qf : State → Prop} {M : MM} {b Ln : Nat} {xs : Nat → Int32} {v3 : Int32} (hC : CX z g cL_law 4 wsL_law RL room_1) (hF : full g) (hX : SX z g b Ln xs) (hB : inS v3 Ln) (hR : Rel M) (kk : ∀ M2, Rel M2 → XX z g Qf 4 1437 [(0, .ref b), (1, .ref (gA g 0)), (2, .ref (gA g 52)), (3, .int v3)] [] M2) : XX z g Qf 4 1401 [(0, .ref b), (1, .ref (gA g 0)), (2, .ref (gA g 52)), (3, .int v3)] [] M := by
  refine q_aload_n hC dL_law_1401 1 rfl 1402 rfl ?_
  refine r_callI hC (go_V (q := (RX4, TX4, 12)) (As := []) (rest := []) hC (ctX4_torn (zl z) g M _ hF (L_torn hR)) 0 gL_law_X4_torn rfl ⟨rfl, rfl⟩ hdL_X4_torn ⟨Nat.le_of_ble_eq_true rfl, Nat.le_of_ble_eq_true rfl⟩ (obF0 hF) rfl rfl rfl (Nat.le_of_ble_eq_true rfl) dL_law_1402) 1405 rfl (fun r1 M1 hw => ?_)
  refine q_pop hC dL_law_1405 rfl 1406 rfl ?_
  refine q_aload_n hC dL_law_1406 2 rfl 1407 rfl ?_
  refine r_callI hC (go_V (q := (RX5, TX5, 26)) (As := []) (rest := []) hC (ctX5_torn (zl z) g M1 _ hF.f5 hw) 0 gL_law_X5_torn rfl ⟨rfl, rfl⟩ hdL_X5_torn ⟨Nat.le_of_ble_eq_true rfl, Nat.le_of_ble_eq_true rfl⟩ (obF52 hF.f5) rfl rfl rfl (Nat.le_of_ble_eq_true rfl) dL_law_1407) 1410 rfl (fun r2 M2 hw => ?_)
  have hw3 := hw.2
  refine q_pop hC dL_law_1410 rfl 1411 rfl ?_
  refine q_goto hC 1437 dL_law_1411 (by decide) ?_
  exact kk _ hw3
set_option maxHeartbeats 4000000 in
theorem law_c40 {z : ZZ} {g : GG} {Qf : State → Prop} {M : MM} {b Ln : Nat} {xs : Nat → Int32} {v3 : Int32} (hC : CX z g cL_law 4 wsL_law RL room_1) (hF : full g) (hX : SX z g b Ln xs) (hB : inS v3 Ln) (hR : Rel M) (kk : ∀ M2, Rel M2 → XX z g Qf 4 1437 [(0, .ref b), (1, .ref (gA g 0)), (2, .ref (gA g 52)), (3, .int v3)] [] M2) : XX z g Qf 4 1414 [(0, .ref b), (1, .ref (gA g 0)), (2, .ref (gA g 52)), (3, .int v3)] [] M := by
  refine q_aload_n hC dL_law_1414 1 rfl 1415 rfl ?_
  refine q_aload_n hC dL_law_1415 0 rfl 1416 rfl ?_
  refine q_iload_n hC dL_law_1416 3 rfl 1417 rfl ?_
  refine q_iconst (v := 1) hC dL_law_1417 (by decide) 1418 rfl ?_
  refine q_iadd hC dL_law_1418 1419 rfl ?_
  refine q_sld hC hX hB.2.1 dL_law_1419 1420 rfl ?_
  refine r_callI hC (go_V (q := (RX4, TX4, 12)) (As := [.int (xs (v3 + 1).toNatClampNeg)]) (rest := []) hC (ctX4_count (zl z) g M (xs (v3 + 1).toNatClampNeg) _ hF (L_count hR (xs (v3 + 1).toNatClampNeg))) 1 gL_law_X4_count rfl ⟨rfl, rfl⟩ hdL_X4_count ⟨Nat.le_of_ble_eq_true rfl, Nat.le_of_ble_eq_true rfl⟩ (obF0 hF) rfl rfl rfl (Nat.le_of_ble_eq_true rfl) dL_law_1420) 1423 rfl (fun r1 M1 hw => ?_)
  refine q_pop hC dL_law_1423 rfl 1424 rfl ?_
  refine q_aload_n hC dL_law_1424 2 rfl 1425 rfl ?_
  refine q_aload_n hC dL_law_1425 0 rfl 1426 rfl ?_
  refine q_iload_n hC dL_law_1426 3 rfl 1427 rfl ?_
  refine q_iconst (v := 1) hC dL_law_1427 (by decide) 1428 rfl ?_
  refine q_iadd hC dL_law_1428 1429 rfl ?_
  refine q_sld hC hX hB.2.1 dL_law_1429 1430 rfl ?_
  refine r_callI hC (go_V (q := (RX5, TX5, 26)) (As := [.int (xs (v3 + 1).toNatClampNeg)]) (rest := []) hC (ctX5_count (zl z) g M1 (xs (v3 + 1).toNatClampNeg) _ hF.f5 hw) 1 gL_law_X5_count rfl ⟨rfl, rfl⟩ hdL_X5_count ⟨Nat.le_of_ble_eq_true rfl, Nat.le_of_ble_eq_true rfl⟩ (obF52 hF.f5) rfl rfl rfl (Nat.le_of_ble_eq_true rfl) dL_law_1430) 1433 rfl (fun r2 M2 hw => ?_)
  have hw3 := hw.2
  refine q_pop hC dL_law_1433 rfl 1434 rfl ?_
  refine q_goto hC 1437 dL_law_1434 (by decide) ?_
  exact kk _ hw3
