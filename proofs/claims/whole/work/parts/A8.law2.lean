/-! the law's cases, 17 to 33 -/
set_option maxRecDepth 100000 in
set_option maxHeartbeats 4000000 in
theorem L_17 {L : Nat} {xs : Nat → Int32} {l : Launch} {n t dr tx bc bs : Nat} {w : zW} {i : Int} (hL0 : L < 2147483648) (h : zSim n t dr tx w) (hn : n ≤ 600) (i0 : 0 ≤ i) (i6 : i + 6 ≤ (L : Int)) (kk : ∀ (t2 dr2 tx2 : Nat) (w3 : zW), zSim (n + 1) t2 dr2 tx2 w3 → zB L xs l mL_law false 16 bc bs QL zNo 3195 [zR 4000, zR 0, zR 73, zR 121, zI i, .null, .null] [] (ZZ t2 dr2 tx2) w3) : zB L xs l mL_law false 16 (bc + 3) (bs + 18) QL zNo 1271 [zR 4000, zR 0, zR 73, zR 121, zI i, .null, .null] [] (ZZ t dr tx) w := by
  have hp : zPr l n mX11_next mX12_next 1 2 false [zI (sc xs (i + 1))] t dr tx w := P_next h (inR_t _)
  refine zB_aload_n dL_law_1271 rfl ?_
  refine zB_rd dL_law_1272 dL_law_1273 dL_law_1275 dL_law_1276 dL_law_1277 rfl rfl (by omega) (by omega) hL0 ?_
  refine zB_aload_n dL_law_1278 rfl ?_
  refine zB_callS (bc2 := bc) (bs2 := bs) (st := []) dL_law_1279 sL_next kL_192 (w_next hp) (by decide) rfl rfl (Nat.le_of_ble_eq_true rfl) ⟨Nat.add_comm _ _, Nat.add_comm _ _⟩ (fun v S1 w1 hq => ?_) (fun E S1 w1 hx => hx.elim)
  obtain ⟨k, rfl, ⟨hk0, hk2⟩, ⟨t1, dr1, tx1, rfl⟩, d2, Q2, hd2, hsp, hk⟩ := hq
  have hkr : inR k := inR_mk (by omega) (by omega)
  show zB L xs l mL_law false 16 bc bs QL zNo 1282 [zR 4000, zR 0, zR 73, zR 121, zI i, .null, .null] [zI k] (ZZ t1 dr1 tx1) w1
  refine zB_istore (lo1 := [zR 4000, zR 0, zR 73, zR 121, zI i, zI k, .null]) dL_law_1282 (by decide) rfl rfl ?_
  refine zB_aload_n dL_law_1284 rfl ?_
  refine zB_rd dL_law_1285 dL_law_1286 dL_law_1288 dL_law_1289 dL_law_1290 rfl rfl (by omega) (by omega) hL0 ?_
  refine zB_cV (st := []) dL_law_1291 vX12_next kL_194 hsp (by omega) c73 rfl rfl (Nat.le_of_ble_eq_true rfl) rfl (fun v2 S2 w3 hq2 => ?_)
  obtain ⟨z, rfl, hzr, h73, h121, t2, dr2, tx2, rfl, hsim⟩ := hk v2 S2 w3 hq2
  show zB L xs l mL_law false 16 bc bs QL zNo 1294 [zR 4000, zR 0, zR 73, zR 121, zI i, zI k, .null] [zI z] (ZZ t2 dr2 tx2) w3
  refine zB_istore (lo1 := [zR 4000, zR 0, zR 73, zR 121, zI i, zI k, zI z]) dL_law_1294 (by decide) rfl rfl ?_
  refine zB_aload_n dL_law_1296 rfl ?_
  refine zB_cV (st := []) dL_law_1297 vX12_thrown kL_136 (m_thrown (w := w3)) (by decide) c73 rfl rfl (Nat.le_of_ble_eq_true rfl) rfl (fun v4 S4 w4 hq4 => ?_)
  obtain ⟨rfl, rfl, rfl⟩ := hq4
  show zB L xs l mL_law false 16 bc bs QL zNo 1300 [zR 4000, zR 0, zR 73, zR 121, zI i, zI k, zI z] [zI (w4 73 1)] (ZZ t2 dr2 tx2) w4
  rw [h73]
  refine zB_iload dL_law_1300 rfl ?_
  refine zB_icmp_eq (tgt := 1307) dL_law_1302 (by decide) hkr hkr (fun _ => ?_) (fun q => absurd rfl q)
  refine zB_iload dL_law_1307 rfl ?_
  refine zB_if_ne (tgt := 1324) dL_law_1309 (by decide) hkr (fun _ => ?_) (fun q => ?_)
  · refine zB_goto (tgt := 3195) dL_law_1324 (by decide) ?_
    refine zB_drop (lo1 := [zR 4000, zR 0, zR 73, zR 121, zI i, .null, zI z]) 5 rfl ?_
    refine zB_drop (lo1 := [zR 4000, zR 0, zR 73, zR 121, zI i, .null, .null]) 6 rfl ?_
    exact kk t2 dr2 tx2 w4 hsim
  · have h21 := h121 q
    rw [if_neg (by decide)] at h21
    refine zB_aload_n dL_law_1312 rfl ?_
    refine zB_iconst dL_law_1313 ?_
    refine zB_laload dL_law_1314 c121 (by decide) (by decide) (by decide) ?_
    refine zB_iload dL_law_1315 rfl ?_
    rw [h21]
    have hzl : -9223372036854775808 ≤ z ∧ z < 9223372036854775808 := by have h1 := hzr.1; have h2 := hzr.2; omega
    refine zB_i2l dL_law_1317 hzr ?_
    refine zB_lcmp dL_law_1318 hzl hzl ?_
    refine zB_valI 0 (by simp) ?_
    refine zB_if_eq (tgt := 1324) dL_law_1319 (by decide) ⟨by decide, by decide⟩ (fun _ => ?_) (fun q => absurd rfl q)
    refine zB_goto (tgt := 3195) dL_law_1324 (by decide) ?_
    refine zB_drop (lo1 := [zR 4000, zR 0, zR 73, zR 121, zI i, .null, zI z]) 5 rfl ?_
    refine zB_drop (lo1 := [zR 4000, zR 0, zR 73, zR 121, zI i, .null, .null]) 6 rfl ?_
    exact kk t2 dr2 tx2 w4 hsim
set_option maxRecDepth 100000 in
set_option maxHeartbeats 4000000 in
theorem L_18 {L : Nat} {xs : Nat → Int32} {l : Launch} {n t dr tx bc bs : Nat} {w : zW} {i : Int} (hL0 : L < 2147483648) (h : zSim n t dr tx w) (hn : n ≤ 600) (i0 : 0 ≤ i) (i6 : i + 6 ≤ (L : Int)) (kk : ∀ (t2 dr2 tx2 : Nat) (w3 : zW), zSim (n + 1) t2 dr2 tx2 w3 → zB L xs l mL_law false 16 bc bs QL zNo 3195 [zR 4000, zR 0, zR 73, zR 121, zI i, .null, .null] [] (ZZ t2 dr2 tx2) w3) : zB L xs l mL_law false 16 (bc + 3) (bs + 18) QL zNo 1327 [zR 4000, zR 0, zR 73, zR 121, zI i, .null, .null] [] (ZZ t dr tx) w := by
  have hp : zPr l n mX11_stands mX12_stands 0 1 false [zI (sc xs (i + 1)), zI (sc xs (i + 2)), zI (sc xs (i + 3))] t dr tx w := P_stands h (inR_t _) (inR_t _) (inR_t _)
  refine zB_aload_n dL_law_1327 rfl ?_
  refine zB_rd dL_law_1328 dL_law_1329 dL_law_1331 dL_law_1332 dL_law_1333 rfl rfl (by omega) (by omega) hL0 ?_
  refine zB_rd dL_law_1334 dL_law_1335 dL_law_1337 dL_law_1338 dL_law_1339 rfl rfl (by omega) (by omega) hL0 ?_
  refine zB_rd dL_law_1340 dL_law_1341 dL_law_1343 dL_law_1344 dL_law_1345 rfl rfl (by omega) (by omega) hL0 ?_
  refine zB_aload_n dL_law_1346 rfl ?_
  refine zB_callS (bc2 := bc) (bs2 := bs) (st := []) dL_law_1347 sL_stands kL_195 (w_stands hp) (by decide) rfl rfl (Nat.le_of_ble_eq_true rfl) ⟨Nat.add_comm _ _, Nat.add_comm _ _⟩ (fun v S1 w1 hq => ?_) (fun E S1 w1 hx => hx.elim)
  obtain ⟨k, rfl, ⟨hk0, hk2⟩, ⟨t1, dr1, tx1, rfl⟩, d2, Q2, hd2, hsp, hk⟩ := hq
  have hkr : inR k := inR_mk (by omega) (by omega)
  show zB L xs l mL_law false 16 bc bs QL zNo 1350 [zR 4000, zR 0, zR 73, zR 121, zI i, .null, .null] [zI k] (ZZ t1 dr1 tx1) w1
  refine zB_istore (lo1 := [zR 4000, zR 0, zR 73, zR 121, zI i, zI k, .null]) dL_law_1350 (by decide) rfl rfl ?_
  refine zB_aload_n dL_law_1352 rfl ?_
  refine zB_rd dL_law_1353 dL_law_1354 dL_law_1356 dL_law_1357 dL_law_1358 rfl rfl (by omega) (by omega) hL0 ?_
  refine zB_rd dL_law_1359 dL_law_1360 dL_law_1362 dL_law_1363 dL_law_1364 rfl rfl (by omega) (by omega) hL0 ?_
  refine zB_rd dL_law_1365 dL_law_1366 dL_law_1368 dL_law_1369 dL_law_1370 rfl rfl (by omega) (by omega) hL0 ?_
  refine zB_cV (st := []) dL_law_1371 vX12_stands kL_197 hsp (by omega) c73 rfl rfl (Nat.le_of_ble_eq_true rfl) rfl (fun v2 S2 w3 hq2 => ?_)
  obtain ⟨z, rfl, hzr, h73, h121, t2, dr2, tx2, rfl, hsim⟩ := hk v2 S2 w3 hq2
  show zB L xs l mL_law false 16 bc bs QL zNo 1374 [zR 4000, zR 0, zR 73, zR 121, zI i, zI k, .null] [zI z] (ZZ t2 dr2 tx2) w3
  refine zB_istore (lo1 := [zR 4000, zR 0, zR 73, zR 121, zI i, zI k, zI z]) dL_law_1374 (by decide) rfl rfl ?_
  refine zB_aload_n dL_law_1376 rfl ?_
  refine zB_cV (st := []) dL_law_1377 vX12_thrown kL_136 (m_thrown (w := w3)) (by decide) c73 rfl rfl (Nat.le_of_ble_eq_true rfl) rfl (fun v4 S4 w4 hq4 => ?_)
  obtain ⟨rfl, rfl, rfl⟩ := hq4
  show zB L xs l mL_law false 16 bc bs QL zNo 1380 [zR 4000, zR 0, zR 73, zR 121, zI i, zI k, zI z] [zI (w4 73 1)] (ZZ t2 dr2 tx2) w4
  rw [h73]
  refine zB_iload dL_law_1380 rfl ?_
  refine zB_icmp_eq (tgt := 1387) dL_law_1382 (by decide) hkr hkr (fun _ => ?_) (fun q => absurd rfl q)
  refine zB_iload dL_law_1387 rfl ?_
  refine zB_if_ne (tgt := 1411) dL_law_1389 (by decide) hkr (fun _ => ?_) (fun q => ?_)
  · refine zB_goto (tgt := 3195) dL_law_1411 (by decide) ?_
    refine zB_drop (lo1 := [zR 4000, zR 0, zR 73, zR 121, zI i, .null, zI z]) 5 rfl ?_
    refine zB_drop (lo1 := [zR 4000, zR 0, zR 73, zR 121, zI i, .null, .null]) 6 rfl ?_
    exact kk t2 dr2 tx2 w4 hsim
  · have h21 := h121 q
    rw [if_pos rfl] at h21
    refine zB_aload_n dL_law_1392 rfl ?_
    refine zB_iconst dL_law_1393 ?_
    refine zB_laload dL_law_1394 c121 (by decide) (by decide) (by decide) ?_
    refine zB_iload dL_law_1395 rfl ?_
    rw [h21]
    refine zB_if_eq (tgt := 1404) dL_law_1397 (by decide) hzr (fun hz0 => ?_) (fun hz0 => ?_)
    · rw [if_pos hz0]
      refine zB_lconst dL_law_1404 ?_
      refine zB_lcmp dL_law_1405 ⟨by decide, by decide⟩ ⟨by decide, by decide⟩ ?_
      refine zB_valI 0 (by simp) ?_
      refine zB_if_eq (tgt := 1411) dL_law_1406 (by decide) ⟨by decide, by decide⟩ (fun _ => ?_) (fun q => absurd rfl q)
      refine zB_goto (tgt := 3195) dL_law_1411 (by decide) ?_
      refine zB_drop (lo1 := [zR 4000, zR 0, zR 73, zR 121, zI i, .null, zI z]) 5 rfl ?_
      refine zB_drop (lo1 := [zR 4000, zR 0, zR 73, zR 121, zI i, .null, .null]) 6 rfl ?_
      exact kk t2 dr2 tx2 w4 hsim
    · rw [if_neg hz0]
      refine zB_lconst dL_law_1400 ?_
      refine zB_goto (tgt := 1405) dL_law_1401 (by decide) ?_
      refine zB_lcmp dL_law_1405 ⟨by decide, by decide⟩ ⟨by decide, by decide⟩ ?_
      refine zB_valI 0 (by simp) ?_
      refine zB_if_eq (tgt := 1411) dL_law_1406 (by decide) ⟨by decide, by decide⟩ (fun _ => ?_) (fun q => absurd rfl q)
      refine zB_goto (tgt := 3195) dL_law_1411 (by decide) ?_
      refine zB_drop (lo1 := [zR 4000, zR 0, zR 73, zR 121, zI i, .null, zI z]) 5 rfl ?_
      refine zB_drop (lo1 := [zR 4000, zR 0, zR 73, zR 121, zI i, .null, .null]) 6 rfl ?_
      exact kk t2 dr2 tx2 w4 hsim
set_option maxRecDepth 100000 in
set_option maxHeartbeats 4000000 in
theorem L_19 {L : Nat} {xs : Nat → Int32} {l : Launch} {n t dr tx bc bs : Nat} {w : zW} {i : Int} (hL0 : L < 2147483648) (h : zSim n t dr tx w) (hn : n ≤ 600) (i0 : 0 ≤ i) (i6 : i + 6 ≤ (L : Int)) (kk : ∀ (t2 dr2 tx2 : Nat) (w3 : zW), zSim (n + 1) t2 dr2 tx2 w3 → zB L xs l mL_law false 16 bc bs QL zNo 3195 [zR 4000, zR 0, zR 73, zR 121, zI i, .null, .null] [] (ZZ t2 dr2 tx2) w3) : zB L xs l mL_law false 16 (bc + 3) (bs + 18) QL zNo 1414 [zR 4000, zR 0, zR 73, zR 121, zI i, .null, .null] [] (ZZ t dr tx) w := by
  have hp : zPr l n mX11_cut mX12_cut 0 1 false [zI (sc xs (i + 1)), zI (sc xs (i + 2)), zI (sc xs (i + 3)), zI (sc xs (i + 4))] t dr tx w := P_cut h (inR_t _) (inR_t _) (inR_t _) (inR_t _)
  refine zB_aload_n dL_law_1414 rfl ?_
  refine zB_rd dL_law_1415 dL_law_1416 dL_law_1418 dL_law_1419 dL_law_1420 rfl rfl (by omega) (by omega) hL0 ?_
  refine zB_rd dL_law_1421 dL_law_1422 dL_law_1424 dL_law_1425 dL_law_1426 rfl rfl (by omega) (by omega) hL0 ?_
  refine zB_rd dL_law_1427 dL_law_1428 dL_law_1430 dL_law_1431 dL_law_1432 rfl rfl (by omega) (by omega) hL0 ?_
  refine zB_rd dL_law_1433 dL_law_1434 dL_law_1436 dL_law_1437 dL_law_1438 rfl rfl (by omega) (by omega) hL0 ?_
  refine zB_aload_n dL_law_1439 rfl ?_
  refine zB_callS (bc2 := bc) (bs2 := bs) (st := []) dL_law_1440 sL_cut kL_198 (w_cut hp) (by decide) rfl rfl (Nat.le_of_ble_eq_true rfl) ⟨Nat.add_comm _ _, Nat.add_comm _ _⟩ (fun v S1 w1 hq => ?_) (fun E S1 w1 hx => hx.elim)
  obtain ⟨k, rfl, ⟨hk0, hk2⟩, ⟨t1, dr1, tx1, rfl⟩, d2, Q2, hd2, hsp, hk⟩ := hq
  have hkr : inR k := inR_mk (by omega) (by omega)
  show zB L xs l mL_law false 16 bc bs QL zNo 1443 [zR 4000, zR 0, zR 73, zR 121, zI i, .null, .null] [zI k] (ZZ t1 dr1 tx1) w1
  refine zB_istore (lo1 := [zR 4000, zR 0, zR 73, zR 121, zI i, zI k, .null]) dL_law_1443 (by decide) rfl rfl ?_
  refine zB_aload_n dL_law_1445 rfl ?_
  refine zB_rd dL_law_1446 dL_law_1447 dL_law_1449 dL_law_1450 dL_law_1451 rfl rfl (by omega) (by omega) hL0 ?_
  refine zB_rd dL_law_1452 dL_law_1453 dL_law_1455 dL_law_1456 dL_law_1457 rfl rfl (by omega) (by omega) hL0 ?_
  refine zB_rd dL_law_1458 dL_law_1459 dL_law_1461 dL_law_1462 dL_law_1463 rfl rfl (by omega) (by omega) hL0 ?_
  refine zB_rd dL_law_1464 dL_law_1465 dL_law_1467 dL_law_1468 dL_law_1469 rfl rfl (by omega) (by omega) hL0 ?_
  refine zB_cV (st := []) dL_law_1470 vX12_cut kL_201 hsp (by omega) c73 rfl rfl (Nat.le_of_ble_eq_true rfl) rfl (fun v2 S2 w3 hq2 => ?_)
  obtain ⟨z, rfl, hzr, h73, h121, t2, dr2, tx2, rfl, hsim⟩ := hk v2 S2 w3 hq2
  show zB L xs l mL_law false 16 bc bs QL zNo 1473 [zR 4000, zR 0, zR 73, zR 121, zI i, zI k, .null] [zI z] (ZZ t2 dr2 tx2) w3
  refine zB_istore (lo1 := [zR 4000, zR 0, zR 73, zR 121, zI i, zI k, zI z]) dL_law_1473 (by decide) rfl rfl ?_
  refine zB_aload_n dL_law_1475 rfl ?_
  refine zB_cV (st := []) dL_law_1476 vX12_thrown kL_136 (m_thrown (w := w3)) (by decide) c73 rfl rfl (Nat.le_of_ble_eq_true rfl) rfl (fun v4 S4 w4 hq4 => ?_)
  obtain ⟨rfl, rfl, rfl⟩ := hq4
  show zB L xs l mL_law false 16 bc bs QL zNo 1479 [zR 4000, zR 0, zR 73, zR 121, zI i, zI k, zI z] [zI (w4 73 1)] (ZZ t2 dr2 tx2) w4
  rw [h73]
  refine zB_iload dL_law_1479 rfl ?_
  refine zB_icmp_eq (tgt := 1486) dL_law_1481 (by decide) hkr hkr (fun _ => ?_) (fun q => absurd rfl q)
  refine zB_iload dL_law_1486 rfl ?_
  refine zB_if_ne (tgt := 1503) dL_law_1488 (by decide) hkr (fun _ => ?_) (fun q => ?_)
  · refine zB_goto (tgt := 3195) dL_law_1503 (by decide) ?_
    refine zB_drop (lo1 := [zR 4000, zR 0, zR 73, zR 121, zI i, .null, zI z]) 5 rfl ?_
    refine zB_drop (lo1 := [zR 4000, zR 0, zR 73, zR 121, zI i, .null, .null]) 6 rfl ?_
    exact kk t2 dr2 tx2 w4 hsim
  · have h21 := h121 q
    rw [if_neg (by decide)] at h21
    refine zB_aload_n dL_law_1491 rfl ?_
    refine zB_iconst dL_law_1492 ?_
    refine zB_laload dL_law_1493 c121 (by decide) (by decide) (by decide) ?_
    refine zB_iload dL_law_1494 rfl ?_
    rw [h21]
    have hzl : -9223372036854775808 ≤ z ∧ z < 9223372036854775808 := by have h1 := hzr.1; have h2 := hzr.2; omega
    refine zB_i2l dL_law_1496 hzr ?_
    refine zB_lcmp dL_law_1497 hzl hzl ?_
    refine zB_valI 0 (by simp) ?_
    refine zB_if_eq (tgt := 1503) dL_law_1498 (by decide) ⟨by decide, by decide⟩ (fun _ => ?_) (fun q => absurd rfl q)
    refine zB_goto (tgt := 3195) dL_law_1503 (by decide) ?_
    refine zB_drop (lo1 := [zR 4000, zR 0, zR 73, zR 121, zI i, .null, zI z]) 5 rfl ?_
    refine zB_drop (lo1 := [zR 4000, zR 0, zR 73, zR 121, zI i, .null, .null]) 6 rfl ?_
    exact kk t2 dr2 tx2 w4 hsim
set_option maxRecDepth 100000 in
set_option maxHeartbeats 4000000 in
theorem L_20 {L : Nat} {xs : Nat → Int32} {l : Launch} {n t dr tx bc bs : Nat} {w : zW} {i : Int} (hL0 : L < 2147483648) (h : zSim n t dr tx w) (hn : n ≤ 600) (i0 : 0 ≤ i) (i6 : i + 6 ≤ (L : Int)) (kk : ∀ (t2 dr2 tx2 : Nat) (w3 : zW), zSim (n + 1) t2 dr2 tx2 w3 → zB L xs l mL_law false 16 bc bs QL zNo 3195 [zR 4000, zR 0, zR 73, zR 121, zI i, .null, .null] [] (ZZ t2 dr2 tx2) w3) : zB L xs l mL_law false 16 (bc + 3) (bs + 18) QL zNo 1506 [zR 4000, zR 0, zR 73, zR 121, zI i, .null, .null] [] (ZZ t dr tx) w := by
  have hp : zPr l n mX11_fell mX12_fell 0 1 false [zI (sc xs (i + 1)), zI (sc xs (i + 2)), zI (sc xs (i + 3)), zI (sc xs (i + 4))] t dr tx w := P_fell h (inR_t _) (inR_t _) (inR_t _) (inR_t _)
  refine zB_aload_n dL_law_1506 rfl ?_
  refine zB_rd dL_law_1507 dL_law_1508 dL_law_1510 dL_law_1511 dL_law_1512 rfl rfl (by omega) (by omega) hL0 ?_
  refine zB_rd dL_law_1513 dL_law_1514 dL_law_1516 dL_law_1517 dL_law_1518 rfl rfl (by omega) (by omega) hL0 ?_
  refine zB_rd dL_law_1519 dL_law_1520 dL_law_1522 dL_law_1523 dL_law_1524 rfl rfl (by omega) (by omega) hL0 ?_
  refine zB_rd dL_law_1525 dL_law_1526 dL_law_1528 dL_law_1529 dL_law_1530 rfl rfl (by omega) (by omega) hL0 ?_
  refine zB_aload_n dL_law_1531 rfl ?_
  refine zB_callS (bc2 := bc) (bs2 := bs) (st := []) dL_law_1532 sL_fell kL_202 (w_fell hp) (by decide) rfl rfl (Nat.le_of_ble_eq_true rfl) ⟨Nat.add_comm _ _, Nat.add_comm _ _⟩ (fun v S1 w1 hq => ?_) (fun E S1 w1 hx => hx.elim)
  obtain ⟨k, rfl, ⟨hk0, hk2⟩, ⟨t1, dr1, tx1, rfl⟩, d2, Q2, hd2, hsp, hk⟩ := hq
  have hkr : inR k := inR_mk (by omega) (by omega)
  show zB L xs l mL_law false 16 bc bs QL zNo 1535 [zR 4000, zR 0, zR 73, zR 121, zI i, .null, .null] [zI k] (ZZ t1 dr1 tx1) w1
  refine zB_istore (lo1 := [zR 4000, zR 0, zR 73, zR 121, zI i, zI k, .null]) dL_law_1535 (by decide) rfl rfl ?_
  refine zB_aload_n dL_law_1537 rfl ?_
  refine zB_rd dL_law_1538 dL_law_1539 dL_law_1541 dL_law_1542 dL_law_1543 rfl rfl (by omega) (by omega) hL0 ?_
  refine zB_rd dL_law_1544 dL_law_1545 dL_law_1547 dL_law_1548 dL_law_1549 rfl rfl (by omega) (by omega) hL0 ?_
  refine zB_rd dL_law_1550 dL_law_1551 dL_law_1553 dL_law_1554 dL_law_1555 rfl rfl (by omega) (by omega) hL0 ?_
  refine zB_rd dL_law_1556 dL_law_1557 dL_law_1559 dL_law_1560 dL_law_1561 rfl rfl (by omega) (by omega) hL0 ?_
  refine zB_cV (st := []) dL_law_1562 vX12_fell kL_204 hsp (by omega) c73 rfl rfl (Nat.le_of_ble_eq_true rfl) rfl (fun v2 S2 w3 hq2 => ?_)
  obtain ⟨z, rfl, hzr, h73, h121, t2, dr2, tx2, rfl, hsim⟩ := hk v2 S2 w3 hq2
  show zB L xs l mL_law false 16 bc bs QL zNo 1565 [zR 4000, zR 0, zR 73, zR 121, zI i, zI k, .null] [zI z] (ZZ t2 dr2 tx2) w3
  refine zB_istore (lo1 := [zR 4000, zR 0, zR 73, zR 121, zI i, zI k, zI z]) dL_law_1565 (by decide) rfl rfl ?_
  refine zB_aload_n dL_law_1567 rfl ?_
  refine zB_cV (st := []) dL_law_1568 vX12_thrown kL_136 (m_thrown (w := w3)) (by decide) c73 rfl rfl (Nat.le_of_ble_eq_true rfl) rfl (fun v4 S4 w4 hq4 => ?_)
  obtain ⟨rfl, rfl, rfl⟩ := hq4
  show zB L xs l mL_law false 16 bc bs QL zNo 1571 [zR 4000, zR 0, zR 73, zR 121, zI i, zI k, zI z] [zI (w4 73 1)] (ZZ t2 dr2 tx2) w4
  rw [h73]
  refine zB_iload dL_law_1571 rfl ?_
  refine zB_icmp_eq (tgt := 1578) dL_law_1573 (by decide) hkr hkr (fun _ => ?_) (fun q => absurd rfl q)
  refine zB_iload dL_law_1578 rfl ?_
  refine zB_if_ne (tgt := 1595) dL_law_1580 (by decide) hkr (fun _ => ?_) (fun q => ?_)
  · refine zB_goto (tgt := 3195) dL_law_1595 (by decide) ?_
    refine zB_drop (lo1 := [zR 4000, zR 0, zR 73, zR 121, zI i, .null, zI z]) 5 rfl ?_
    refine zB_drop (lo1 := [zR 4000, zR 0, zR 73, zR 121, zI i, .null, .null]) 6 rfl ?_
    exact kk t2 dr2 tx2 w4 hsim
  · have h21 := h121 q
    rw [if_neg (by decide)] at h21
    refine zB_aload_n dL_law_1583 rfl ?_
    refine zB_iconst dL_law_1584 ?_
    refine zB_laload dL_law_1585 c121 (by decide) (by decide) (by decide) ?_
    refine zB_iload dL_law_1586 rfl ?_
    rw [h21]
    have hzl : -9223372036854775808 ≤ z ∧ z < 9223372036854775808 := by have h1 := hzr.1; have h2 := hzr.2; omega
    refine zB_i2l dL_law_1588 hzr ?_
    refine zB_lcmp dL_law_1589 hzl hzl ?_
    refine zB_valI 0 (by simp) ?_
    refine zB_if_eq (tgt := 1595) dL_law_1590 (by decide) ⟨by decide, by decide⟩ (fun _ => ?_) (fun q => absurd rfl q)
    refine zB_goto (tgt := 3195) dL_law_1595 (by decide) ?_
    refine zB_drop (lo1 := [zR 4000, zR 0, zR 73, zR 121, zI i, .null, zI z]) 5 rfl ?_
    refine zB_drop (lo1 := [zR 4000, zR 0, zR 73, zR 121, zI i, .null, .null]) 6 rfl ?_
    exact kk t2 dr2 tx2 w4 hsim
set_option maxRecDepth 100000 in
set_option maxHeartbeats 4000000 in
theorem L_21 {L : Nat} {xs : Nat → Int32} {l : Launch} {n t dr tx bc bs : Nat} {w : zW} {i : Int} (hL0 : L < 2147483648) (h : zSim n t dr tx w) (hn : n ≤ 600) (i0 : 0 ≤ i) (i6 : i + 6 ≤ (L : Int)) (kk : ∀ (t2 dr2 tx2 : Nat) (w3 : zW), zSim (n + 1) t2 dr2 tx2 w3 → zB L xs l mL_law false 16 bc bs QL zNo 3195 [zR 4000, zR 0, zR 73, zR 121, zI i, .null, .null] [] (ZZ t2 dr2 tx2) w3) : zB L xs l mL_law false 16 (bc + 3) (bs + 18) QL zNo 1598 [zR 4000, zR 0, zR 73, zR 121, zI i, .null, .null] [] (ZZ t dr tx) w := by
  obtain ⟨d, bc', bs', Q, X, ⟨hd, hbc, hbs⟩, hs, hret, hthr⟩ : zPr l n mX11_rope mX12_rope 0 0 false [zI (sc xs (i + 1))] t dr tx w := P_rope h (inR_t _)
  refine zB_aload_n dL_law_1598 rfl ?_
  refine zB_rd dL_law_1599 dL_law_1600 dL_law_1602 dL_law_1603 dL_law_1604 rfl rfl (by omega) (by omega) hL0 ?_
  refine zB_callV (bc2 := bc + 3 - bc') (bs2 := bs + 18 - bs') (st := []) dL_law_1605 vX11_rope kL_205 hs (by omega) rfl rfl (Nat.le_of_ble_eq_true rfl) c0 rfl ⟨by omega, by omega⟩ (fun v S1 w1 hq => ?_) (fun E S1 w1 hx => ?_)
  · obtain ⟨⟨t1, dr1, tx1, rfl⟩, hv, d2, Q2, hd2, hsp, hk⟩ := hret v S1 w1 hq w1 (fun _ _ _ => rfl)
    obtain ⟨z0, rfl⟩ : ∃ z, v = some (zI z) := hv
    obtain ⟨z, hz, hzr⟩ := zI_in z0
    show zB L xs l mL_law false 16 (bc + 3 - bc') (bs + 18 - bs') QL zNo 1608 [zR 4000, zR 0, zR 73, zR 121, zI i, .null, .null] [zI z0] (ZZ t1 dr1 tx1) w1
    rw [hz]
    refine zB_aload_n dL_law_1608 rfl ?_
    refine zB_rd dL_law_1609 dL_law_1610 dL_law_1612 dL_law_1613 dL_law_1614 rfl rfl (by omega) (by omega) hL0 ?_
    refine zB_cV (st := [zI z]) dL_law_1615 vX12_rope kL_208 hsp (by omega) c73 rfl rfl (Nat.le_of_ble_eq_true rfl) rfl (fun v2 S2 w3 hq2 => ?_)
    obtain ⟨rfl, h1, h2, t2, dr2, tx2, rfl, hsim⟩ := hk v2 S2 w3 hq2
    show zB L xs l mL_law false 16 (bc + 3 - bc') (bs + 18 - bs') QL zNo 1618 [zR 4000, zR 0, zR 73, zR 121, zI i, .null, .null] [zI z0, zI z] (ZZ t2 dr2 tx2) w3
    rw [hz]
    refine zB_icmp_eq (tgt := 3195) dL_law_1618 (by decide) hzr hzr (fun _ => ?_) (fun q => absurd rfl q)
    exact zB_wk (by omega) (by omega) (kk t2 dr2 tx2 w3 hsim)
  · obtain ⟨k, ⟨-, -, h0⟩ | ⟨-, -, h0⟩, -⟩ := hthr E S1 w1 hx
    · exact absurd rfl h0
    · exact absurd rfl h0
set_option maxRecDepth 100000 in
set_option maxHeartbeats 4000000 in
theorem L_22 {L : Nat} {xs : Nat → Int32} {l : Launch} {n t dr tx bc bs : Nat} {w : zW} {i : Int} (hL0 : L < 2147483648) (h : zSim n t dr tx w) (hn : n ≤ 600) (i0 : 0 ≤ i) (i6 : i + 6 ≤ (L : Int)) (kk : ∀ (t2 dr2 tx2 : Nat) (w3 : zW), zSim (n + 1) t2 dr2 tx2 w3 → zB L xs l mL_law false 16 bc bs QL zNo 3195 [zR 4000, zR 0, zR 73, zR 121, zI i, .null, .null] [] (ZZ t2 dr2 tx2) w3) : zB L xs l mL_law false 16 (bc + 3) (bs + 18) QL zNo 1623 [zR 4000, zR 0, zR 73, zR 121, zI i, .null, .null] [] (ZZ t dr tx) w := by
  have hp : zPr l n mX11_life mX12_life 1 0 false [zI (sc xs (i + 1))] t dr tx w := P_life h (inR_t _)
  refine zB_aload_n dL_law_1623 rfl ?_
  refine zB_rd dL_law_1624 dL_law_1625 dL_law_1627 dL_law_1628 dL_law_1629 rfl rfl (by omega) (by omega) hL0 ?_
  refine zB_aload_n dL_law_1630 rfl ?_
  refine zB_callS (bc2 := bc) (bs2 := bs) (st := []) dL_law_1631 sL_life kL_209 (w_life hp) (by decide) rfl rfl (Nat.le_of_ble_eq_true rfl) ⟨Nat.add_comm _ _, Nat.add_comm _ _⟩ (fun v S1 w1 hq => ?_) (fun E S1 w1 hx => hx.elim)
  obtain ⟨k, rfl, ⟨hk0, hk2⟩, ⟨t1, dr1, tx1, rfl⟩, d2, Q2, hd2, hsp, hk⟩ := hq
  have hkr : inR k := inR_mk (by omega) (by omega)
  show zB L xs l mL_law false 16 bc bs QL zNo 1634 [zR 4000, zR 0, zR 73, zR 121, zI i, .null, .null] [zI k] (ZZ t1 dr1 tx1) w1
  refine zB_istore (lo1 := [zR 4000, zR 0, zR 73, zR 121, zI i, zI k, .null]) dL_law_1634 (by decide) rfl rfl ?_
  refine zB_aload_n dL_law_1636 rfl ?_
  refine zB_rd dL_law_1637 dL_law_1638 dL_law_1640 dL_law_1641 dL_law_1642 rfl rfl (by omega) (by omega) hL0 ?_
  refine zB_cV (st := []) dL_law_1643 vX12_life kL_211 hsp (by omega) c73 rfl rfl (Nat.le_of_ble_eq_true rfl) rfl (fun v2 S2 w3 hq2 => ?_)
  obtain ⟨z, rfl, hzr, h73, h121, t2, dr2, tx2, rfl, hsim⟩ := hk v2 S2 w3 hq2
  show zB L xs l mL_law false 16 bc bs QL zNo 1646 [zR 4000, zR 0, zR 73, zR 121, zI i, zI k, .null] [zI z] (ZZ t2 dr2 tx2) w3
  refine zB_istore (lo1 := [zR 4000, zR 0, zR 73, zR 121, zI i, zI k, zI z]) dL_law_1646 (by decide) rfl rfl ?_
  refine zB_aload_n dL_law_1648 rfl ?_
  refine zB_cV (st := []) dL_law_1649 vX12_thrown kL_136 (m_thrown (w := w3)) (by decide) c73 rfl rfl (Nat.le_of_ble_eq_true rfl) rfl (fun v4 S4 w4 hq4 => ?_)
  obtain ⟨rfl, rfl, rfl⟩ := hq4
  show zB L xs l mL_law false 16 bc bs QL zNo 1652 [zR 4000, zR 0, zR 73, zR 121, zI i, zI k, zI z] [zI (w4 73 1)] (ZZ t2 dr2 tx2) w4
  rw [h73]
  refine zB_iload dL_law_1652 rfl ?_
  refine zB_icmp_eq (tgt := 1659) dL_law_1654 (by decide) hkr hkr (fun _ => ?_) (fun q => absurd rfl q)
  refine zB_iload dL_law_1659 rfl ?_
  refine zB_if_ne (tgt := 1676) dL_law_1661 (by decide) hkr (fun _ => ?_) (fun q => ?_)
  · refine zB_goto (tgt := 3195) dL_law_1676 (by decide) ?_
    refine zB_drop (lo1 := [zR 4000, zR 0, zR 73, zR 121, zI i, .null, zI z]) 5 rfl ?_
    refine zB_drop (lo1 := [zR 4000, zR 0, zR 73, zR 121, zI i, .null, .null]) 6 rfl ?_
    exact kk t2 dr2 tx2 w4 hsim
  · have h21 := h121 q
    rw [if_neg (by decide)] at h21
    refine zB_aload_n dL_law_1664 rfl ?_
    refine zB_iconst dL_law_1665 ?_
    refine zB_laload dL_law_1666 c121 (by decide) (by decide) (by decide) ?_
    refine zB_iload dL_law_1667 rfl ?_
    rw [h21]
    have hzl : -9223372036854775808 ≤ z ∧ z < 9223372036854775808 := by have h1 := hzr.1; have h2 := hzr.2; omega
    refine zB_i2l dL_law_1669 hzr ?_
    refine zB_lcmp dL_law_1670 hzl hzl ?_
    refine zB_valI 0 (by simp) ?_
    refine zB_if_eq (tgt := 1676) dL_law_1671 (by decide) ⟨by decide, by decide⟩ (fun _ => ?_) (fun q => absurd rfl q)
    refine zB_goto (tgt := 3195) dL_law_1676 (by decide) ?_
    refine zB_drop (lo1 := [zR 4000, zR 0, zR 73, zR 121, zI i, .null, zI z]) 5 rfl ?_
    refine zB_drop (lo1 := [zR 4000, zR 0, zR 73, zR 121, zI i, .null, .null]) 6 rfl ?_
    exact kk t2 dr2 tx2 w4 hsim
set_option maxRecDepth 100000 in
set_option maxHeartbeats 4000000 in
theorem L_23 {L : Nat} {xs : Nat → Int32} {l : Launch} {n t dr tx bc bs : Nat} {w : zW} {i : Int} (hL0 : L < 2147483648) (h : zSim n t dr tx w) (hn : n ≤ 600) (i0 : 0 ≤ i) (i6 : i + 6 ≤ (L : Int)) (kk : ∀ (t2 dr2 tx2 : Nat) (w3 : zW), zSim (n + 1) t2 dr2 tx2 w3 → zB L xs l mL_law false 16 bc bs QL zNo 3195 [zR 4000, zR 0, zR 73, zR 121, zI i, .null, .null] [] (ZZ t2 dr2 tx2) w3) : zB L xs l mL_law false 16 (bc + 3) (bs + 18) QL zNo 1679 [zR 4000, zR 0, zR 73, zR 121, zI i, .null, .null] [] (ZZ t dr tx) w := by
  obtain ⟨d, bc', bs', Q, X, ⟨hd, hbc, hbs⟩, hs, hret, hthr⟩ : zPr l n mX11_need mX12_need 0 0 false [zI (sc xs (i + 1))] t dr tx w := P_need h (inR_t _)
  refine zB_aload_n dL_law_1679 rfl ?_
  refine zB_rd dL_law_1680 dL_law_1681 dL_law_1683 dL_law_1684 dL_law_1685 rfl rfl (by omega) (by omega) hL0 ?_
  refine zB_callV (bc2 := bc + 3 - bc') (bs2 := bs + 18 - bs') (st := []) dL_law_1686 vX11_need kL_212 hs (by omega) rfl rfl (Nat.le_of_ble_eq_true rfl) c0 rfl ⟨by omega, by omega⟩ (fun v S1 w1 hq => ?_) (fun E S1 w1 hx => ?_)
  · obtain ⟨⟨t1, dr1, tx1, rfl⟩, hv, d2, Q2, hd2, hsp, hk⟩ := hret v S1 w1 hq w1 (fun _ _ _ => rfl)
    obtain ⟨z0, rfl⟩ : ∃ z, v = some (zI z) := hv
    obtain ⟨z, hz, hzr⟩ := zI_in z0
    show zB L xs l mL_law false 16 (bc + 3 - bc') (bs + 18 - bs') QL zNo 1689 [zR 4000, zR 0, zR 73, zR 121, zI i, .null, .null] [zI z0] (ZZ t1 dr1 tx1) w1
    rw [hz]
    refine zB_aload_n dL_law_1689 rfl ?_
    refine zB_rd dL_law_1690 dL_law_1691 dL_law_1693 dL_law_1694 dL_law_1695 rfl rfl (by omega) (by omega) hL0 ?_
    refine zB_cV (st := [zI z]) dL_law_1696 vX12_need kL_215 hsp (by omega) c73 rfl rfl (Nat.le_of_ble_eq_true rfl) rfl (fun v2 S2 w3 hq2 => ?_)
    obtain ⟨rfl, h1, h2, t2, dr2, tx2, rfl, hsim⟩ := hk v2 S2 w3 hq2
    show zB L xs l mL_law false 16 (bc + 3 - bc') (bs + 18 - bs') QL zNo 1699 [zR 4000, zR 0, zR 73, zR 121, zI i, .null, .null] [zI z0, zI z] (ZZ t2 dr2 tx2) w3
    rw [hz]
    refine zB_icmp_eq (tgt := 3195) dL_law_1699 (by decide) hzr hzr (fun _ => ?_) (fun q => absurd rfl q)
    exact zB_wk (by omega) (by omega) (kk t2 dr2 tx2 w3 hsim)
  · obtain ⟨k, ⟨-, -, h0⟩ | ⟨-, -, h0⟩, -⟩ := hthr E S1 w1 hx
    · exact absurd rfl h0
    · exact absurd rfl h0
set_option maxRecDepth 100000 in
set_option maxHeartbeats 4000000 in
theorem L_24 {L : Nat} {xs : Nat → Int32} {l : Launch} {n t dr tx bc bs : Nat} {w : zW} {i : Int} (hL0 : L < 2147483648) (h : zSim n t dr tx w) (hn : n ≤ 600) (i0 : 0 ≤ i) (i6 : i + 6 ≤ (L : Int)) (kk : ∀ (t2 dr2 tx2 : Nat) (w3 : zW), zSim (n + 1) t2 dr2 tx2 w3 → zB L xs l mL_law false 16 bc bs QL zNo 3195 [zR 4000, zR 0, zR 73, zR 121, zI i, .null, .null] [] (ZZ t2 dr2 tx2) w3) : zB L xs l mL_law false 16 (bc + 3) (bs + 18) QL zNo 1704 [zR 4000, zR 0, zR 73, zR 121, zI i, .null, .null] [] (ZZ t dr tx) w := by
  obtain ⟨d, bc', bs', Q, X, ⟨hd, hbc, hbs⟩, hs, hret, hthr⟩ : zPr l n mX11_ropes mX12_ropes 0 0 false [zI (sc xs (i + 1))] t dr tx w := P_ropes h (inR_t _)
  refine zB_aload_n dL_law_1704 rfl ?_
  refine zB_rd dL_law_1705 dL_law_1706 dL_law_1708 dL_law_1709 dL_law_1710 rfl rfl (by omega) (by omega) hL0 ?_
  refine zB_callV (bc2 := bc + 3 - bc') (bs2 := bs + 18 - bs') (st := []) dL_law_1711 vX11_ropes kL_216 hs (by omega) rfl rfl (Nat.le_of_ble_eq_true rfl) c0 rfl ⟨by omega, by omega⟩ (fun v S1 w1 hq => ?_) (fun E S1 w1 hx => ?_)
  · obtain ⟨⟨t1, dr1, tx1, rfl⟩, hv, d2, Q2, hd2, hsp, hk⟩ := hret v S1 w1 hq w1 (fun _ _ _ => rfl)
    obtain ⟨z0, rfl⟩ : ∃ z, v = some (zI z) := hv
    obtain ⟨z, hz, hzr⟩ := zI_in z0
    show zB L xs l mL_law false 16 (bc + 3 - bc') (bs + 18 - bs') QL zNo 1714 [zR 4000, zR 0, zR 73, zR 121, zI i, .null, .null] [zI z0] (ZZ t1 dr1 tx1) w1
    rw [hz]
    refine zB_aload_n dL_law_1714 rfl ?_
    refine zB_rd dL_law_1715 dL_law_1716 dL_law_1718 dL_law_1719 dL_law_1720 rfl rfl (by omega) (by omega) hL0 ?_
    refine zB_cV (st := [zI z]) dL_law_1721 vX12_ropes kL_219 hsp (by omega) c73 rfl rfl (Nat.le_of_ble_eq_true rfl) rfl (fun v2 S2 w3 hq2 => ?_)
    obtain ⟨rfl, h1, h2, t2, dr2, tx2, rfl, hsim⟩ := hk v2 S2 w3 hq2
    show zB L xs l mL_law false 16 (bc + 3 - bc') (bs + 18 - bs') QL zNo 1724 [zR 4000, zR 0, zR 73, zR 121, zI i, .null, .null] [zI z0, zI z] (ZZ t2 dr2 tx2) w3
    rw [hz]
    refine zB_icmp_eq (tgt := 3195) dL_law_1724 (by decide) hzr hzr (fun _ => ?_) (fun q => absurd rfl q)
    exact zB_wk (by omega) (by omega) (kk t2 dr2 tx2 w3 hsim)
  · obtain ⟨k, ⟨-, -, h0⟩ | ⟨-, -, h0⟩, -⟩ := hthr E S1 w1 hx
    · exact absurd rfl h0
    · exact absurd rfl h0
set_option maxRecDepth 100000 in
set_option maxHeartbeats 4000000 in
theorem L_25 {L : Nat} {xs : Nat → Int32} {l : Launch} {n t dr tx bc bs : Nat} {w : zW} {i : Int} (hL0 : L < 2147483648) (h : zSim n t dr tx w) (hn : n ≤ 600) (i0 : 0 ≤ i) (i6 : i + 6 ≤ (L : Int)) (kk : ∀ (t2 dr2 tx2 : Nat) (w3 : zW), zSim (n + 1) t2 dr2 tx2 w3 → zB L xs l mL_law false 16 bc bs QL zNo 3195 [zR 4000, zR 0, zR 73, zR 121, zI i, .null, .null] [] (ZZ t2 dr2 tx2) w3) : zB L xs l mL_law false 16 (bc + 3) (bs + 18) QL zNo 1729 [zR 4000, zR 0, zR 73, zR 121, zI i, .null, .null] [] (ZZ t dr tx) w := by
  obtain ⟨d, bc', bs', Q, X, ⟨hd, hbc, hbs⟩, hs, hret, hthr⟩ : zPr l n mX11_rule mX12_rule 0 0 false [zI (sc xs (i + 1))] t dr tx w := P_rule h (inR_t _)
  refine zB_aload_n dL_law_1729 rfl ?_
  refine zB_rd dL_law_1730 dL_law_1731 dL_law_1733 dL_law_1734 dL_law_1735 rfl rfl (by omega) (by omega) hL0 ?_
  refine zB_callV (bc2 := bc + 3 - bc') (bs2 := bs + 18 - bs') (st := []) dL_law_1736 vX11_rule kL_220 hs (by omega) rfl rfl (Nat.le_of_ble_eq_true rfl) c0 rfl ⟨by omega, by omega⟩ (fun v S1 w1 hq => ?_) (fun E S1 w1 hx => ?_)
  · obtain ⟨⟨t1, dr1, tx1, rfl⟩, hv, d2, Q2, hd2, hsp, hk⟩ := hret v S1 w1 hq w1 (fun _ _ _ => rfl)
    obtain ⟨z0, rfl⟩ : ∃ z, v = some (zI z) := hv
    obtain ⟨z, hz, hzr⟩ := zI_in z0
    show zB L xs l mL_law false 16 (bc + 3 - bc') (bs + 18 - bs') QL zNo 1739 [zR 4000, zR 0, zR 73, zR 121, zI i, .null, .null] [zI z0] (ZZ t1 dr1 tx1) w1
    rw [hz]
    refine zB_aload_n dL_law_1739 rfl ?_
    refine zB_rd dL_law_1740 dL_law_1741 dL_law_1743 dL_law_1744 dL_law_1745 rfl rfl (by omega) (by omega) hL0 ?_
    refine zB_cV (st := [zI z]) dL_law_1746 vX12_rule kL_223 hsp (by omega) c73 rfl rfl (Nat.le_of_ble_eq_true rfl) rfl (fun v2 S2 w3 hq2 => ?_)
    obtain ⟨rfl, h1, h2, t2, dr2, tx2, rfl, hsim⟩ := hk v2 S2 w3 hq2
    show zB L xs l mL_law false 16 (bc + 3 - bc') (bs + 18 - bs') QL zNo 1749 [zR 4000, zR 0, zR 73, zR 121, zI i, .null, .null] [zI z0, zI z] (ZZ t2 dr2 tx2) w3
    rw [hz]
    refine zB_icmp_eq (tgt := 3195) dL_law_1749 (by decide) hzr hzr (fun _ => ?_) (fun q => absurd rfl q)
    exact zB_wk (by omega) (by omega) (kk t2 dr2 tx2 w3 hsim)
  · obtain ⟨k, ⟨-, -, h0⟩ | ⟨-, -, h0⟩, -⟩ := hthr E S1 w1 hx
    · exact absurd rfl h0
    · exact absurd rfl h0
set_option maxRecDepth 100000 in
set_option maxHeartbeats 4000000 in
theorem L_26 {L : Nat} {xs : Nat → Int32} {l : Launch} {n t dr tx bc bs : Nat} {w : zW} {i : Int} (hL0 : L < 2147483648) (h : zSim n t dr tx w) (hn : n ≤ 600) (i0 : 0 ≤ i) (i6 : i + 6 ≤ (L : Int)) (kk : ∀ (t2 dr2 tx2 : Nat) (w3 : zW), zSim (n + 1) t2 dr2 tx2 w3 → zB L xs l mL_law false 16 bc bs QL zNo 3195 [zR 4000, zR 0, zR 73, zR 121, zI i, .null, .null] [] (ZZ t2 dr2 tx2) w3) : zB L xs l mL_law false 16 (bc + 3) (bs + 18) QL zNo 1754 [zR 4000, zR 0, zR 73, zR 121, zI i, .null, .null] [] (ZZ t dr tx) w := by
  obtain ⟨d, bc', bs', Q, X, ⟨hd, hbc, hbs⟩, hs, hret, hthr⟩ : zPr l n mX11_climb mX12_climb 0 0 false [zI (sc xs (i + 1)), zI (sc xs (i + 2)), zI (sc xs (i + 3)), zI (sc xs (i + 4))] t dr tx w := P_climb h hn (inR_t _) (inR_t _) (inR_t _) (inR_t _)
  refine zB_aload_n dL_law_1754 rfl ?_
  refine zB_rd dL_law_1755 dL_law_1756 dL_law_1758 dL_law_1759 dL_law_1760 rfl rfl (by omega) (by omega) hL0 ?_
  refine zB_rd dL_law_1761 dL_law_1762 dL_law_1764 dL_law_1765 dL_law_1766 rfl rfl (by omega) (by omega) hL0 ?_
  refine zB_rd dL_law_1767 dL_law_1768 dL_law_1770 dL_law_1771 dL_law_1772 rfl rfl (by omega) (by omega) hL0 ?_
  refine zB_rd dL_law_1773 dL_law_1774 dL_law_1776 dL_law_1777 dL_law_1778 rfl rfl (by omega) (by omega) hL0 ?_
  refine zB_callV (bc2 := bc + 3 - bc') (bs2 := bs + 18 - bs') (st := []) dL_law_1779 vX11_climb kL_224 hs (by omega) rfl rfl (Nat.le_of_ble_eq_true rfl) c0 rfl ⟨by omega, by omega⟩ (fun v S1 w1 hq => ?_) (fun E S1 w1 hx => ?_)
  · obtain ⟨⟨t1, dr1, tx1, rfl⟩, hv, d2, Q2, hd2, hsp, hk⟩ := hret v S1 w1 hq w1 (fun _ _ _ => rfl)
    obtain ⟨z0, rfl⟩ : ∃ z, v = some (zI z) := hv
    obtain ⟨z, hz, hzr⟩ := zI_in z0
    show zB L xs l mL_law false 16 (bc + 3 - bc') (bs + 18 - bs') QL zNo 1782 [zR 4000, zR 0, zR 73, zR 121, zI i, .null, .null] [zI z0] (ZZ t1 dr1 tx1) w1
    rw [hz]
    refine zB_aload_n dL_law_1782 rfl ?_
    refine zB_rd dL_law_1783 dL_law_1784 dL_law_1786 dL_law_1787 dL_law_1788 rfl rfl (by omega) (by omega) hL0 ?_
    refine zB_rd dL_law_1789 dL_law_1790 dL_law_1792 dL_law_1793 dL_law_1794 rfl rfl (by omega) (by omega) hL0 ?_
    refine zB_rd dL_law_1795 dL_law_1796 dL_law_1798 dL_law_1799 dL_law_1800 rfl rfl (by omega) (by omega) hL0 ?_
    refine zB_rd dL_law_1801 dL_law_1802 dL_law_1804 dL_law_1805 dL_law_1806 rfl rfl (by omega) (by omega) hL0 ?_
    refine zB_cV (st := [zI z]) dL_law_1807 vX12_climb kL_227 hsp (by omega) c73 rfl rfl (Nat.le_of_ble_eq_true rfl) rfl (fun v2 S2 w3 hq2 => ?_)
    obtain ⟨rfl, h1, h2, t2, dr2, tx2, rfl, hsim⟩ := hk v2 S2 w3 hq2
    show zB L xs l mL_law false 16 (bc + 3 - bc') (bs + 18 - bs') QL zNo 1810 [zR 4000, zR 0, zR 73, zR 121, zI i, .null, .null] [zI z0, zI z] (ZZ t2 dr2 tx2) w3
    rw [hz]
    refine zB_icmp_eq (tgt := 3195) dL_law_1810 (by decide) hzr hzr (fun _ => ?_) (fun q => absurd rfl q)
    exact zB_wk (by omega) (by omega) (kk t2 dr2 tx2 w3 hsim)
  · obtain ⟨k, ⟨-, -, h0⟩ | ⟨-, -, h0⟩, -⟩ := hthr E S1 w1 hx
    · exact absurd rfl h0
    · exact absurd rfl h0
set_option maxRecDepth 100000 in
set_option maxHeartbeats 4000000 in
theorem L_27 {L : Nat} {xs : Nat → Int32} {l : Launch} {n t dr tx bc bs : Nat} {w : zW} {i : Int} (hL0 : L < 2147483648) (h : zSim n t dr tx w) (hn : n ≤ 600) (i0 : 0 ≤ i) (i6 : i + 6 ≤ (L : Int)) (kk : ∀ (t2 dr2 tx2 : Nat) (w3 : zW), zSim (n + 1) t2 dr2 tx2 w3 → zB L xs l mL_law false 16 bc bs QL zNo 3195 [zR 4000, zR 0, zR 73, zR 121, zI i, .null, .null] [] (ZZ t2 dr2 tx2) w3) : zB L xs l mL_law false 16 (bc + 3) (bs + 18) QL zNo 1815 [zR 4000, zR 0, zR 73, zR 121, zI i, .null, .null] [] (ZZ t dr tx) w := by
  have hp : zPr l n mX11_climbs mX12_climbs 1 0 false [zI (sc xs (i + 1))] t dr tx w := P_climbs h (inR_t _)
  refine zB_aload_n dL_law_1815 rfl ?_
  refine zB_rd dL_law_1816 dL_law_1817 dL_law_1819 dL_law_1820 dL_law_1821 rfl rfl (by omega) (by omega) hL0 ?_
  refine zB_aload_n dL_law_1822 rfl ?_
  refine zB_callS (bc2 := bc) (bs2 := bs) (st := []) dL_law_1823 sL_climbs kL_228 (w_climbs hp) (by decide) rfl rfl (Nat.le_of_ble_eq_true rfl) ⟨Nat.add_comm _ _, Nat.add_comm _ _⟩ (fun v S1 w1 hq => ?_) (fun E S1 w1 hx => hx.elim)
  obtain ⟨k, rfl, ⟨hk0, hk2⟩, ⟨t1, dr1, tx1, rfl⟩, d2, Q2, hd2, hsp, hk⟩ := hq
  have hkr : inR k := inR_mk (by omega) (by omega)
  show zB L xs l mL_law false 16 bc bs QL zNo 1826 [zR 4000, zR 0, zR 73, zR 121, zI i, .null, .null] [zI k] (ZZ t1 dr1 tx1) w1
  refine zB_istore (lo1 := [zR 4000, zR 0, zR 73, zR 121, zI i, zI k, .null]) dL_law_1826 (by decide) rfl rfl ?_
  refine zB_aload_n dL_law_1828 rfl ?_
  refine zB_rd dL_law_1829 dL_law_1830 dL_law_1832 dL_law_1833 dL_law_1834 rfl rfl (by omega) (by omega) hL0 ?_
  refine zB_cV (st := []) dL_law_1835 vX12_climbs kL_230 hsp (by omega) c73 rfl rfl (Nat.le_of_ble_eq_true rfl) rfl (fun v2 S2 w3 hq2 => ?_)
  obtain ⟨z, rfl, hzr, h73, h121, t2, dr2, tx2, rfl, hsim⟩ := hk v2 S2 w3 hq2
  show zB L xs l mL_law false 16 bc bs QL zNo 1838 [zR 4000, zR 0, zR 73, zR 121, zI i, zI k, .null] [zI z] (ZZ t2 dr2 tx2) w3
  refine zB_istore (lo1 := [zR 4000, zR 0, zR 73, zR 121, zI i, zI k, zI z]) dL_law_1838 (by decide) rfl rfl ?_
  refine zB_aload_n dL_law_1840 rfl ?_
  refine zB_cV (st := []) dL_law_1841 vX12_thrown kL_136 (m_thrown (w := w3)) (by decide) c73 rfl rfl (Nat.le_of_ble_eq_true rfl) rfl (fun v4 S4 w4 hq4 => ?_)
  obtain ⟨rfl, rfl, rfl⟩ := hq4
  show zB L xs l mL_law false 16 bc bs QL zNo 1844 [zR 4000, zR 0, zR 73, zR 121, zI i, zI k, zI z] [zI (w4 73 1)] (ZZ t2 dr2 tx2) w4
  rw [h73]
  refine zB_iload dL_law_1844 rfl ?_
  refine zB_icmp_eq (tgt := 1851) dL_law_1846 (by decide) hkr hkr (fun _ => ?_) (fun q => absurd rfl q)
  refine zB_iload dL_law_1851 rfl ?_
  refine zB_if_ne (tgt := 1868) dL_law_1853 (by decide) hkr (fun _ => ?_) (fun q => ?_)
  · refine zB_goto (tgt := 3195) dL_law_1868 (by decide) ?_
    refine zB_drop (lo1 := [zR 4000, zR 0, zR 73, zR 121, zI i, .null, zI z]) 5 rfl ?_
    refine zB_drop (lo1 := [zR 4000, zR 0, zR 73, zR 121, zI i, .null, .null]) 6 rfl ?_
    exact kk t2 dr2 tx2 w4 hsim
  · have h21 := h121 q
    rw [if_neg (by decide)] at h21
    refine zB_aload_n dL_law_1856 rfl ?_
    refine zB_iconst dL_law_1857 ?_
    refine zB_laload dL_law_1858 c121 (by decide) (by decide) (by decide) ?_
    refine zB_iload dL_law_1859 rfl ?_
    rw [h21]
    have hzl : -9223372036854775808 ≤ z ∧ z < 9223372036854775808 := by have h1 := hzr.1; have h2 := hzr.2; omega
    refine zB_i2l dL_law_1861 hzr ?_
    refine zB_lcmp dL_law_1862 hzl hzl ?_
    refine zB_valI 0 (by simp) ?_
    refine zB_if_eq (tgt := 1868) dL_law_1863 (by decide) ⟨by decide, by decide⟩ (fun _ => ?_) (fun q => absurd rfl q)
    refine zB_goto (tgt := 3195) dL_law_1868 (by decide) ?_
    refine zB_drop (lo1 := [zR 4000, zR 0, zR 73, zR 121, zI i, .null, zI z]) 5 rfl ?_
    refine zB_drop (lo1 := [zR 4000, zR 0, zR 73, zR 121, zI i, .null, .null]) 6 rfl ?_
    exact kk t2 dr2 tx2 w4 hsim
set_option maxRecDepth 100000 in
set_option maxHeartbeats 4000000 in
theorem L_28 {L : Nat} {xs : Nat → Int32} {l : Launch} {n t dr tx bc bs : Nat} {w : zW} {i : Int} (hL0 : L < 2147483648) (h : zSim n t dr tx w) (hn : n ≤ 600) (i0 : 0 ≤ i) (i6 : i + 6 ≤ (L : Int)) (kk : ∀ (t2 dr2 tx2 : Nat) (w3 : zW), zSim (n + 1) t2 dr2 tx2 w3 → zB L xs l mL_law false 16 bc bs QL zNo 3195 [zR 4000, zR 0, zR 73, zR 121, zI i, .null, .null] [] (ZZ t2 dr2 tx2) w3) : zB L xs l mL_law false 16 (bc + 3) (bs + 18) QL zNo 1871 [zR 4000, zR 0, zR 73, zR 121, zI i, .null, .null] [] (ZZ t dr tx) w := by
  have hp : zPr l n mX11_up mX12_up 1 0 false [zI (sc xs (i + 1)), zI (sc xs (i + 2))] t dr tx w := P_up h (inR_t _) (inR_t _)
  refine zB_aload_n dL_law_1871 rfl ?_
  refine zB_rd dL_law_1872 dL_law_1873 dL_law_1875 dL_law_1876 dL_law_1877 rfl rfl (by omega) (by omega) hL0 ?_
  refine zB_rd dL_law_1878 dL_law_1879 dL_law_1881 dL_law_1882 dL_law_1883 rfl rfl (by omega) (by omega) hL0 ?_
  refine zB_aload_n dL_law_1884 rfl ?_
  refine zB_callS (bc2 := bc) (bs2 := bs) (st := []) dL_law_1885 sL_up kL_231 (w_up hp) (by decide) rfl rfl (Nat.le_of_ble_eq_true rfl) ⟨Nat.add_comm _ _, Nat.add_comm _ _⟩ (fun v S1 w1 hq => ?_) (fun E S1 w1 hx => hx.elim)
  obtain ⟨k, rfl, ⟨hk0, hk2⟩, ⟨t1, dr1, tx1, rfl⟩, d2, Q2, hd2, hsp, hk⟩ := hq
  have hkr : inR k := inR_mk (by omega) (by omega)
  show zB L xs l mL_law false 16 bc bs QL zNo 1888 [zR 4000, zR 0, zR 73, zR 121, zI i, .null, .null] [zI k] (ZZ t1 dr1 tx1) w1
  refine zB_istore (lo1 := [zR 4000, zR 0, zR 73, zR 121, zI i, zI k, .null]) dL_law_1888 (by decide) rfl rfl ?_
  refine zB_aload_n dL_law_1890 rfl ?_
  refine zB_rd dL_law_1891 dL_law_1892 dL_law_1894 dL_law_1895 dL_law_1896 rfl rfl (by omega) (by omega) hL0 ?_
  refine zB_rd dL_law_1897 dL_law_1898 dL_law_1900 dL_law_1901 dL_law_1902 rfl rfl (by omega) (by omega) hL0 ?_
  refine zB_cV (st := []) dL_law_1903 vX12_up kL_233 hsp (by omega) c73 rfl rfl (Nat.le_of_ble_eq_true rfl) rfl (fun v2 S2 w3 hq2 => ?_)
  obtain ⟨z, rfl, hzr, h73, h121, t2, dr2, tx2, rfl, hsim⟩ := hk v2 S2 w3 hq2
  show zB L xs l mL_law false 16 bc bs QL zNo 1906 [zR 4000, zR 0, zR 73, zR 121, zI i, zI k, .null] [zI z] (ZZ t2 dr2 tx2) w3
  refine zB_istore (lo1 := [zR 4000, zR 0, zR 73, zR 121, zI i, zI k, zI z]) dL_law_1906 (by decide) rfl rfl ?_
  refine zB_aload_n dL_law_1908 rfl ?_
  refine zB_cV (st := []) dL_law_1909 vX12_thrown kL_136 (m_thrown (w := w3)) (by decide) c73 rfl rfl (Nat.le_of_ble_eq_true rfl) rfl (fun v4 S4 w4 hq4 => ?_)
  obtain ⟨rfl, rfl, rfl⟩ := hq4
  show zB L xs l mL_law false 16 bc bs QL zNo 1912 [zR 4000, zR 0, zR 73, zR 121, zI i, zI k, zI z] [zI (w4 73 1)] (ZZ t2 dr2 tx2) w4
  rw [h73]
  refine zB_iload dL_law_1912 rfl ?_
  refine zB_icmp_eq (tgt := 1919) dL_law_1914 (by decide) hkr hkr (fun _ => ?_) (fun q => absurd rfl q)
  refine zB_iload dL_law_1919 rfl ?_
  refine zB_if_ne (tgt := 1936) dL_law_1921 (by decide) hkr (fun _ => ?_) (fun q => ?_)
  · refine zB_goto (tgt := 3195) dL_law_1936 (by decide) ?_
    refine zB_drop (lo1 := [zR 4000, zR 0, zR 73, zR 121, zI i, .null, zI z]) 5 rfl ?_
    refine zB_drop (lo1 := [zR 4000, zR 0, zR 73, zR 121, zI i, .null, .null]) 6 rfl ?_
    exact kk t2 dr2 tx2 w4 hsim
  · have h21 := h121 q
    rw [if_neg (by decide)] at h21
    refine zB_aload_n dL_law_1924 rfl ?_
    refine zB_iconst dL_law_1925 ?_
    refine zB_laload dL_law_1926 c121 (by decide) (by decide) (by decide) ?_
    refine zB_iload dL_law_1927 rfl ?_
    rw [h21]
    have hzl : -9223372036854775808 ≤ z ∧ z < 9223372036854775808 := by have h1 := hzr.1; have h2 := hzr.2; omega
    refine zB_i2l dL_law_1929 hzr ?_
    refine zB_lcmp dL_law_1930 hzl hzl ?_
    refine zB_valI 0 (by simp) ?_
    refine zB_if_eq (tgt := 1936) dL_law_1931 (by decide) ⟨by decide, by decide⟩ (fun _ => ?_) (fun q => absurd rfl q)
    refine zB_goto (tgt := 3195) dL_law_1936 (by decide) ?_
    refine zB_drop (lo1 := [zR 4000, zR 0, zR 73, zR 121, zI i, .null, zI z]) 5 rfl ?_
    refine zB_drop (lo1 := [zR 4000, zR 0, zR 73, zR 121, zI i, .null, .null]) 6 rfl ?_
    exact kk t2 dr2 tx2 w4 hsim
set_option maxRecDepth 100000 in
set_option maxHeartbeats 4000000 in
theorem L_29 {L : Nat} {xs : Nat → Int32} {l : Launch} {n t dr tx bc bs : Nat} {w : zW} {i : Int} (hL0 : L < 2147483648) (h : zSim n t dr tx w) (hn : n ≤ 600) (i0 : 0 ≤ i) (i6 : i + 6 ≤ (L : Int)) (kk : ∀ (t2 dr2 tx2 : Nat) (w3 : zW), zSim (n + 1) t2 dr2 tx2 w3 → zB L xs l mL_law false 16 bc bs QL zNo 3195 [zR 4000, zR 0, zR 73, zR 121, zI i, .null, .null] [] (ZZ t2 dr2 tx2) w3) : zB L xs l mL_law false 16 (bc + 3) (bs + 18) QL zNo 1939 [zR 4000, zR 0, zR 73, zR 121, zI i, .null, .null] [] (ZZ t dr tx) w := by
  obtain ⟨d, bc', bs', Q, X, ⟨hd, hbc, hbs⟩, hs, hret, hthr⟩ : zPr l n mX11_back mX12_back 0 0 false [] t dr tx w := P_back h hn
  refine zB_aload_n dL_law_1939 rfl ?_
  refine zB_callV (bc2 := bc + 3 - bc') (bs2 := bs + 18 - bs') (st := []) dL_law_1940 vX11_back kL_234 hs (by omega) rfl rfl (Nat.le_of_ble_eq_true rfl) c0 rfl ⟨by omega, by omega⟩ (fun v S1 w1 hq => ?_) (fun E S1 w1 hx => ?_)
  · obtain ⟨⟨t1, dr1, tx1, rfl⟩, hv, d2, Q2, hd2, hsp, hk⟩ := hret v S1 w1 hq w1 (fun _ _ _ => rfl)
    obtain ⟨z0, rfl⟩ : ∃ z, v = some (zI z) := hv
    obtain ⟨z, hz, hzr⟩ := zI_in z0
    show zB L xs l mL_law false 16 (bc + 3 - bc') (bs + 18 - bs') QL zNo 1943 [zR 4000, zR 0, zR 73, zR 121, zI i, .null, .null] [zI z0] (ZZ t1 dr1 tx1) w1
    rw [hz]
    refine zB_aload_n dL_law_1943 rfl ?_
    refine zB_cV (st := [zI z]) dL_law_1944 vX12_back kL_237 hsp (by omega) c73 rfl rfl (Nat.le_of_ble_eq_true rfl) rfl (fun v2 S2 w3 hq2 => ?_)
    obtain ⟨rfl, h1, h2, t2, dr2, tx2, rfl, hsim⟩ := hk v2 S2 w3 hq2
    show zB L xs l mL_law false 16 (bc + 3 - bc') (bs + 18 - bs') QL zNo 1947 [zR 4000, zR 0, zR 73, zR 121, zI i, .null, .null] [zI z0, zI z] (ZZ t2 dr2 tx2) w3
    rw [hz]
    refine zB_icmp_eq (tgt := 3195) dL_law_1947 (by decide) hzr hzr (fun _ => ?_) (fun q => absurd rfl q)
    exact zB_wk (by omega) (by omega) (kk t2 dr2 tx2 w3 hsim)
  · obtain ⟨k, ⟨-, -, h0⟩ | ⟨-, -, h0⟩, -⟩ := hthr E S1 w1 hx
    · exact absurd rfl h0
    · exact absurd rfl h0
set_option maxRecDepth 100000 in
set_option maxHeartbeats 4000000 in
theorem L_30 {L : Nat} {xs : Nat → Int32} {l : Launch} {n t dr tx bc bs : Nat} {w : zW} {i : Int} (hL0 : L < 2147483648) (h : zSim n t dr tx w) (hn : n ≤ 600) (i0 : 0 ≤ i) (i6 : i + 6 ≤ (L : Int)) (kk : ∀ (t2 dr2 tx2 : Nat) (w3 : zW), zSim (n + 1) t2 dr2 tx2 w3 → zB L xs l mL_law false 16 bc bs QL zNo 3195 [zR 4000, zR 0, zR 73, zR 121, zI i, .null, .null] [] (ZZ t2 dr2 tx2) w3) : zB L xs l mL_law false 16 (bc + 3) (bs + 18) QL zNo 1952 [zR 4000, zR 0, zR 73, zR 121, zI i, .null, .null] [] (ZZ t dr tx) w := by
  obtain ⟨d, bc', bs', Q, X, ⟨hd, hbc, hbs⟩, hs, hret, hthr⟩ : zPr l n mX11_image mX12_image 0 0 true [] t dr tx w := P_image h
  refine zB_aload_n dL_law_1952 rfl ?_
  refine zB_callV (bc2 := bc + 3 - bc') (bs2 := bs + 18 - bs') (st := []) dL_law_1953 vX11_image kL_238 hs (by omega) rfl rfl (Nat.le_of_ble_eq_true rfl) c0 rfl ⟨by omega, by omega⟩ (fun v S1 w1 hq => ?_) (fun E S1 w1 hx => ?_)
  · obtain ⟨⟨t1, dr1, tx1, rfl⟩, hv, d2, Q2, hd2, hsp, hk⟩ := hret v S1 w1 hq w1 (fun _ _ _ => rfl)
    obtain rfl : v = none := hv
    show zB L xs l mL_law false 16 (bc + 3 - bc') (bs + 18 - bs') QL zNo 1956 [zR 4000, zR 0, zR 73, zR 121, zI i, .null, .null] [] (ZZ t1 dr1 tx1) w1
    refine zB_aload_n dL_law_1956 rfl ?_
    refine zB_cV (st := []) dL_law_1957 vX12_image kL_241 hsp (by omega) c73 rfl rfl (Nat.le_of_ble_eq_true rfl) rfl (fun v2 S2 w3 hq2 => ?_)
    obtain ⟨rfl, h1, h2, t2, dr2, tx2, rfl, hsim⟩ := hk v2 S2 w3 hq2
    show zB L xs l mL_law false 16 (bc + 3 - bc') (bs + 18 - bs') QL zNo 1960 [zR 4000, zR 0, zR 73, zR 121, zI i, .null, .null] [] (ZZ t2 dr2 tx2) w3
    refine zB_goto (tgt := 3195) dL_law_1960 (by decide) ?_
    exact zB_wk (by omega) (by omega) (kk t2 dr2 tx2 w3 hsim)
  · obtain ⟨k, ⟨-, -, h0⟩ | ⟨-, -, h0⟩, -⟩ := hthr E S1 w1 hx
    · exact absurd rfl h0
    · exact absurd rfl h0
set_option maxRecDepth 100000 in
set_option maxHeartbeats 4000000 in
theorem L_31 {L : Nat} {xs : Nat → Int32} {l : Launch} {n t dr tx bc bs : Nat} {w : zW} {i : Int} (hL0 : L < 2147483648) (h : zSim n t dr tx w) (hn : n ≤ 600) (i0 : 0 ≤ i) (i6 : i + 6 ≤ (L : Int)) (kk : ∀ (t2 dr2 tx2 : Nat) (w3 : zW), zSim (n + 1) t2 dr2 tx2 w3 → zB L xs l mL_law false 16 bc bs QL zNo 3195 [zR 4000, zR 0, zR 73, zR 121, zI i, .null, .null] [] (ZZ t2 dr2 tx2) w3) : zB L xs l mL_law false 16 (bc + 3) (bs + 18) QL zNo 1963 [zR 4000, zR 0, zR 73, zR 121, zI i, .null, .null] [] (ZZ t dr tx) w := by
  obtain ⟨d, bc', bs', Q, X, ⟨hd, hbc, hbs⟩, hs, hret, hthr⟩ : zPr l n mX11_restore mX12_restore 0 0 false [] t dr tx w := P_restore h
  refine zB_aload_n dL_law_1963 rfl ?_
  refine zB_callV (bc2 := bc + 3 - bc') (bs2 := bs + 18 - bs') (st := []) dL_law_1964 vX11_restore kL_242 hs (by omega) rfl rfl (Nat.le_of_ble_eq_true rfl) c0 rfl ⟨by omega, by omega⟩ (fun v S1 w1 hq => ?_) (fun E S1 w1 hx => ?_)
  · obtain ⟨⟨t1, dr1, tx1, rfl⟩, hv, d2, Q2, hd2, hsp, hk⟩ := hret v S1 w1 hq w1 (fun _ _ _ => rfl)
    obtain ⟨z0, rfl⟩ : ∃ z, v = some (zI z) := hv
    obtain ⟨z, hz, hzr⟩ := zI_in z0
    show zB L xs l mL_law false 16 (bc + 3 - bc') (bs + 18 - bs') QL zNo 1967 [zR 4000, zR 0, zR 73, zR 121, zI i, .null, .null] [zI z0] (ZZ t1 dr1 tx1) w1
    rw [hz]
    refine zB_aload_n dL_law_1967 rfl ?_
    refine zB_cV (st := [zI z]) dL_law_1968 vX12_restore kL_246 hsp (by omega) c73 rfl rfl (Nat.le_of_ble_eq_true rfl) rfl (fun v2 S2 w3 hq2 => ?_)
    obtain ⟨rfl, h1, h2, t2, dr2, tx2, rfl, hsim⟩ := hk v2 S2 w3 hq2
    show zB L xs l mL_law false 16 (bc + 3 - bc') (bs + 18 - bs') QL zNo 1971 [zR 4000, zR 0, zR 73, zR 121, zI i, .null, .null] [zI z0, zI z] (ZZ t2 dr2 tx2) w3
    rw [hz]
    refine zB_icmp_eq (tgt := 3195) dL_law_1971 (by decide) hzr hzr (fun _ => ?_) (fun q => absurd rfl q)
    exact zB_wk (by omega) (by omega) (kk t2 dr2 tx2 w3 hsim)
  · obtain ⟨k, ⟨-, -, h0⟩ | ⟨-, -, h0⟩, -⟩ := hthr E S1 w1 hx
    · exact absurd rfl h0
    · exact absurd rfl h0
set_option maxRecDepth 100000 in
set_option maxHeartbeats 4000000 in
theorem L_32 {L : Nat} {xs : Nat → Int32} {l : Launch} {n t dr tx bc bs : Nat} {w : zW} {i : Int} (hL0 : L < 2147483648) (h : zSim n t dr tx w) (hn : n ≤ 600) (i0 : 0 ≤ i) (i6 : i + 6 ≤ (L : Int)) (kk : ∀ (t2 dr2 tx2 : Nat) (w3 : zW), zSim (n + 1) t2 dr2 tx2 w3 → zB L xs l mL_law false 16 bc bs QL zNo 3195 [zR 4000, zR 0, zR 73, zR 121, zI i, .null, .null] [] (ZZ t2 dr2 tx2) w3) : zB L xs l mL_law false 16 (bc + 3) (bs + 18) QL zNo 1976 [zR 4000, zR 0, zR 73, zR 121, zI i, .null, .null] [] (ZZ t dr tx) w := by
  have hp : zPr l n mX11_band mX12_band 1 0 false [zI (sc xs (i + 1)), zI (sc xs (i + 2)), zI (sc xs (i + 3)), zI (sc xs (i + 4)), zI (sc xs (i + 5))] t dr tx w := P_band h (inR_t _) (inR_t _) (inR_t _) (inR_t _) (inR_t _)
  refine zB_aload_n dL_law_1976 rfl ?_
  refine zB_rd dL_law_1977 dL_law_1978 dL_law_1980 dL_law_1981 dL_law_1982 rfl rfl (by omega) (by omega) hL0 ?_
  refine zB_rd dL_law_1983 dL_law_1984 dL_law_1986 dL_law_1987 dL_law_1988 rfl rfl (by omega) (by omega) hL0 ?_
  refine zB_rd dL_law_1989 dL_law_1990 dL_law_1992 dL_law_1993 dL_law_1994 rfl rfl (by omega) (by omega) hL0 ?_
  refine zB_rd dL_law_1995 dL_law_1996 dL_law_1998 dL_law_1999 dL_law_2000 rfl rfl (by omega) (by omega) hL0 ?_
  refine zB_rd dL_law_2001 dL_law_2002 dL_law_2004 dL_law_2005 dL_law_2006 rfl rfl (by omega) (by omega) hL0 ?_
  refine zB_aload_n dL_law_2007 rfl ?_
  refine zB_callS (bc2 := bc) (bs2 := bs) (st := []) dL_law_2008 sL_band kL_247 (w_band hp) (by decide) rfl rfl (Nat.le_of_ble_eq_true rfl) ⟨Nat.add_comm _ _, Nat.add_comm _ _⟩ (fun v S1 w1 hq => ?_) (fun E S1 w1 hx => hx.elim)
  obtain ⟨k, rfl, ⟨hk0, hk2⟩, ⟨t1, dr1, tx1, rfl⟩, d2, Q2, hd2, hsp, hk⟩ := hq
  have hkr : inR k := inR_mk (by omega) (by omega)
  show zB L xs l mL_law false 16 bc bs QL zNo 2011 [zR 4000, zR 0, zR 73, zR 121, zI i, .null, .null] [zI k] (ZZ t1 dr1 tx1) w1
  refine zB_istore (lo1 := [zR 4000, zR 0, zR 73, zR 121, zI i, zI k, .null]) dL_law_2011 (by decide) rfl rfl ?_
  refine zB_aload_n dL_law_2013 rfl ?_
  refine zB_rd dL_law_2014 dL_law_2015 dL_law_2017 dL_law_2018 dL_law_2019 rfl rfl (by omega) (by omega) hL0 ?_
  refine zB_rd dL_law_2020 dL_law_2021 dL_law_2023 dL_law_2024 dL_law_2025 rfl rfl (by omega) (by omega) hL0 ?_
  refine zB_rd dL_law_2026 dL_law_2027 dL_law_2029 dL_law_2030 dL_law_2031 rfl rfl (by omega) (by omega) hL0 ?_
  refine zB_rd dL_law_2032 dL_law_2033 dL_law_2035 dL_law_2036 dL_law_2037 rfl rfl (by omega) (by omega) hL0 ?_
  refine zB_rd dL_law_2038 dL_law_2039 dL_law_2041 dL_law_2042 dL_law_2043 rfl rfl (by omega) (by omega) hL0 ?_
  refine zB_cV (st := []) dL_law_2044 vX12_band kL_250 hsp (by omega) c73 rfl rfl (Nat.le_of_ble_eq_true rfl) rfl (fun v2 S2 w3 hq2 => ?_)
  obtain ⟨z, rfl, hzr, h73, h121, t2, dr2, tx2, rfl, hsim⟩ := hk v2 S2 w3 hq2
  show zB L xs l mL_law false 16 bc bs QL zNo 2047 [zR 4000, zR 0, zR 73, zR 121, zI i, zI k, .null] [zI z] (ZZ t2 dr2 tx2) w3
  refine zB_istore (lo1 := [zR 4000, zR 0, zR 73, zR 121, zI i, zI k, zI z]) dL_law_2047 (by decide) rfl rfl ?_
  refine zB_aload_n dL_law_2049 rfl ?_
  refine zB_cV (st := []) dL_law_2050 vX12_thrown kL_136 (m_thrown (w := w3)) (by decide) c73 rfl rfl (Nat.le_of_ble_eq_true rfl) rfl (fun v4 S4 w4 hq4 => ?_)
  obtain ⟨rfl, rfl, rfl⟩ := hq4
  show zB L xs l mL_law false 16 bc bs QL zNo 2053 [zR 4000, zR 0, zR 73, zR 121, zI i, zI k, zI z] [zI (w4 73 1)] (ZZ t2 dr2 tx2) w4
  rw [h73]
  refine zB_iload dL_law_2053 rfl ?_
  refine zB_icmp_eq (tgt := 2060) dL_law_2055 (by decide) hkr hkr (fun _ => ?_) (fun q => absurd rfl q)
  refine zB_iload dL_law_2060 rfl ?_
  refine zB_if_ne (tgt := 2077) dL_law_2062 (by decide) hkr (fun _ => ?_) (fun q => ?_)
  · refine zB_goto (tgt := 3195) dL_law_2077 (by decide) ?_
    refine zB_drop (lo1 := [zR 4000, zR 0, zR 73, zR 121, zI i, .null, zI z]) 5 rfl ?_
    refine zB_drop (lo1 := [zR 4000, zR 0, zR 73, zR 121, zI i, .null, .null]) 6 rfl ?_
    exact kk t2 dr2 tx2 w4 hsim
  · have h21 := h121 q
    rw [if_neg (by decide)] at h21
    refine zB_aload_n dL_law_2065 rfl ?_
    refine zB_iconst dL_law_2066 ?_
    refine zB_laload dL_law_2067 c121 (by decide) (by decide) (by decide) ?_
    refine zB_iload dL_law_2068 rfl ?_
    rw [h21]
    have hzl : -9223372036854775808 ≤ z ∧ z < 9223372036854775808 := by have h1 := hzr.1; have h2 := hzr.2; omega
    refine zB_i2l dL_law_2070 hzr ?_
    refine zB_lcmp dL_law_2071 hzl hzl ?_
    refine zB_valI 0 (by simp) ?_
    refine zB_if_eq (tgt := 2077) dL_law_2072 (by decide) ⟨by decide, by decide⟩ (fun _ => ?_) (fun q => absurd rfl q)
    refine zB_goto (tgt := 3195) dL_law_2077 (by decide) ?_
    refine zB_drop (lo1 := [zR 4000, zR 0, zR 73, zR 121, zI i, .null, zI z]) 5 rfl ?_
    refine zB_drop (lo1 := [zR 4000, zR 0, zR 73, zR 121, zI i, .null, .null]) 6 rfl ?_
    exact kk t2 dr2 tx2 w4 hsim
set_option maxRecDepth 100000 in
set_option maxHeartbeats 4000000 in
theorem L_33 {L : Nat} {xs : Nat → Int32} {l : Launch} {n t dr tx bc bs : Nat} {w : zW} {i : Int} (hL0 : L < 2147483648) (h : zSim n t dr tx w) (hn : n ≤ 600) (i0 : 0 ≤ i) (i6 : i + 6 ≤ (L : Int)) (kk : ∀ (t2 dr2 tx2 : Nat) (w3 : zW), zSim (n + 1) t2 dr2 tx2 w3 → zB L xs l mL_law false 16 bc bs QL zNo 3195 [zR 4000, zR 0, zR 73, zR 121, zI i, .null, .null] [] (ZZ t2 dr2 tx2) w3) : zB L xs l mL_law false 16 (bc + 3) (bs + 18) QL zNo 2080 [zR 4000, zR 0, zR 73, zR 121, zI i, .null, .null] [] (ZZ t dr tx) w := by
  have hp : zPr l n mX11_mortar mX12_mortar 1 0 false [zI (sc xs (i + 1)), zI (sc xs (i + 2))] t dr tx w := P_mortar h (inR_t _) (inR_t _)
  refine zB_aload_n dL_law_2080 rfl ?_
  refine zB_rd dL_law_2081 dL_law_2082 dL_law_2084 dL_law_2085 dL_law_2086 rfl rfl (by omega) (by omega) hL0 ?_
  refine zB_rd dL_law_2087 dL_law_2088 dL_law_2090 dL_law_2091 dL_law_2092 rfl rfl (by omega) (by omega) hL0 ?_
  refine zB_aload_n dL_law_2093 rfl ?_
  refine zB_callS (bc2 := bc) (bs2 := bs) (st := []) dL_law_2094 sL_mortar kL_251 (w_mortar hp) (by decide) rfl rfl (Nat.le_of_ble_eq_true rfl) ⟨Nat.add_comm _ _, Nat.add_comm _ _⟩ (fun v S1 w1 hq => ?_) (fun E S1 w1 hx => hx.elim)
  obtain ⟨k, rfl, ⟨hk0, hk2⟩, ⟨t1, dr1, tx1, rfl⟩, d2, Q2, hd2, hsp, hk⟩ := hq
  have hkr : inR k := inR_mk (by omega) (by omega)
  show zB L xs l mL_law false 16 bc bs QL zNo 2097 [zR 4000, zR 0, zR 73, zR 121, zI i, .null, .null] [zI k] (ZZ t1 dr1 tx1) w1
  refine zB_istore (lo1 := [zR 4000, zR 0, zR 73, zR 121, zI i, zI k, .null]) dL_law_2097 (by decide) rfl rfl ?_
  refine zB_aload_n dL_law_2099 rfl ?_
  refine zB_rd dL_law_2100 dL_law_2101 dL_law_2103 dL_law_2104 dL_law_2105 rfl rfl (by omega) (by omega) hL0 ?_
  refine zB_rd dL_law_2106 dL_law_2107 dL_law_2109 dL_law_2110 dL_law_2111 rfl rfl (by omega) (by omega) hL0 ?_
  refine zB_cV (st := []) dL_law_2112 vX12_mortar kL_253 hsp (by omega) c73 rfl rfl (Nat.le_of_ble_eq_true rfl) rfl (fun v2 S2 w3 hq2 => ?_)
  obtain ⟨z, rfl, hzr, h73, h121, t2, dr2, tx2, rfl, hsim⟩ := hk v2 S2 w3 hq2
  show zB L xs l mL_law false 16 bc bs QL zNo 2115 [zR 4000, zR 0, zR 73, zR 121, zI i, zI k, .null] [zI z] (ZZ t2 dr2 tx2) w3
  refine zB_istore (lo1 := [zR 4000, zR 0, zR 73, zR 121, zI i, zI k, zI z]) dL_law_2115 (by decide) rfl rfl ?_
  refine zB_aload_n dL_law_2117 rfl ?_
  refine zB_cV (st := []) dL_law_2118 vX12_thrown kL_136 (m_thrown (w := w3)) (by decide) c73 rfl rfl (Nat.le_of_ble_eq_true rfl) rfl (fun v4 S4 w4 hq4 => ?_)
  obtain ⟨rfl, rfl, rfl⟩ := hq4
  show zB L xs l mL_law false 16 bc bs QL zNo 2121 [zR 4000, zR 0, zR 73, zR 121, zI i, zI k, zI z] [zI (w4 73 1)] (ZZ t2 dr2 tx2) w4
  rw [h73]
  refine zB_iload dL_law_2121 rfl ?_
  refine zB_icmp_eq (tgt := 2128) dL_law_2123 (by decide) hkr hkr (fun _ => ?_) (fun q => absurd rfl q)
  refine zB_iload dL_law_2128 rfl ?_
  refine zB_if_ne (tgt := 2152) dL_law_2130 (by decide) hkr (fun _ => ?_) (fun q => ?_)
  · refine zB_goto (tgt := 3195) dL_law_2152 (by decide) ?_
    refine zB_drop (lo1 := [zR 4000, zR 0, zR 73, zR 121, zI i, .null, zI z]) 5 rfl ?_
    refine zB_drop (lo1 := [zR 4000, zR 0, zR 73, zR 121, zI i, .null, .null]) 6 rfl ?_
    exact kk t2 dr2 tx2 w4 hsim
  · have h21 := h121 q
    rw [if_pos rfl] at h21
    refine zB_aload_n dL_law_2133 rfl ?_
    refine zB_iconst dL_law_2134 ?_
    refine zB_laload dL_law_2135 c121 (by decide) (by decide) (by decide) ?_
    refine zB_iload dL_law_2136 rfl ?_
    rw [h21]
    refine zB_if_eq (tgt := 2145) dL_law_2138 (by decide) hzr (fun hz0 => ?_) (fun hz0 => ?_)
    · rw [if_pos hz0]
      refine zB_lconst dL_law_2145 ?_
      refine zB_lcmp dL_law_2146 ⟨by decide, by decide⟩ ⟨by decide, by decide⟩ ?_
      refine zB_valI 0 (by simp) ?_
      refine zB_if_eq (tgt := 2152) dL_law_2147 (by decide) ⟨by decide, by decide⟩ (fun _ => ?_) (fun q => absurd rfl q)
      refine zB_goto (tgt := 3195) dL_law_2152 (by decide) ?_
      refine zB_drop (lo1 := [zR 4000, zR 0, zR 73, zR 121, zI i, .null, zI z]) 5 rfl ?_
      refine zB_drop (lo1 := [zR 4000, zR 0, zR 73, zR 121, zI i, .null, .null]) 6 rfl ?_
      exact kk t2 dr2 tx2 w4 hsim
    · rw [if_neg hz0]
      refine zB_lconst dL_law_2141 ?_
      refine zB_goto (tgt := 2146) dL_law_2142 (by decide) ?_
      refine zB_lcmp dL_law_2146 ⟨by decide, by decide⟩ ⟨by decide, by decide⟩ ?_
      refine zB_valI 0 (by simp) ?_
      refine zB_if_eq (tgt := 2152) dL_law_2147 (by decide) ⟨by decide, by decide⟩ (fun _ => ?_) (fun q => absurd rfl q)
      refine zB_goto (tgt := 3195) dL_law_2152 (by decide) ?_
      refine zB_drop (lo1 := [zR 4000, zR 0, zR 73, zR 121, zI i, .null, zI z]) 5 rfl ?_
      refine zB_drop (lo1 := [zR 4000, zR 0, zR 73, zR 121, zI i, .null, .null]) 6 rfl ?_
      exact kk t2 dr2 tx2 w4 hsim
