/-! ===== the law: its cases, on ===== -/
/-! cellOf -/
set_option maxRecDepth 100000 in
set_option maxHeartbeats 4000000 in
theorem lc_cellOf (G : GT) {D : WD} {S : SS} {A : Nat → Nat} {h : Hp} {m o i : Nat} {o5 o6 o7 o8 : Option Value} {b : Nat × Nat} (J : JI G h D m A S o) (hL : scL G ≤ 3584) (hi : i + 6 < scL G) (hb : 60 ≤ b.1 ∧ 1600 ≤ b.2)
    (K : ∀ D' T h' o5 o6 b', JI G h' D' m A T o → b.1 ≤ b'.1 + 60 → b.2 ≤ b'.2 + 1600 → WpL G 1743 [some (.ref (scB G)), some (.ref (D' 0 0)), some (.ref m), some (.ref o), some (.int (i32 i)), o5, o6, o7, o8] [] h' b') :
    WpL G 1224 [some (.ref (scB G)), some (.ref (D 0 0)), some (.ref m), some (.ref o), some (.int (i32 i)), o5, o6, o7, o8] [] h b := by
  have hW := J.1
  have hw := J.2.1
  have hI := J.2.2.1
  have ko := J.2.2.2.2.2.2.1
  have lo := J.2.2.2.2.2.2.2
  refine WpL.al DL_law_1224 rfl ?_
  refine WpL.sa (k := 1) hL (by omega) rfl rfl rfl DL_law_1225 DL_law_1226 DL_law_1228 DL_law_1229 DL_law_1230 ?_
  refine WpL.sa (k := 2) hL (by omega) rfl rfl rfl DL_law_1231 DL_law_1232 DL_law_1234 DL_law_1235 DL_law_1236 ?_
  refine WpL.sa (k := 3) hL (by omega) rfl rfl rfl DL_law_1237 DL_law_1238 DL_law_1240 DL_law_1241 DL_law_1242 ?_
  refine WpL.al DL_law_1243 rfl ?_
  refine WpL.cS (ce := ce_L_cellOf G D S) (As := [.ref (D 0 0), .int (scX G (i + 1)), .int (scX G (i + 2)), .int (scX G (i + 3)), .ref o]) (rest := []) DL_law_1244 (env_cons (ceS (by decide +kernel) ⟨by decide, by decide, by decide +kernel⟩ (by decide) (ok_L_cellOf G G D S hW)) envL) rfl (fun _ => rfl) (Nat.le_of_ble_eq_true rfl) (by show 4 ≤ b.1; omega) (by show 24 ≤ b.2; omega) (Nat.le_of_ble_eq_true rfl) ?_
  refine And.intro hI (And.intro hw (And.intro rfl (And.intro ko (And.intro lo (fun kk vv T hO h1 D' e f w hI' hj => ?_)))))
  obtain ⟨hk, hWF, hWW⟩ := wf_cellOf hW hw hO
  obtain ⟨hM1, hC1⟩ := J.md f
  show WpL G 1247 [some (.ref (scB G)), some (.ref (D 0 0)), some (.ref m), some (.ref o), some (.int (i32 i)), o5, o6, o7, o8] [.int (i32 kk)] h1 (b.1 - 4, b.2 - 24)
  refine WpL.is DL_law_1247 (by show 5 < 9; omega) ?_
  show WpL G 1249 [some (.ref (scB G)), some (.ref (D 0 0)), some (.ref m), some (.ref o), some (.int (i32 i)), some (.int (i32 kk)), o6, o7, o8] [] h1 (b.1 - 4, b.2 - 24)
  refine WpL.al DL_law_1249 rfl ?_
  refine WpL.sa (k := 1) hL (by omega) rfl rfl rfl DL_law_1250 DL_law_1251 DL_law_1253 DL_law_1254 DL_law_1255 ?_
  refine WpL.sa (k := 2) hL (by omega) rfl rfl rfl DL_law_1256 DL_law_1257 DL_law_1259 DL_law_1260 DL_law_1261 ?_
  refine WpL.sa (k := 3) hL (by omega) rfl rfl rfl DL_law_1262 DL_law_1263 DL_law_1265 DL_law_1266 DL_law_1267 ?_
  refine WpL.cV (x := 6) (ce := ce_X5_cellOf A S) (As := [.int (scX G (i + 1)), .int (scX G (i + 2)), .int (scX G (i + 3))]) (rest := []) DL_law_1268 (env_cons (ceV (by decide +kernel) ⟨by decide, by decide, by decide +kernel⟩ (by decide) rfl (ok_X5_cellOf G A S hW)) envL) rfl (fun _ => rfl) hM1.1.1 (by omega) rfl (Nat.le_of_ble_eq_true rfl) (by show 0 ≤ b.1 - 4; omega) (by show 0 ≤ b.2 - 24; omega) (Nat.le_of_ble_eq_true rfl) ?_
  refine m_cellOf (QX := PXL) hW hw hM1 hC1 hO (fun h2 f2 e2 hM2 hC2 w2 hw2 => ?_)
  show WpL G 1271 [some (.ref (scB G)), some (.ref (D 0 0)), some (.ref m), some (.ref o), some (.int (i32 i)), some (.int (i32 kk)), o6, o7, o8] [.int w2] h2 (b.1 - 4 - 0, b.2 - 24 - 0)
  refine Wp.emp (fun hE => ?_)
  have J2 := J.nx f w hI' hE f2 hM2 hC2 hWF hWW
  rw [← e]
  exact tl_law (q := 1271) envT DL_law_1271 DL_law_1273 DL_law_1274 DL_law_1277 DL_law_1279 DL_law_1284 DL_law_1286 DL_law_1289 DL_law_1290 DL_law_1291 DL_law_1292 DL_law_1294 DL_law_1295 DL_law_1296 DL_law_1301 J2 hk e2 hw2 (fun z => (J.ja f f2).trans (hj z)) (K D' T h2 _ _ _ J2 (by show b.1 ≤ b.1 - 4 - 0 + 60; omega) (by show b.2 ≤ b.2 - 24 - 0 + 1600; omega))
/-! pass -/
set_option maxRecDepth 100000 in
set_option maxHeartbeats 4000000 in
theorem lc_pass (G : GT) {D : WD} {S : SS} {A : Nat → Nat} {h : Hp} {m o i : Nat} {o5 o6 o7 o8 : Option Value} {b : Nat × Nat} (J : JI G h D m A S o) (hL : scL G ≤ 3584) (hi : i + 6 < scL G) (hb : 60 ≤ b.1 ∧ 1600 ≤ b.2)
    (K : ∀ D' T h' o5 o6 b', JI G h' D' m A T o → b.1 ≤ b'.1 + 60 → b.2 ≤ b'.2 + 1600 → WpL G 1743 [some (.ref (scB G)), some (.ref (D' 0 0)), some (.ref m), some (.ref o), some (.int (i32 i)), o5, o6, o7, o8] [] h' b') :
    WpL G 1304 [some (.ref (scB G)), some (.ref (D 0 0)), some (.ref m), some (.ref o), some (.int (i32 i)), o5, o6, o7, o8] [] h b := by
  have hW := J.1
  have hw := J.2.1
  have hI := J.2.2.1
  have ko := J.2.2.2.2.2.2.1
  have lo := J.2.2.2.2.2.2.2
  refine WpL.al DL_law_1304 rfl ?_
  refine WpL.sa (k := 1) hL (by omega) rfl rfl rfl DL_law_1305 DL_law_1306 DL_law_1308 DL_law_1309 DL_law_1310 ?_
  refine WpL.al DL_law_1311 rfl ?_
  refine WpL.cS (ce := ce_L_pass G D S) (As := [.ref (D 0 0), .int (scX G (i + 1)), .ref o]) (rest := []) DL_law_1312 (env_cons (ceS (by decide +kernel) ⟨by decide, by decide, by decide +kernel⟩ (by decide) (ok_L_pass G G D S hW)) envL) rfl (fun _ => rfl) (Nat.le_of_ble_eq_true rfl) (by show 8 ≤ b.1; omega) (by show 48 ≤ b.2; omega) (Nat.le_of_ble_eq_true rfl) ?_
  refine And.intro hI (And.intro hw (And.intro rfl (And.intro ko (And.intro lo (fun kk vv T hO h1 D' e f w hI' hj => ?_)))))
  obtain ⟨hk, hWF, hWW⟩ := wf_pass hW hw hO
  obtain ⟨hM1, hC1⟩ := J.md f
  show WpL G 1315 [some (.ref (scB G)), some (.ref (D 0 0)), some (.ref m), some (.ref o), some (.int (i32 i)), o5, o6, o7, o8] [.int (i32 kk)] h1 (b.1 - 8, b.2 - 48)
  refine WpL.is DL_law_1315 (by show 5 < 9; omega) ?_
  show WpL G 1317 [some (.ref (scB G)), some (.ref (D 0 0)), some (.ref m), some (.ref o), some (.int (i32 i)), some (.int (i32 kk)), o6, o7, o8] [] h1 (b.1 - 8, b.2 - 48)
  refine WpL.al DL_law_1317 rfl ?_
  refine WpL.sa (k := 1) hL (by omega) rfl rfl rfl DL_law_1318 DL_law_1319 DL_law_1321 DL_law_1322 DL_law_1323 ?_
  refine WpL.cV (x := 6) (ce := ce_X5_pass A S) (As := [.int (scX G (i + 1))]) (rest := []) DL_law_1324 (env_cons (ceV (by decide +kernel) ⟨by decide, by decide, by decide +kernel⟩ (by decide) rfl (ok_X5_pass G A S hW)) envL) rfl (fun _ => rfl) hM1.1.1 (by omega) rfl (Nat.le_of_ble_eq_true rfl) (by show 30 ≤ b.1 - 8; omega) (by show 1200 ≤ b.2 - 48; omega) (Nat.le_of_ble_eq_true rfl) ?_
  refine m_pass (QX := PXL) hW hw hM1 hC1 hO (fun h2 f2 e2 hM2 hC2 w2 hw2 => ?_)
  show WpL G 1327 [some (.ref (scB G)), some (.ref (D 0 0)), some (.ref m), some (.ref o), some (.int (i32 i)), some (.int (i32 kk)), o6, o7, o8] [.int w2] h2 (b.1 - 8 - 30, b.2 - 48 - 1200)
  refine Wp.emp (fun hE => ?_)
  have J2 := J.nx f w hI' hE f2 hM2 hC2 hWF hWW
  rw [← e]
  exact tl_law (q := 1327) envT DL_law_1327 DL_law_1329 DL_law_1330 DL_law_1333 DL_law_1335 DL_law_1340 DL_law_1342 DL_law_1345 DL_law_1346 DL_law_1347 DL_law_1348 DL_law_1350 DL_law_1351 DL_law_1352 DL_law_1357 J2 hk e2 hw2 (fun z => (J.ja f f2).trans (hj z)) (K D' T h2 _ _ _ J2 (by show b.1 ≤ b.1 - 8 - 30 + 60; omega) (by show b.2 ≤ b.2 - 48 - 1200 + 1600; omega))
/-! count -/
set_option maxRecDepth 100000 in
set_option maxHeartbeats 4000000 in
theorem lc_count (G : GT) {D : WD} {S : SS} {A : Nat → Nat} {h : Hp} {m o i : Nat} {o5 o6 o7 o8 : Option Value} {b : Nat × Nat} (J : JI G h D m A S o) (hL : scL G ≤ 3584) (hi : i + 6 < scL G) (hb : 60 ≤ b.1 ∧ 1600 ≤ b.2)
    (K : ∀ D' T h' o5 o6 b', JI G h' D' m A T o → b.1 ≤ b'.1 + 60 → b.2 ≤ b'.2 + 1600 → WpL G 1743 [some (.ref (scB G)), some (.ref (D' 0 0)), some (.ref m), some (.ref o), some (.int (i32 i)), o5, o6, o7, o8] [] h' b') :
    WpL G 1360 [some (.ref (scB G)), some (.ref (D 0 0)), some (.ref m), some (.ref o), some (.int (i32 i)), o5, o6, o7, o8] [] h b := by
  have hW := J.1
  have hw := J.2.1
  have hI := J.2.2.1
  have ko := J.2.2.2.2.2.2.1
  have lo := J.2.2.2.2.2.2.2
  refine WpL.al DL_law_1360 rfl ?_
  refine WpL.sa (k := 1) hL (by omega) rfl rfl rfl DL_law_1361 DL_law_1362 DL_law_1364 DL_law_1365 DL_law_1366 ?_
  refine WpL.al DL_law_1367 rfl ?_
  refine WpL.cS (ce := ce_L_count G D S) (As := [.ref (D 0 0), .int (scX G (i + 1)), .ref o]) (rest := []) DL_law_1368 (env_cons (ceS (by decide +kernel) ⟨by decide, by decide, by decide +kernel⟩ (by decide) (ok_L_count G G D S hW)) envL) rfl (fun _ => rfl) (Nat.le_of_ble_eq_true rfl) (by show 4 ≤ b.1; omega) (by show 24 ≤ b.2; omega) (Nat.le_of_ble_eq_true rfl) ?_
  refine And.intro hI (And.intro hw (And.intro rfl (And.intro ko (And.intro lo (fun kk vv T hO h1 D' e f w hI' hj => ?_)))))
  obtain ⟨hk, hWF, hWW⟩ := wf_count hW hw hO
  obtain ⟨hM1, hC1⟩ := J.md f
  show WpL G 1371 [some (.ref (scB G)), some (.ref (D 0 0)), some (.ref m), some (.ref o), some (.int (i32 i)), o5, o6, o7, o8] [.int (i32 kk)] h1 (b.1 - 4, b.2 - 24)
  refine WpL.is DL_law_1371 (by show 5 < 9; omega) ?_
  show WpL G 1373 [some (.ref (scB G)), some (.ref (D 0 0)), some (.ref m), some (.ref o), some (.int (i32 i)), some (.int (i32 kk)), o6, o7, o8] [] h1 (b.1 - 4, b.2 - 24)
  refine WpL.al DL_law_1373 rfl ?_
  refine WpL.sa (k := 1) hL (by omega) rfl rfl rfl DL_law_1374 DL_law_1375 DL_law_1377 DL_law_1378 DL_law_1379 ?_
  refine WpL.cV (x := 6) (ce := ce_X5_count A S) (As := [.int (scX G (i + 1))]) (rest := []) DL_law_1380 (env_cons (ceV (by decide +kernel) ⟨by decide, by decide, by decide +kernel⟩ (by decide) rfl (ok_X5_count G A S hW)) envL) rfl (fun _ => rfl) hM1.1.1 (by omega) rfl (Nat.le_of_ble_eq_true rfl) (by show 0 ≤ b.1 - 4; omega) (by show 0 ≤ b.2 - 24; omega) (Nat.le_of_ble_eq_true rfl) ?_
  refine m_count (QX := PXL) hW hw hM1 hC1 hO (fun h2 f2 e2 hM2 hC2 w2 hw2 => ?_)
  show WpL G 1383 [some (.ref (scB G)), some (.ref (D 0 0)), some (.ref m), some (.ref o), some (.int (i32 i)), some (.int (i32 kk)), o6, o7, o8] [.int w2] h2 (b.1 - 4 - 0, b.2 - 24 - 0)
  refine Wp.emp (fun hE => ?_)
  have J2 := J.nx f w hI' hE f2 hM2 hC2 hWF hWW
  rw [← e]
  exact tl_law (q := 1383) envT DL_law_1383 DL_law_1385 DL_law_1386 DL_law_1389 DL_law_1391 DL_law_1396 DL_law_1398 DL_law_1401 DL_law_1402 DL_law_1403 DL_law_1404 DL_law_1406 DL_law_1407 DL_law_1408 DL_law_1413 J2 hk e2 hw2 (fun z => (J.ja f f2).trans (hj z)) (K D' T h2 _ _ _ J2 (by show b.1 ≤ b.1 - 4 - 0 + 60; omega) (by show b.2 ≤ b.2 - 24 - 0 + 1600; omega))
/-! got -/
set_option maxRecDepth 100000 in
set_option maxHeartbeats 4000000 in
theorem lc_got (G : GT) {D : WD} {S : SS} {A : Nat → Nat} {h : Hp} {m o i : Nat} {o5 o6 o7 o8 : Option Value} {b : Nat × Nat} (J : JI G h D m A S o) (hL : scL G ≤ 3584) (hi : i + 6 < scL G) (hb : 60 ≤ b.1 ∧ 1600 ≤ b.2)
    (K : ∀ D' T h' o5 o6 b', JI G h' D' m A T o → b.1 ≤ b'.1 + 60 → b.2 ≤ b'.2 + 1600 → WpL G 1743 [some (.ref (scB G)), some (.ref (D' 0 0)), some (.ref m), some (.ref o), some (.int (i32 i)), o5, o6, o7, o8] [] h' b') :
    WpL G 1416 [some (.ref (scB G)), some (.ref (D 0 0)), some (.ref m), some (.ref o), some (.int (i32 i)), o5, o6, o7, o8] [] h b := by
  have hW := J.1
  have hw := J.2.1
  have hI := J.2.2.1
  have ko := J.2.2.2.2.2.2.1
  have lo := J.2.2.2.2.2.2.2
  refine WpL.al DL_law_1416 rfl ?_
  refine WpL.sa (k := 1) hL (by omega) rfl rfl rfl DL_law_1417 DL_law_1418 DL_law_1420 DL_law_1421 DL_law_1422 ?_
  refine WpL.al DL_law_1423 rfl ?_
  refine WpL.cS (ce := ce_L_got G D S) (As := [.ref (D 0 0), .int (scX G (i + 1)), .ref o]) (rest := []) DL_law_1424 (env_cons (ceS (by decide +kernel) ⟨by decide, by decide, by decide +kernel⟩ (by decide) (ok_L_got G G D S hW)) envL) rfl (fun _ => rfl) (Nat.le_of_ble_eq_true rfl) (by show 4 ≤ b.1; omega) (by show 24 ≤ b.2; omega) (Nat.le_of_ble_eq_true rfl) ?_
  refine And.intro hI (And.intro hw (And.intro rfl (And.intro ko (And.intro lo (fun kk vv T hO h1 D' e f w hI' hj => ?_)))))
  obtain ⟨hk, hWF, hWW⟩ := wf_got hW hw hO
  obtain ⟨hM1, hC1⟩ := J.md f
  show WpL G 1427 [some (.ref (scB G)), some (.ref (D 0 0)), some (.ref m), some (.ref o), some (.int (i32 i)), o5, o6, o7, o8] [.int (i32 kk)] h1 (b.1 - 4, b.2 - 24)
  refine WpL.is DL_law_1427 (by show 5 < 9; omega) ?_
  show WpL G 1429 [some (.ref (scB G)), some (.ref (D 0 0)), some (.ref m), some (.ref o), some (.int (i32 i)), some (.int (i32 kk)), o6, o7, o8] [] h1 (b.1 - 4, b.2 - 24)
  refine WpL.al DL_law_1429 rfl ?_
  refine WpL.sa (k := 1) hL (by omega) rfl rfl rfl DL_law_1430 DL_law_1431 DL_law_1433 DL_law_1434 DL_law_1435 ?_
  refine WpL.cV (x := 6) (ce := ce_X5_got A S) (As := [.int (scX G (i + 1))]) (rest := []) DL_law_1436 (env_cons (ceV (by decide +kernel) ⟨by decide, by decide, by decide +kernel⟩ (by decide) rfl (ok_X5_got G A S hW)) envL) rfl (fun _ => rfl) hM1.1.1 (by omega) rfl (Nat.le_of_ble_eq_true rfl) (by show 0 ≤ b.1 - 4; omega) (by show 0 ≤ b.2 - 24; omega) (Nat.le_of_ble_eq_true rfl) ?_
  refine m_got (QX := PXL) hW hw hM1 hC1 hO (fun h2 f2 e2 hM2 hC2 w2 hw2 => ?_)
  show WpL G 1439 [some (.ref (scB G)), some (.ref (D 0 0)), some (.ref m), some (.ref o), some (.int (i32 i)), some (.int (i32 kk)), o6, o7, o8] [.int w2] h2 (b.1 - 4 - 0, b.2 - 24 - 0)
  refine Wp.emp (fun hE => ?_)
  have J2 := J.nx f w hI' hE f2 hM2 hC2 hWF hWW
  rw [← e]
  exact tl_law (q := 1439) envT DL_law_1439 DL_law_1441 DL_law_1442 DL_law_1445 DL_law_1447 DL_law_1452 DL_law_1454 DL_law_1457 DL_law_1458 DL_law_1459 DL_law_1460 DL_law_1462 DL_law_1463 DL_law_1464 DL_law_1469 J2 hk e2 hw2 (fun z => (J.ja f f2).trans (hj z)) (K D' T h2 _ _ _ J2 (by show b.1 ≤ b.1 - 4 - 0 + 60; omega) (by show b.2 ≤ b.2 - 24 - 0 + 1600; omega))
/-! paid -/
set_option maxRecDepth 100000 in
set_option maxHeartbeats 4000000 in
theorem lc_paid (G : GT) {D : WD} {S : SS} {A : Nat → Nat} {h : Hp} {m o i : Nat} {o5 o6 o7 o8 : Option Value} {b : Nat × Nat} (J : JI G h D m A S o) (hL : scL G ≤ 3584) (hi : i + 6 < scL G) (hb : 60 ≤ b.1 ∧ 1600 ≤ b.2)
    (K : ∀ D' T h' o5 o6 b', JI G h' D' m A T o → b.1 ≤ b'.1 + 60 → b.2 ≤ b'.2 + 1600 → WpL G 1743 [some (.ref (scB G)), some (.ref (D' 0 0)), some (.ref m), some (.ref o), some (.int (i32 i)), o5, o6, o7, o8] [] h' b') :
    WpL G 1472 [some (.ref (scB G)), some (.ref (D 0 0)), some (.ref m), some (.ref o), some (.int (i32 i)), o5, o6, o7, o8] [] h b := by
  have hW := J.1
  have hw := J.2.1
  have hI := J.2.2.1
  have ko := J.2.2.2.2.2.2.1
  have lo := J.2.2.2.2.2.2.2
  refine WpL.al DL_law_1472 rfl ?_
  refine WpL.sa (k := 1) hL (by omega) rfl rfl rfl DL_law_1473 DL_law_1474 DL_law_1476 DL_law_1477 DL_law_1478 ?_
  refine WpL.al DL_law_1479 rfl ?_
  refine WpL.cS (ce := ce_L_paid G D S) (As := [.ref (D 0 0), .int (scX G (i + 1)), .ref o]) (rest := []) DL_law_1480 (env_cons (ceS (by decide +kernel) ⟨by decide, by decide, by decide +kernel⟩ (by decide) (ok_L_paid G G D S hW)) envL) rfl (fun _ => rfl) (Nat.le_of_ble_eq_true rfl) (by show 4 ≤ b.1; omega) (by show 24 ≤ b.2; omega) (Nat.le_of_ble_eq_true rfl) ?_
  refine And.intro hI (And.intro hw (And.intro rfl (And.intro ko (And.intro lo (fun kk vv T hO h1 D' e f w hI' hj => ?_)))))
  obtain ⟨hk, hWF, hWW⟩ := wf_paid hW hw hO
  obtain ⟨hM1, hC1⟩ := J.md f
  show WpL G 1483 [some (.ref (scB G)), some (.ref (D 0 0)), some (.ref m), some (.ref o), some (.int (i32 i)), o5, o6, o7, o8] [.int (i32 kk)] h1 (b.1 - 4, b.2 - 24)
  refine WpL.is DL_law_1483 (by show 5 < 9; omega) ?_
  show WpL G 1485 [some (.ref (scB G)), some (.ref (D 0 0)), some (.ref m), some (.ref o), some (.int (i32 i)), some (.int (i32 kk)), o6, o7, o8] [] h1 (b.1 - 4, b.2 - 24)
  refine WpL.al DL_law_1485 rfl ?_
  refine WpL.sa (k := 1) hL (by omega) rfl rfl rfl DL_law_1486 DL_law_1487 DL_law_1489 DL_law_1490 DL_law_1491 ?_
  refine WpL.cV (x := 6) (ce := ce_X5_paid A S) (As := [.int (scX G (i + 1))]) (rest := []) DL_law_1492 (env_cons (ceV (by decide +kernel) ⟨by decide, by decide, by decide +kernel⟩ (by decide) rfl (ok_X5_paid G A S hW)) envL) rfl (fun _ => rfl) hM1.1.1 (by omega) rfl (Nat.le_of_ble_eq_true rfl) (by show 0 ≤ b.1 - 4; omega) (by show 0 ≤ b.2 - 24; omega) (Nat.le_of_ble_eq_true rfl) ?_
  refine m_paid (QX := PXL) hW hw hM1 hC1 hO (fun h2 f2 e2 hM2 hC2 w2 hw2 => ?_)
  show WpL G 1495 [some (.ref (scB G)), some (.ref (D 0 0)), some (.ref m), some (.ref o), some (.int (i32 i)), some (.int (i32 kk)), o6, o7, o8] [.int w2] h2 (b.1 - 4 - 0, b.2 - 24 - 0)
  refine Wp.emp (fun hE => ?_)
  have J2 := J.nx f w hI' hE f2 hM2 hC2 hWF hWW
  rw [← e]
  exact tl_law (q := 1495) envT DL_law_1495 DL_law_1497 DL_law_1498 DL_law_1501 DL_law_1503 DL_law_1508 DL_law_1510 DL_law_1513 DL_law_1514 DL_law_1515 DL_law_1516 DL_law_1518 DL_law_1519 DL_law_1520 DL_law_1525 J2 hk e2 hw2 (fun z => (J.ja f f2).trans (hj z)) (K D' T h2 _ _ _ J2 (by show b.1 ≤ b.1 - 4 - 0 + 60; omega) (by show b.2 ≤ b.2 - 24 - 0 + 1600; omega))
/-! advise -/
set_option maxRecDepth 100000 in
set_option maxHeartbeats 4000000 in
theorem lc_advise (G : GT) {D : WD} {S : SS} {A : Nat → Nat} {h : Hp} {m o i : Nat} {o5 o6 o7 o8 : Option Value} {b : Nat × Nat} (J : JI G h D m A S o) (hL : scL G ≤ 3584) (hi : i + 6 < scL G) (hb : 60 ≤ b.1 ∧ 1600 ≤ b.2)
    (K : ∀ D' T h' o5 o6 b', JI G h' D' m A T o → b.1 ≤ b'.1 + 60 → b.2 ≤ b'.2 + 1600 → WpL G 1743 [some (.ref (scB G)), some (.ref (D' 0 0)), some (.ref m), some (.ref o), some (.int (i32 i)), o5, o6, o7, o8] [] h' b') :
    WpL G 1528 [some (.ref (scB G)), some (.ref (D 0 0)), some (.ref m), some (.ref o), some (.int (i32 i)), o5, o6, o7, o8] [] h b := by
  have hW := J.1
  have hw := J.2.1
  have hI := J.2.2.1
  have ko := J.2.2.2.2.2.2.1
  have lo := J.2.2.2.2.2.2.2
  refine WpL.al DL_law_1528 rfl ?_
  refine WpL.sa (k := 1) hL (by omega) rfl rfl rfl DL_law_1529 DL_law_1530 DL_law_1532 DL_law_1533 DL_law_1534 ?_
  refine WpL.sa (k := 2) hL (by omega) rfl rfl rfl DL_law_1535 DL_law_1536 DL_law_1538 DL_law_1539 DL_law_1540 ?_
  refine WpL.sa (k := 3) hL (by omega) rfl rfl rfl DL_law_1541 DL_law_1542 DL_law_1544 DL_law_1545 DL_law_1546 ?_
  refine WpL.sa (k := 4) hL (by omega) rfl rfl rfl DL_law_1547 DL_law_1548 DL_law_1550 DL_law_1551 DL_law_1552 ?_
  refine WpL.al DL_law_1553 rfl ?_
  refine WpL.cS (ce := ce_L_advise G D S) (As := [.ref (D 0 0), .int (scX G (i + 1)), .int (scX G (i + 2)), .int (scX G (i + 3)), .int (scX G (i + 4)), .ref o]) (rest := []) DL_law_1554 (env_cons (ceS (by decide +kernel) ⟨by decide, by decide, by decide +kernel⟩ (by decide) (ok_L_advise G G D S hW)) envL) rfl (fun _ => rfl) (Nat.le_of_ble_eq_true rfl) (by show 8 ≤ b.1; omega) (by show 48 ≤ b.2; omega) (Nat.le_of_ble_eq_true rfl) ?_
  refine And.intro hI (And.intro hw (And.intro rfl (And.intro ko (And.intro lo (fun kk vv T hO h1 D' e f w hI' hj => ?_)))))
  obtain ⟨hk, hWF, hWW⟩ := wf_advise hW hw hO
  obtain ⟨hM1, hC1⟩ := J.md f
  show WpL G 1557 [some (.ref (scB G)), some (.ref (D 0 0)), some (.ref m), some (.ref o), some (.int (i32 i)), o5, o6, o7, o8] [.int (i32 kk)] h1 (b.1 - 8, b.2 - 48)
  refine WpL.is DL_law_1557 (by show 5 < 9; omega) ?_
  show WpL G 1559 [some (.ref (scB G)), some (.ref (D 0 0)), some (.ref m), some (.ref o), some (.int (i32 i)), some (.int (i32 kk)), o6, o7, o8] [] h1 (b.1 - 8, b.2 - 48)
  refine WpL.al DL_law_1559 rfl ?_
  refine WpL.sa (k := 1) hL (by omega) rfl rfl rfl DL_law_1560 DL_law_1561 DL_law_1563 DL_law_1564 DL_law_1565 ?_
  refine WpL.sa (k := 2) hL (by omega) rfl rfl rfl DL_law_1566 DL_law_1567 DL_law_1569 DL_law_1570 DL_law_1571 ?_
  refine WpL.sa (k := 3) hL (by omega) rfl rfl rfl DL_law_1572 DL_law_1573 DL_law_1575 DL_law_1576 DL_law_1577 ?_
  refine WpL.sa (k := 4) hL (by omega) rfl rfl rfl DL_law_1578 DL_law_1579 DL_law_1581 DL_law_1582 DL_law_1583 ?_
  refine WpL.cV (x := 6) (ce := ce_X5_advise A S) (As := [.int (scX G (i + 1)), .int (scX G (i + 2)), .int (scX G (i + 3)), .int (scX G (i + 4))]) (rest := []) DL_law_1584 (env_cons (ceV (by decide +kernel) ⟨by decide, by decide, by decide +kernel⟩ (by decide) rfl (ok_X5_advise G A S hW)) envL) rfl (fun _ => rfl) hM1.1.1 (by omega) rfl (Nat.le_of_ble_eq_true rfl) (by show 0 ≤ b.1 - 8; omega) (by show 0 ≤ b.2 - 48; omega) (Nat.le_of_ble_eq_true rfl) ?_
  refine m_advise (QX := PXL) hW hw hM1 hC1 hO (fun h2 f2 e2 hM2 hC2 w2 hw2 => ?_)
  show WpL G 1587 [some (.ref (scB G)), some (.ref (D 0 0)), some (.ref m), some (.ref o), some (.int (i32 i)), some (.int (i32 kk)), o6, o7, o8] [.int w2] h2 (b.1 - 8 - 0, b.2 - 48 - 0)
  refine Wp.emp (fun hE => ?_)
  have J2 := J.nx f w hI' hE f2 hM2 hC2 hWF hWW
  rw [← e]
  exact tl_law (q := 1587) envT DL_law_1587 DL_law_1589 DL_law_1590 DL_law_1593 DL_law_1595 DL_law_1600 DL_law_1602 DL_law_1605 DL_law_1606 DL_law_1607 DL_law_1608 DL_law_1610 DL_law_1611 DL_law_1612 DL_law_1617 J2 hk e2 hw2 (fun z => (J.ja f f2).trans (hj z)) (K D' T h2 _ _ _ J2 (by show b.1 ≤ b.1 - 8 - 0 + 60; omega) (by show b.2 ≤ b.2 - 48 - 0 + 1600; omega))
/-! wouldGet -/
set_option maxRecDepth 100000 in
set_option maxHeartbeats 4000000 in
theorem lc_wouldGet (G : GT) {D : WD} {S : SS} {A : Nat → Nat} {h : Hp} {m o i : Nat} {o5 o6 o7 o8 : Option Value} {b : Nat × Nat} (J : JI G h D m A S o) (hL : scL G ≤ 3584) (hi : i + 6 < scL G) (hb : 60 ≤ b.1 ∧ 1600 ≤ b.2)
    (K : ∀ D' T h' o5 o6 b', JI G h' D' m A T o → b.1 ≤ b'.1 + 60 → b.2 ≤ b'.2 + 1600 → WpL G 1743 [some (.ref (scB G)), some (.ref (D' 0 0)), some (.ref m), some (.ref o), some (.int (i32 i)), o5, o6, o7, o8] [] h' b') :
    WpL G 1620 [some (.ref (scB G)), some (.ref (D 0 0)), some (.ref m), some (.ref o), some (.int (i32 i)), o5, o6, o7, o8] [] h b := by
  have hW := J.1
  have hw := J.2.1
  have hI := J.2.2.1
  have ko := J.2.2.2.2.2.2.1
  have lo := J.2.2.2.2.2.2.2
  refine WpL.al DL_law_1620 rfl ?_
  refine WpL.sa (k := 1) hL (by omega) rfl rfl rfl DL_law_1621 DL_law_1622 DL_law_1624 DL_law_1625 DL_law_1626 ?_
  refine WpL.sa (k := 2) hL (by omega) rfl rfl rfl DL_law_1627 DL_law_1628 DL_law_1630 DL_law_1631 DL_law_1632 ?_
  refine WpL.al DL_law_1633 rfl ?_
  refine WpL.cS (ce := ce_L_wouldGet G D S) (As := [.ref (D 0 0), .int (scX G (i + 1)), .int (scX G (i + 2)), .ref o]) (rest := []) DL_law_1634 (env_cons (ceS (by decide +kernel) ⟨by decide, by decide, by decide +kernel⟩ (by decide) (ok_L_wouldGet G G D S hW)) envL) rfl (fun _ => rfl) (Nat.le_of_ble_eq_true rfl) (by show 8 ≤ b.1; omega) (by show 48 ≤ b.2; omega) (Nat.le_of_ble_eq_true rfl) ?_
  refine And.intro hI (And.intro hw (And.intro rfl (And.intro ko (And.intro lo (fun kk vv T hO h1 D' e f w hI' hj => ?_)))))
  obtain ⟨hk, hWF, hWW⟩ := wf_wouldGet hW hw hO
  obtain ⟨hM1, hC1⟩ := J.md f
  show WpL G 1637 [some (.ref (scB G)), some (.ref (D 0 0)), some (.ref m), some (.ref o), some (.int (i32 i)), o5, o6, o7, o8] [.int (i32 kk)] h1 (b.1 - 8, b.2 - 48)
  refine WpL.is DL_law_1637 (by show 5 < 9; omega) ?_
  show WpL G 1639 [some (.ref (scB G)), some (.ref (D 0 0)), some (.ref m), some (.ref o), some (.int (i32 i)), some (.int (i32 kk)), o6, o7, o8] [] h1 (b.1 - 8, b.2 - 48)
  refine WpL.al DL_law_1639 rfl ?_
  refine WpL.sa (k := 1) hL (by omega) rfl rfl rfl DL_law_1640 DL_law_1641 DL_law_1643 DL_law_1644 DL_law_1645 ?_
  refine WpL.sa (k := 2) hL (by omega) rfl rfl rfl DL_law_1646 DL_law_1647 DL_law_1649 DL_law_1650 DL_law_1651 ?_
  refine WpL.cV (x := 6) (ce := ce_X5_wouldGet A S) (As := [.int (scX G (i + 1)), .int (scX G (i + 2))]) (rest := []) DL_law_1652 (env_cons (ceV (by decide +kernel) ⟨by decide, by decide, by decide +kernel⟩ (by decide) rfl (ok_X5_wouldGet G A S hW)) envL) rfl (fun _ => rfl) hM1.1.1 (by omega) rfl (Nat.le_of_ble_eq_true rfl) (by show 0 ≤ b.1 - 8; omega) (by show 0 ≤ b.2 - 48; omega) (Nat.le_of_ble_eq_true rfl) ?_
  refine m_wouldGet (QX := PXL) hW hw hM1 hC1 hO (fun h2 f2 e2 hM2 hC2 w2 hw2 => ?_)
  show WpL G 1655 [some (.ref (scB G)), some (.ref (D 0 0)), some (.ref m), some (.ref o), some (.int (i32 i)), some (.int (i32 kk)), o6, o7, o8] [.int w2] h2 (b.1 - 8 - 0, b.2 - 48 - 0)
  refine Wp.emp (fun hE => ?_)
  have J2 := J.nx f w hI' hE f2 hM2 hC2 hWF hWW
  rw [← e]
  exact tl_law (q := 1655) envT DL_law_1655 DL_law_1657 DL_law_1658 DL_law_1661 DL_law_1663 DL_law_1668 DL_law_1670 DL_law_1673 DL_law_1674 DL_law_1675 DL_law_1676 DL_law_1678 DL_law_1679 DL_law_1680 DL_law_1685 J2 hk e2 hw2 (fun z => (J.ja f f2).trans (hj z)) (K D' T h2 _ _ _ J2 (by show b.1 ≤ b.1 - 8 - 0 + 60; omega) (by show b.2 ≤ b.2 - 48 - 0 + 1600; omega))
