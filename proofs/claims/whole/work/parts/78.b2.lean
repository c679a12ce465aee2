/-! ===== the law: blocks ===== -/
set_option maxHeartbeats 4000000 in
set_option maxRecDepth 100000 in
theorem bk_least {Γ : gC} {b L x y o : Nat} {xs : Nat → Int32} (G : gOK Γ RL cL_law 12 601024 7293034) (X : gScr Γ b L xs) : gBlk Γ b L x y o 1328 := by
  intro S ad bb M j k sl w5 w6 w7 w8 h hr i hd h40 ho hj hL hk hs kk
  have hb := i.b
  first | refine g_aload_n G dL_law_1328 rfl ?_ | refine g_aload_nN G dL_law_1328 rfl ?_ | refine g_aload_nQ G dL_law_1328 rfl ?_
  first | refine g_aload_n G dL_law_1329 rfl ?_ | refine g_aload_nN G dL_law_1329 rfl ?_ | refine g_aload_nQ G dL_law_1329 rfl ?_
  refine g_iload G dL_law_1330 rfl ?_
  refine g_iconst (v := nI 1) G dL_law_1332 (by decide) ?_
  refine g_iadd G dL_law_1333 (nI_add _ _) ?_
  refine g_sld G X (j := 6 * j + 1) (by omega) (by omega) dL_law_1334 ?_
  first | refine g_aload_n G dL_law_1335 rfl ?_ | refine g_aload_nN G dL_law_1335 rfl ?_ | refine g_aload_nQ G dL_law_1335 rfl ?_
  refine g_iload G dL_law_1336 rfl ?_
  refine g_iconst (v := nI 2) G dL_law_1338 (by decide) ?_
  refine g_iadd G dL_law_1339 (nI_add _ _) ?_
  refine g_sld G X (j := 6 * j + 2) (by omega) (by omega) dL_law_1340 ?_
  first | refine g_aload_n G dL_law_1341 rfl ?_ | refine g_aload_nN G dL_law_1341 rfl ?_ | refine g_aload_nQ G dL_law_1341 rfl ?_
  refine g_iload G dL_law_1342 rfl ?_
  refine g_iconst (v := nI 3) G dL_law_1344 (by decide) ?_
  refine g_iadd G dL_law_1345 (nI_add _ _) ?_
  refine g_sld G X (j := 6 * j + 3) (by omega) (by omega) dL_law_1346 ?_
  first | refine g_aload_n G dL_law_1347 rfl ?_ | refine g_aload_nN G dL_law_1347 rfl ?_ | refine g_aload_nQ G dL_law_1347 rfl ?_
  refine g_callSW G (c_L_least h.1.1 (c_X7_least _ S x ad M h (fun c hc => i.s hc) (xs (6 * j + 1)) (xs (6 * j + 2)) (xs (6 * j + 3))) (fun v S1 z => by obtain ⟨q, M9, rfl, ⟨ad9, -, F⟩, -⟩ := (ag_least (y := y) h i hd h40 (xs (6 * j + 1)) (xs (6 * j + 2)) (xs (6 * j + 3))).1 v S1 z; exact ⟨⟨q, rfl⟩, ho.fr F⟩) (fun E S1 z => by obtain ⟨-, -, c, t, hc, -⟩ := (ag_least (y := y) h i hd h40 (xs (6 * j + 1)) (xs (6 * j + 2)) (xs (6 * j + 3))).2 E S1 z; simp only [List.mem_cons, Prod.mk.injEq, List.not_mem_nil, or_false] at hc; exact hc.imp And.left And.left)) mw_L_least ms_L_least ml_L_184 (by omega) (by omega) (by omega) rfl (Nat.le_of_ble_eq_true rfl) dL_law_1348 (fun v S1 hp => ?_)
  rcases hp with ⟨q, S2, hP, rfl, rfl⟩ | ⟨E, c9, hX, hc, rfl⟩
  · obtain ⟨q9, M9, e9, ⟨ad9, hm, F⟩, ⟨ok, hwt⟩, hR⟩ := (ag_least (y := y) h i hd h40 (xs (6 * j + 1)) (xs (6 * j + 2)) (xs (6 * j + 3))).1 _ _ hP
    obtain rfl : q = q9 := by cases e9; rfl
    have hr3 := gRef_18 (gRef_cls hr F) (gFr_18 (o := o) (v := q.toInt64))
    have hm3 := gMail_18 hm (gFr_18 (o := o) (v := q.toInt64))
    have ho3 := (ho.fr F).fr (gFr_18 (o := o) (v := q.toInt64))
    obtain ⟨m1, m2, hm1, hm2, ct⟩ := hR _ _ hr3
    simp only [Option.toList, List.cons_append, List.nil_append]
    refine g_istore G dL_law_1351 (gSt_5 (by first | rfl | exact g_c1_rf)) ?_
    first | refine g_aload_n G dL_law_1353 rfl ?_ | refine g_aload_nN G dL_law_1353 rfl ?_ | refine g_aload_nQ G dL_law_1353 rfl ?_
    first | refine g_aload_n G dL_law_1354 rfl ?_ | refine g_aload_nN G dL_law_1354 rfl ?_ | refine g_aload_nQ G dL_law_1354 rfl ?_
    refine g_iload G dL_law_1355 rfl ?_
    refine g_iconst (v := nI 1) G dL_law_1357 (by decide) ?_
    refine g_iadd G dL_law_1358 (nI_add _ _) ?_
    refine g_sld G X (j := 6 * j + 1) (by omega) (by omega) dL_law_1359 ?_
    first | refine g_aload_n G dL_law_1360 rfl ?_ | refine g_aload_nN G dL_law_1360 rfl ?_ | refine g_aload_nQ G dL_law_1360 rfl ?_
    refine g_iload G dL_law_1361 rfl ?_
    refine g_iconst (v := nI 2) G dL_law_1363 (by decide) ?_
    refine g_iadd G dL_law_1364 (nI_add _ _) ?_
    refine g_sld G X (j := 6 * j + 2) (by omega) (by omega) dL_law_1365 ?_
    first | refine g_aload_n G dL_law_1366 rfl ?_ | refine g_aload_nN G dL_law_1366 rfl ?_ | refine g_aload_nQ G dL_law_1366 rfl ?_
    refine g_iload G dL_law_1367 rfl ?_
    refine g_iconst (v := nI 3) G dL_law_1369 (by decide) ?_
    refine g_iadd G dL_law_1370 (nI_add _ _) ?_
    refine g_sld G X (j := 6 * j + 3) (by omega) (by omega) dL_law_1371 ?_
    refine g_callV (ci := 10) G ct mt_X9_least mi_X9_least ml_L_186 hr3.1.kd (by decide) rfl (by omega) (by omega) (by omega) rfl (Nat.le_of_ble_eq_true rfl) dL_law_1372 (fun v4 S4 hp4 => ?_)
    obtain ⟨rfl, t4, b4, hr4, F4⟩ := hp4
    simp only [Option.toList, List.cons_append, List.nil_append]
    refine g_istore G dL_law_1375 (gSt_6 (by first | rfl | exact g_c1_rf)) ?_
    first | refine g_aload_n G dL_law_1377 rfl ?_ | refine g_aload_nN G dL_law_1377 rfl ?_ | refine g_aload_nQ G dL_law_1377 rfl ?_
    refine g_callVp (ci := 10) G (c_X9_thrown _ S4 y (nI 0) hr4.1.kd t4) mt_X9_thrown mi_X9_thrown ml_L_127 hr4.1.kd (by decide) rfl (by omega) (by omega) (by omega) rfl (Nat.le_of_ble_eq_true rfl) dL_law_1378 ?_
    refine g_iload G dL_law_1381 rfl ?_
    refine g_icmp_eq (tgt := 1388) G dL_law_1383 (by decide) (fun _ => ?_) (fun z => absurd rfl z)
    refine g_iload G dL_law_1388 rfl ?_
    refine g_if_ne (tgt := 1405) G dL_law_1390 (by decide) (fun z => absurd nI_0 z) (fun _ => ?_)
    have ho4 := ho3.fr F4
    first | refine g_aload_n G dL_law_1393 rfl ?_ | refine g_aload_nN G dL_law_1393 rfl ?_ | refine g_aload_nQ G dL_law_1393 rfl ?_
    refine g_iconst (v := nI 0) G dL_law_1394 (by decide) ?_
    refine g_lald G ho4.1 (by decide) (by rw [ho4.2]; omega) (by omega) (gOut_Z F4) dL_law_1395 ?_
    refine g_iload G dL_law_1396 rfl ?_
    refine g_i2l G dL_law_1398 (rfl) ?_
    refine g_lcmp G dL_law_1399 ?_
    refine g_if_eq (tgt := 1405) G dL_law_1400 (by decide) (fun _ => ?_) (fun z => absurd (lg_cmp_s _) z)
    refine g_goto (tgt := 2423) G dL_law_1405 (by decide) ?_
    exact gW.wid (by omega) (by omega) (kk S4 ad9 b4 M9 _ _ _ _ (gMail_ref hm3 F4) hr4 ok ho4)
  · obtain ⟨rfl, w0, c8, t, hc8, rfl, ht1, ht3, hR⟩ := (ag_least (y := y) h i hd h40 (xs (6 * j + 1)) (xs (6 * j + 2)) (xs (6 * j + 3))).2 _ _ hX
    obtain rfl : c9 = nI t := gKey_one (by decide) hc hc8
    obtain ⟨v8, m1, m2, hm1, hm2, ct⟩ := hR _ _ hr
    simp only [Option.toList, List.cons_append, List.nil_append]
    refine g_istore G dL_law_1351 (gSt_5 (by first | rfl | exact g_c1_rf)) ?_
    first | refine g_aload_n G dL_law_1353 rfl ?_ | refine g_aload_nN G dL_law_1353 rfl ?_ | refine g_aload_nQ G dL_law_1353 rfl ?_
    first | refine g_aload_n G dL_law_1354 rfl ?_ | refine g_aload_nN G dL_law_1354 rfl ?_ | refine g_aload_nQ G dL_law_1354 rfl ?_
    refine g_iload G dL_law_1355 rfl ?_
    refine g_iconst (v := nI 1) G dL_law_1357 (by decide) ?_
    refine g_iadd G dL_law_1358 (nI_add _ _) ?_
    refine g_sld G X (j := 6 * j + 1) (by omega) (by omega) dL_law_1359 ?_
    first | refine g_aload_n G dL_law_1360 rfl ?_ | refine g_aload_nN G dL_law_1360 rfl ?_ | refine g_aload_nQ G dL_law_1360 rfl ?_
    refine g_iload G dL_law_1361 rfl ?_
    refine g_iconst (v := nI 2) G dL_law_1363 (by decide) ?_
    refine g_iadd G dL_law_1364 (nI_add _ _) ?_
    refine g_sld G X (j := 6 * j + 2) (by omega) (by omega) dL_law_1365 ?_
    first | refine g_aload_n G dL_law_1366 rfl ?_ | refine g_aload_nN G dL_law_1366 rfl ?_ | refine g_aload_nQ G dL_law_1366 rfl ?_
    refine g_iload G dL_law_1367 rfl ?_
    refine g_iconst (v := nI 3) G dL_law_1369 (by decide) ?_
    refine g_iadd G dL_law_1370 (nI_add _ _) ?_
    refine g_sld G X (j := 6 * j + 3) (by omega) (by omega) dL_law_1371 ?_
    refine g_callV (ci := 10) G ct mt_X9_least mi_X9_least ml_L_186 hr.1.kd (by decide) rfl (by omega) (by omega) (by omega) rfl (Nat.le_of_ble_eq_true rfl) dL_law_1372 (fun v4 S4 hp4 => ?_)
    obtain ⟨rfl, t4, b4, hr4, F4⟩ := hp4
    simp only [Option.toList, List.cons_append, List.nil_append]
    refine g_istore G dL_law_1375 (gSt_6 (by first | rfl | exact g_c1_rf)) ?_
    first | refine g_aload_n G dL_law_1377 rfl ?_ | refine g_aload_nN G dL_law_1377 rfl ?_ | refine g_aload_nQ G dL_law_1377 rfl ?_
    refine g_callVp (ci := 10) G (c_X9_thrown _ S4 y (nI t) hr4.1.kd t4) mt_X9_thrown mi_X9_thrown ml_L_127 hr4.1.kd (by decide) rfl (by omega) (by omega) (by omega) rfl (Nat.le_of_ble_eq_true rfl) dL_law_1378 ?_
    refine g_iload G dL_law_1381 rfl ?_
    refine g_icmp_eq (tgt := 1388) G dL_law_1383 (by decide) (fun _ => ?_) (fun z => absurd rfl z)
    refine g_iload G dL_law_1388 rfl ?_
    refine g_if_ne (tgt := 1405) G dL_law_1390 (by decide) (fun _ => ?_) (fun z => absurd z (nI_ne0 (by omega) (by omega)))
    refine g_goto (tgt := 2423) G dL_law_1405 (by decide) ?_
    exact gW.wid (by omega) (by omega) (kk S4 ad b4 M _ _ _ _ (gMail_ref h F4) hr4 (gOk_rf i hd) (ho.fr F4))
set_option maxHeartbeats 4000000 in
set_option maxRecDepth 100000 in
theorem bk_lend {Γ : gC} {b L x y o : Nat} {xs : Nat → Int32} (G : gOK Γ RL cL_law 12 601024 7293034) (X : gScr Γ b L xs) : gBlk Γ b L x y o 1408 := by
  intro S ad bb M j k sl w5 w6 w7 w8 h hr i hd h40 ho hj hL hk hs kk
  have hb := i.b
  first | refine g_aload_n G dL_law_1408 rfl ?_ | refine g_aload_nN G dL_law_1408 rfl ?_ | refine g_aload_nQ G dL_law_1408 rfl ?_
  first | refine g_aload_n G dL_law_1409 rfl ?_ | refine g_aload_nN G dL_law_1409 rfl ?_ | refine g_aload_nQ G dL_law_1409 rfl ?_
  refine g_iload G dL_law_1410 rfl ?_
  refine g_iconst (v := nI 1) G dL_law_1412 (by decide) ?_
  refine g_iadd G dL_law_1413 (nI_add _ _) ?_
  refine g_sld G X (j := 6 * j + 1) (by omega) (by omega) dL_law_1414 ?_
  first | refine g_aload_n G dL_law_1415 rfl ?_ | refine g_aload_nN G dL_law_1415 rfl ?_ | refine g_aload_nQ G dL_law_1415 rfl ?_
  refine g_iload G dL_law_1416 rfl ?_
  refine g_iconst (v := nI 2) G dL_law_1418 (by decide) ?_
  refine g_iadd G dL_law_1419 (nI_add _ _) ?_
  refine g_sld G X (j := 6 * j + 2) (by omega) (by omega) dL_law_1420 ?_
  first | refine g_aload_n G dL_law_1421 rfl ?_ | refine g_aload_nN G dL_law_1421 rfl ?_ | refine g_aload_nQ G dL_law_1421 rfl ?_
  refine g_iload G dL_law_1422 rfl ?_
  refine g_iconst (v := nI 3) G dL_law_1424 (by decide) ?_
  refine g_iadd G dL_law_1425 (nI_add _ _) ?_
  refine g_sld G X (j := 6 * j + 3) (by omega) (by omega) dL_law_1426 ?_
  first | refine g_aload_n G dL_law_1427 rfl ?_ | refine g_aload_nN G dL_law_1427 rfl ?_ | refine g_aload_nQ G dL_law_1427 rfl ?_
  refine g_callSW G (c_L_lend h.1.1 (c_X7_lend _ S x ad M h (xs (6 * j + 1)) (xs (6 * j + 2)) (xs (6 * j + 3))) (fun v S1 z => by obtain ⟨q, M9, rfl, ⟨ad9, -, F⟩, -⟩ := (ag_lend (y := y) h i hd h40 (xs (6 * j + 1)) (xs (6 * j + 2)) (xs (6 * j + 3))).1 v S1 z; exact ⟨⟨q, rfl⟩, ho.fr F⟩) (fun E S1 z => by obtain ⟨-, -, c, t, hc, -⟩ := (ag_lend (y := y) h i hd h40 (xs (6 * j + 1)) (xs (6 * j + 2)) (xs (6 * j + 3))).2 E S1 z; simp only [List.mem_cons, Prod.mk.injEq, List.not_mem_nil, or_false] at hc; exact hc.imp And.left (Or.imp And.left And.left))) mw_L_lend ms_L_lend ml_L_187 (by omega) (by omega) (by omega) rfl (Nat.le_of_ble_eq_true rfl) dL_law_1428 (fun v S1 hp => ?_)
  rcases hp with ⟨q, S2, hP, rfl, rfl⟩ | ⟨E, c9, hX, hc, rfl⟩
  · obtain ⟨q9, M9, e9, ⟨ad9, hm, F⟩, ⟨ok, hwt⟩, hR⟩ := (ag_lend (y := y) h i hd h40 (xs (6 * j + 1)) (xs (6 * j + 2)) (xs (6 * j + 3))).1 _ _ hP
    obtain rfl : q = q9 := by cases e9; rfl
    have hr3 := gRef_18 (gRef_cls hr F) (gFr_18 (o := o) (v := q.toInt64))
    have hm3 := gMail_18 hm (gFr_18 (o := o) (v := q.toInt64))
    have ho3 := (ho.fr F).fr (gFr_18 (o := o) (v := q.toInt64))
    obtain ⟨m1, m2, hm1, hm2, ct⟩ := hR _ _ hr3
    simp only [Option.toList, List.cons_append, List.nil_append]
    refine g_istore G dL_law_1431 (gSt_5 (by first | rfl | exact g_c1_rf)) ?_
    first | refine g_aload_n G dL_law_1433 rfl ?_ | refine g_aload_nN G dL_law_1433 rfl ?_ | refine g_aload_nQ G dL_law_1433 rfl ?_
    first | refine g_aload_n G dL_law_1434 rfl ?_ | refine g_aload_nN G dL_law_1434 rfl ?_ | refine g_aload_nQ G dL_law_1434 rfl ?_
    refine g_iload G dL_law_1435 rfl ?_
    refine g_iconst (v := nI 1) G dL_law_1437 (by decide) ?_
    refine g_iadd G dL_law_1438 (nI_add _ _) ?_
    refine g_sld G X (j := 6 * j + 1) (by omega) (by omega) dL_law_1439 ?_
    first | refine g_aload_n G dL_law_1440 rfl ?_ | refine g_aload_nN G dL_law_1440 rfl ?_ | refine g_aload_nQ G dL_law_1440 rfl ?_
    refine g_iload G dL_law_1441 rfl ?_
    refine g_iconst (v := nI 2) G dL_law_1443 (by decide) ?_
    refine g_iadd G dL_law_1444 (nI_add _ _) ?_
    refine g_sld G X (j := 6 * j + 2) (by omega) (by omega) dL_law_1445 ?_
    first | refine g_aload_n G dL_law_1446 rfl ?_ | refine g_aload_nN G dL_law_1446 rfl ?_ | refine g_aload_nQ G dL_law_1446 rfl ?_
    refine g_iload G dL_law_1447 rfl ?_
    refine g_iconst (v := nI 3) G dL_law_1449 (by decide) ?_
    refine g_iadd G dL_law_1450 (nI_add _ _) ?_
    refine g_sld G X (j := 6 * j + 3) (by omega) (by omega) dL_law_1451 ?_
    refine g_callV (ci := 10) G ct mt_X9_lend mi_X9_lend ml_L_189 hr3.1.kd (by decide) rfl (by omega) (by omega) (by omega) rfl (Nat.le_of_ble_eq_true rfl) dL_law_1452 (fun v4 S4 hp4 => ?_)
    obtain ⟨rfl, t4, b4, hr4, F4⟩ := hp4
    simp only [Option.toList, List.cons_append, List.nil_append]
    refine g_istore G dL_law_1455 (gSt_6 (by first | rfl | exact g_c1_rf)) ?_
    first | refine g_aload_n G dL_law_1457 rfl ?_ | refine g_aload_nN G dL_law_1457 rfl ?_ | refine g_aload_nQ G dL_law_1457 rfl ?_
    refine g_callVp (ci := 10) G (c_X9_thrown _ S4 y (nI 0) hr4.1.kd t4) mt_X9_thrown mi_X9_thrown ml_L_127 hr4.1.kd (by decide) rfl (by omega) (by omega) (by omega) rfl (Nat.le_of_ble_eq_true rfl) dL_law_1458 ?_
    refine g_iload G dL_law_1461 rfl ?_
    refine g_icmp_eq (tgt := 1468) G dL_law_1463 (by decide) (fun _ => ?_) (fun z => absurd rfl z)
    refine g_iload G dL_law_1468 rfl ?_
    refine g_if_ne (tgt := 1485) G dL_law_1470 (by decide) (fun z => absurd nI_0 z) (fun _ => ?_)
    have ho4 := ho3.fr F4
    first | refine g_aload_n G dL_law_1473 rfl ?_ | refine g_aload_nN G dL_law_1473 rfl ?_ | refine g_aload_nQ G dL_law_1473 rfl ?_
    refine g_iconst (v := nI 0) G dL_law_1474 (by decide) ?_
    refine g_lald G ho4.1 (by decide) (by rw [ho4.2]; omega) (by omega) (gOut_Z F4) dL_law_1475 ?_
    refine g_iload G dL_law_1476 rfl ?_
    refine g_i2l G dL_law_1478 (rfl) ?_
    refine g_lcmp G dL_law_1479 ?_
    refine g_if_eq (tgt := 1485) G dL_law_1480 (by decide) (fun _ => ?_) (fun z => absurd (lg_cmp_s _) z)
    refine g_goto (tgt := 2423) G dL_law_1485 (by decide) ?_
    exact gW.wid (by omega) (by omega) (kk S4 ad9 b4 M9 _ _ _ _ (gMail_ref hm3 F4) hr4 ok ho4)
  · obtain ⟨rfl, w0, c8, t, hc8, rfl, ht1, ht3, hR⟩ := (ag_lend (y := y) h i hd h40 (xs (6 * j + 1)) (xs (6 * j + 2)) (xs (6 * j + 3))).2 _ _ hX
    obtain rfl : c9 = nI t := gKey_one (by decide) hc hc8
    obtain ⟨v8, m1, m2, hm1, hm2, ct⟩ := hR _ _ hr
    simp only [Option.toList, List.cons_append, List.nil_append]
    refine g_istore G dL_law_1431 (gSt_5 (by first | rfl | exact g_c1_rf)) ?_
    first | refine g_aload_n G dL_law_1433 rfl ?_ | refine g_aload_nN G dL_law_1433 rfl ?_ | refine g_aload_nQ G dL_law_1433 rfl ?_
    first | refine g_aload_n G dL_law_1434 rfl ?_ | refine g_aload_nN G dL_law_1434 rfl ?_ | refine g_aload_nQ G dL_law_1434 rfl ?_
    refine g_iload G dL_law_1435 rfl ?_
    refine g_iconst (v := nI 1) G dL_law_1437 (by decide) ?_
    refine g_iadd G dL_law_1438 (nI_add _ _) ?_
    refine g_sld G X (j := 6 * j + 1) (by omega) (by omega) dL_law_1439 ?_
    first | refine g_aload_n G dL_law_1440 rfl ?_ | refine g_aload_nN G dL_law_1440 rfl ?_ | refine g_aload_nQ G dL_law_1440 rfl ?_
    refine g_iload G dL_law_1441 rfl ?_
    refine g_iconst (v := nI 2) G dL_law_1443 (by decide) ?_
    refine g_iadd G dL_law_1444 (nI_add _ _) ?_
    refine g_sld G X (j := 6 * j + 2) (by omega) (by omega) dL_law_1445 ?_
    first | refine g_aload_n G dL_law_1446 rfl ?_ | refine g_aload_nN G dL_law_1446 rfl ?_ | refine g_aload_nQ G dL_law_1446 rfl ?_
    refine g_iload G dL_law_1447 rfl ?_
    refine g_iconst (v := nI 3) G dL_law_1449 (by decide) ?_
    refine g_iadd G dL_law_1450 (nI_add _ _) ?_
    refine g_sld G X (j := 6 * j + 3) (by omega) (by omega) dL_law_1451 ?_
    refine g_callV (ci := 10) G ct mt_X9_lend mi_X9_lend ml_L_189 hr.1.kd (by decide) rfl (by omega) (by omega) (by omega) rfl (Nat.le_of_ble_eq_true rfl) dL_law_1452 (fun v4 S4 hp4 => ?_)
    obtain ⟨rfl, t4, b4, hr4, F4⟩ := hp4
    simp only [Option.toList, List.cons_append, List.nil_append]
    refine g_istore G dL_law_1455 (gSt_6 (by first | rfl | exact g_c1_rf)) ?_
    first | refine g_aload_n G dL_law_1457 rfl ?_ | refine g_aload_nN G dL_law_1457 rfl ?_ | refine g_aload_nQ G dL_law_1457 rfl ?_
    refine g_callVp (ci := 10) G (c_X9_thrown _ S4 y (nI t) hr4.1.kd t4) mt_X9_thrown mi_X9_thrown ml_L_127 hr4.1.kd (by decide) rfl (by omega) (by omega) (by omega) rfl (Nat.le_of_ble_eq_true rfl) dL_law_1458 ?_
    refine g_iload G dL_law_1461 rfl ?_
    refine g_icmp_eq (tgt := 1468) G dL_law_1463 (by decide) (fun _ => ?_) (fun z => absurd rfl z)
    refine g_iload G dL_law_1468 rfl ?_
    refine g_if_ne (tgt := 1485) G dL_law_1470 (by decide) (fun _ => ?_) (fun z => absurd z (nI_ne0 (by omega) (by omega)))
    refine g_goto (tgt := 2423) G dL_law_1485 (by decide) ?_
    exact gW.wid (by omega) (by omega) (kk S4 ad b4 M _ _ _ _ (gMail_ref h F4) hr4 (gOk_rf i hd) (ho.fr F4))
set_option maxHeartbeats 4000000 in
set_option maxRecDepth 100000 in
theorem bk_back {Γ : gC} {b L x y o : Nat} {xs : Nat → Int32} (G : gOK Γ RL cL_law 12 601024 7293034) (X : gScr Γ b L xs) : gBlk Γ b L x y o 1488 := by
  intro S ad bb M j k sl w5 w6 w7 w8 h hr i hd h40 ho hj hL hk hs kk
  have hb := i.b
  first | refine g_aload_n G dL_law_1488 rfl ?_ | refine g_aload_nN G dL_law_1488 rfl ?_ | refine g_aload_nQ G dL_law_1488 rfl ?_
  first | refine g_aload_n G dL_law_1489 rfl ?_ | refine g_aload_nN G dL_law_1489 rfl ?_ | refine g_aload_nQ G dL_law_1489 rfl ?_
  refine g_iload G dL_law_1490 rfl ?_
  refine g_iconst (v := nI 1) G dL_law_1492 (by decide) ?_
  refine g_iadd G dL_law_1493 (nI_add _ _) ?_
  refine g_sld G X (j := 6 * j + 1) (by omega) (by omega) dL_law_1494 ?_
  first | refine g_aload_n G dL_law_1495 rfl ?_ | refine g_aload_nN G dL_law_1495 rfl ?_ | refine g_aload_nQ G dL_law_1495 rfl ?_
  refine g_callSW G (c_L_back h.1.1 (c_X7_back _ S x ad M h (xs (6 * j + 1))) (fun v S1 z => by obtain ⟨q, M9, rfl, ⟨ad9, -, F⟩, -⟩ := (ag_back (y := y) h i hd h40 (xs (6 * j + 1))).1 v S1 z; exact ⟨⟨q, rfl⟩, ho.fr F⟩) (fun E S1 z => by obtain ⟨-, -, c, t, hc, -⟩ := (ag_back (y := y) h i hd h40 (xs (6 * j + 1))).2 E S1 z; simp only [List.mem_cons, Prod.mk.injEq, List.not_mem_nil, or_false] at hc; exact hc.1)) mw_L_back ms_L_back ml_L_190 (by omega) (by omega) (by omega) rfl (Nat.le_of_ble_eq_true rfl) dL_law_1496 (fun v S1 hp => ?_)
  rcases hp with ⟨q, S2, hP, rfl, rfl⟩ | ⟨E, c9, hX, hc, rfl⟩
  · obtain ⟨q9, M9, e9, ⟨ad9, hm, F⟩, ⟨ok, hwt⟩, hR⟩ := (ag_back (y := y) h i hd h40 (xs (6 * j + 1))).1 _ _ hP
    obtain rfl : q = q9 := by cases e9; rfl
    have hr3 := gRef_18 (gRef_cls hr F) (gFr_18 (o := o) (v := q.toInt64))
    have hm3 := gMail_18 hm (gFr_18 (o := o) (v := q.toInt64))
    have ho3 := (ho.fr F).fr (gFr_18 (o := o) (v := q.toInt64))
    obtain ⟨m1, m2, hm1, hm2, ct⟩ := hR _ _ hr3
    simp only [Option.toList, List.cons_append, List.nil_append]
    refine g_istore G dL_law_1499 (gSt_5 (by first | rfl | exact g_c1_rf)) ?_
    first | refine g_aload_n G dL_law_1501 rfl ?_ | refine g_aload_nN G dL_law_1501 rfl ?_ | refine g_aload_nQ G dL_law_1501 rfl ?_
    first | refine g_aload_n G dL_law_1502 rfl ?_ | refine g_aload_nN G dL_law_1502 rfl ?_ | refine g_aload_nQ G dL_law_1502 rfl ?_
    refine g_iload G dL_law_1503 rfl ?_
    refine g_iconst (v := nI 1) G dL_law_1505 (by decide) ?_
    refine g_iadd G dL_law_1506 (nI_add _ _) ?_
    refine g_sld G X (j := 6 * j + 1) (by omega) (by omega) dL_law_1507 ?_
    refine g_callV (ci := 10) G ct mt_X9_back mi_X9_back ml_L_192 hr3.1.kd (by decide) rfl (by omega) (by omega) (by omega) rfl (Nat.le_of_ble_eq_true rfl) dL_law_1508 (fun v4 S4 hp4 => ?_)
    obtain ⟨rfl, t4, b4, hr4, F4⟩ := hp4
    simp only [Option.toList, List.cons_append, List.nil_append]
    refine g_istore G dL_law_1511 (gSt_6 (by first | rfl | exact g_c1_rf)) ?_
    first | refine g_aload_n G dL_law_1513 rfl ?_ | refine g_aload_nN G dL_law_1513 rfl ?_ | refine g_aload_nQ G dL_law_1513 rfl ?_
    refine g_callVp (ci := 10) G (c_X9_thrown _ S4 y (nI 0) hr4.1.kd t4) mt_X9_thrown mi_X9_thrown ml_L_127 hr4.1.kd (by decide) rfl (by omega) (by omega) (by omega) rfl (Nat.le_of_ble_eq_true rfl) dL_law_1514 ?_
    refine g_iload G dL_law_1517 rfl ?_
    refine g_icmp_eq (tgt := 1524) G dL_law_1519 (by decide) (fun _ => ?_) (fun z => absurd rfl z)
    refine g_iload G dL_law_1524 rfl ?_
    refine g_if_ne (tgt := 1541) G dL_law_1526 (by decide) (fun z => absurd nI_0 z) (fun _ => ?_)
    have ho4 := ho3.fr F4
    first | refine g_aload_n G dL_law_1529 rfl ?_ | refine g_aload_nN G dL_law_1529 rfl ?_ | refine g_aload_nQ G dL_law_1529 rfl ?_
    refine g_iconst (v := nI 0) G dL_law_1530 (by decide) ?_
    refine g_lald G ho4.1 (by decide) (by rw [ho4.2]; omega) (by omega) (gOut_Z F4) dL_law_1531 ?_
    refine g_iload G dL_law_1532 rfl ?_
    refine g_i2l G dL_law_1534 (rfl) ?_
    refine g_lcmp G dL_law_1535 ?_
    refine g_if_eq (tgt := 1541) G dL_law_1536 (by decide) (fun _ => ?_) (fun z => absurd (lg_cmp_s _) z)
    refine g_goto (tgt := 2423) G dL_law_1541 (by decide) ?_
    exact gW.wid (by omega) (by omega) (kk S4 ad9 b4 M9 _ _ _ _ (gMail_ref hm3 F4) hr4 ok ho4)
  · obtain ⟨rfl, w0, c8, t, hc8, rfl, ht1, ht3, hR⟩ := (ag_back (y := y) h i hd h40 (xs (6 * j + 1))).2 _ _ hX
    obtain rfl : c9 = nI t := gKey_one (by decide) hc hc8
    obtain ⟨v8, m1, m2, hm1, hm2, ct⟩ := hR _ _ hr
    simp only [Option.toList, List.cons_append, List.nil_append]
    refine g_istore G dL_law_1499 (gSt_5 (by first | rfl | exact g_c1_rf)) ?_
    first | refine g_aload_n G dL_law_1501 rfl ?_ | refine g_aload_nN G dL_law_1501 rfl ?_ | refine g_aload_nQ G dL_law_1501 rfl ?_
    first | refine g_aload_n G dL_law_1502 rfl ?_ | refine g_aload_nN G dL_law_1502 rfl ?_ | refine g_aload_nQ G dL_law_1502 rfl ?_
    refine g_iload G dL_law_1503 rfl ?_
    refine g_iconst (v := nI 1) G dL_law_1505 (by decide) ?_
    refine g_iadd G dL_law_1506 (nI_add _ _) ?_
    refine g_sld G X (j := 6 * j + 1) (by omega) (by omega) dL_law_1507 ?_
    refine g_callV (ci := 10) G ct mt_X9_back mi_X9_back ml_L_192 hr.1.kd (by decide) rfl (by omega) (by omega) (by omega) rfl (Nat.le_of_ble_eq_true rfl) dL_law_1508 (fun v4 S4 hp4 => ?_)
    obtain ⟨rfl, t4, b4, hr4, F4⟩ := hp4
    simp only [Option.toList, List.cons_append, List.nil_append]
    refine g_istore G dL_law_1511 (gSt_6 (by first | rfl | exact g_c1_rf)) ?_
    first | refine g_aload_n G dL_law_1513 rfl ?_ | refine g_aload_nN G dL_law_1513 rfl ?_ | refine g_aload_nQ G dL_law_1513 rfl ?_
    refine g_callVp (ci := 10) G (c_X9_thrown _ S4 y (nI t) hr4.1.kd t4) mt_X9_thrown mi_X9_thrown ml_L_127 hr4.1.kd (by decide) rfl (by omega) (by omega) (by omega) rfl (Nat.le_of_ble_eq_true rfl) dL_law_1514 ?_
    refine g_iload G dL_law_1517 rfl ?_
    refine g_icmp_eq (tgt := 1524) G dL_law_1519 (by decide) (fun _ => ?_) (fun z => absurd rfl z)
    refine g_iload G dL_law_1524 rfl ?_
    refine g_if_ne (tgt := 1541) G dL_law_1526 (by decide) (fun _ => ?_) (fun z => absurd z (nI_ne0 (by omega) (by omega)))
    refine g_goto (tgt := 2423) G dL_law_1541 (by decide) ?_
    exact gW.wid (by omega) (by omega) (kk S4 ad b4 M _ _ _ _ (gMail_ref h F4) hr4 (gOk_rf i hd) (ho.fr F4))
set_option maxHeartbeats 4000000 in
set_option maxRecDepth 100000 in
theorem bk_takeIn {Γ : gC} {b L x y o : Nat} {xs : Nat → Int32} (G : gOK Γ RL cL_law 12 601024 7293034) (X : gScr Γ b L xs) : gBlk Γ b L x y o 1544 := by
  intro S ad bb M j k sl w5 w6 w7 w8 h hr i hd h40 ho hj hL hk hs kk
  have hb := i.b
  first | refine g_aload_n G dL_law_1544 rfl ?_ | refine g_aload_nN G dL_law_1544 rfl ?_ | refine g_aload_nQ G dL_law_1544 rfl ?_
  first | refine g_aload_n G dL_law_1545 rfl ?_ | refine g_aload_nN G dL_law_1545 rfl ?_ | refine g_aload_nQ G dL_law_1545 rfl ?_
  refine g_iload G dL_law_1546 rfl ?_
  refine g_iconst (v := nI 1) G dL_law_1548 (by decide) ?_
  refine g_iadd G dL_law_1549 (nI_add _ _) ?_
  refine g_sld G X (j := 6 * j + 1) (by omega) (by omega) dL_law_1550 ?_
  first | refine g_aload_n G dL_law_1551 rfl ?_ | refine g_aload_nN G dL_law_1551 rfl ?_ | refine g_aload_nQ G dL_law_1551 rfl ?_
  refine g_callSW G (c_L_takeIn h.1.1 (c_X7_takeIn _ S x ad M h i.1 i.2.2.2.2 (xs (6 * j + 1))) (fun v S1 z => by obtain ⟨q, M9, rfl, ⟨ad9, -, F⟩, -⟩ := (ag_takeIn (y := y) h i hd h40 (xs (6 * j + 1))).1 v S1 z; exact ⟨⟨q, rfl⟩, ho.fr F⟩) (fun E S1 z => by obtain ⟨-, -, c, t, hc, -⟩ := (ag_takeIn (y := y) h i hd h40 (xs (6 * j + 1))).2 E S1 z; simp only [List.mem_cons, Prod.mk.injEq, List.not_mem_nil, or_false] at hc; exact hc.imp And.left And.left)) mw_L_takeIn ms_L_takeIn ml_L_193 (by omega) (by omega) (by omega) rfl (Nat.le_of_ble_eq_true rfl) dL_law_1552 (fun v S1 hp => ?_)
  rcases hp with ⟨q, S2, hP, rfl, rfl⟩ | ⟨E, c9, hX, hc, rfl⟩
  · obtain ⟨q9, M9, e9, ⟨ad9, hm, F⟩, ⟨ok, hwt⟩, hR⟩ := (ag_takeIn (y := y) h i hd h40 (xs (6 * j + 1))).1 _ _ hP
    obtain rfl : q = q9 := by cases e9; rfl
    have hr3 := gRef_18 (gRef_cls hr F) (gFr_18 (o := o) (v := q.toInt64))
    have hm3 := gMail_18 hm (gFr_18 (o := o) (v := q.toInt64))
    have ho3 := (ho.fr F).fr (gFr_18 (o := o) (v := q.toInt64))
    obtain ⟨m1, m2, hm1, hm2, ct⟩ := hR _ _ hr3
    simp only [Option.toList, List.cons_append, List.nil_append]
    refine g_istore G dL_law_1555 (gSt_5 (by first | rfl | exact g_c1_rf)) ?_
    first | refine g_aload_n G dL_law_1557 rfl ?_ | refine g_aload_nN G dL_law_1557 rfl ?_ | refine g_aload_nQ G dL_law_1557 rfl ?_
    first | refine g_aload_n G dL_law_1558 rfl ?_ | refine g_aload_nN G dL_law_1558 rfl ?_ | refine g_aload_nQ G dL_law_1558 rfl ?_
    refine g_iload G dL_law_1559 rfl ?_
    refine g_iconst (v := nI 1) G dL_law_1561 (by decide) ?_
    refine g_iadd G dL_law_1562 (nI_add _ _) ?_
    refine g_sld G X (j := 6 * j + 1) (by omega) (by omega) dL_law_1563 ?_
    refine g_callV (ci := 10) G ct mt_X9_takeIn mi_X9_takeIn ml_L_195 hr3.1.kd (by decide) rfl (by omega) (by omega) (by omega) rfl (Nat.le_of_ble_eq_true rfl) dL_law_1564 (fun v4 S4 hp4 => ?_)
    obtain ⟨rfl, t4, b4, hr4, F4⟩ := hp4
    simp only [Option.toList, List.cons_append, List.nil_append]
    refine g_istore G dL_law_1567 (gSt_6 (by first | rfl | exact g_c1_rf)) ?_
    first | refine g_aload_n G dL_law_1569 rfl ?_ | refine g_aload_nN G dL_law_1569 rfl ?_ | refine g_aload_nQ G dL_law_1569 rfl ?_
    refine g_callVp (ci := 10) G (c_X9_thrown _ S4 y (nI 0) hr4.1.kd t4) mt_X9_thrown mi_X9_thrown ml_L_127 hr4.1.kd (by decide) rfl (by omega) (by omega) (by omega) rfl (Nat.le_of_ble_eq_true rfl) dL_law_1570 ?_
    refine g_iload G dL_law_1573 rfl ?_
    refine g_icmp_eq (tgt := 1580) G dL_law_1575 (by decide) (fun _ => ?_) (fun z => absurd rfl z)
    refine g_iload G dL_law_1580 rfl ?_
    refine g_if_ne (tgt := 1597) G dL_law_1582 (by decide) (fun z => absurd nI_0 z) (fun _ => ?_)
    have ho4 := ho3.fr F4
    first | refine g_aload_n G dL_law_1585 rfl ?_ | refine g_aload_nN G dL_law_1585 rfl ?_ | refine g_aload_nQ G dL_law_1585 rfl ?_
    refine g_iconst (v := nI 0) G dL_law_1586 (by decide) ?_
    refine g_lald G ho4.1 (by decide) (by rw [ho4.2]; omega) (by omega) (gOut_Z F4) dL_law_1587 ?_
    refine g_iload G dL_law_1588 rfl ?_
    refine g_i2l G dL_law_1590 (rfl) ?_
    refine g_lcmp G dL_law_1591 ?_
    refine g_if_eq (tgt := 1597) G dL_law_1592 (by decide) (fun _ => ?_) (fun z => absurd (lg_cmp_s _) z)
    refine g_goto (tgt := 2423) G dL_law_1597 (by decide) ?_
    exact gW.wid (by omega) (by omega) (kk S4 ad9 b4 M9 _ _ _ _ (gMail_ref hm3 F4) hr4 ok ho4)
  · obtain ⟨rfl, w0, c8, t, hc8, rfl, ht1, ht3, hR⟩ := (ag_takeIn (y := y) h i hd h40 (xs (6 * j + 1))).2 _ _ hX
    obtain rfl : c9 = nI t := gKey_one (by decide) hc hc8
    obtain ⟨v8, m1, m2, hm1, hm2, ct⟩ := hR _ _ hr
    simp only [Option.toList, List.cons_append, List.nil_append]
    refine g_istore G dL_law_1555 (gSt_5 (by first | rfl | exact g_c1_rf)) ?_
    first | refine g_aload_n G dL_law_1557 rfl ?_ | refine g_aload_nN G dL_law_1557 rfl ?_ | refine g_aload_nQ G dL_law_1557 rfl ?_
    first | refine g_aload_n G dL_law_1558 rfl ?_ | refine g_aload_nN G dL_law_1558 rfl ?_ | refine g_aload_nQ G dL_law_1558 rfl ?_
    refine g_iload G dL_law_1559 rfl ?_
    refine g_iconst (v := nI 1) G dL_law_1561 (by decide) ?_
    refine g_iadd G dL_law_1562 (nI_add _ _) ?_
    refine g_sld G X (j := 6 * j + 1) (by omega) (by omega) dL_law_1563 ?_
    refine g_callV (ci := 10) G ct mt_X9_takeIn mi_X9_takeIn ml_L_195 hr.1.kd (by decide) rfl (by omega) (by omega) (by omega) rfl (Nat.le_of_ble_eq_true rfl) dL_law_1564 (fun v4 S4 hp4 => ?_)
    obtain ⟨rfl, t4, b4, hr4, F4⟩ := hp4
    simp only [Option.toList, List.cons_append, List.nil_append]
    refine g_istore G dL_law_1567 (gSt_6 (by first | rfl | exact g_c1_rf)) ?_
    first | refine g_aload_n G dL_law_1569 rfl ?_ | refine g_aload_nN G dL_law_1569 rfl ?_ | refine g_aload_nQ G dL_law_1569 rfl ?_
    refine g_callVp (ci := 10) G (c_X9_thrown _ S4 y (nI t) hr4.1.kd t4) mt_X9_thrown mi_X9_thrown ml_L_127 hr4.1.kd (by decide) rfl (by omega) (by omega) (by omega) rfl (Nat.le_of_ble_eq_true rfl) dL_law_1570 ?_
    refine g_iload G dL_law_1573 rfl ?_
    refine g_icmp_eq (tgt := 1580) G dL_law_1575 (by decide) (fun _ => ?_) (fun z => absurd rfl z)
    refine g_iload G dL_law_1580 rfl ?_
    refine g_if_ne (tgt := 1597) G dL_law_1582 (by decide) (fun _ => ?_) (fun z => absurd z (nI_ne0 (by omega) (by omega)))
    refine g_goto (tgt := 2423) G dL_law_1597 (by decide) ?_
    exact gW.wid (by omega) (by omega) (kk S4 ad b4 M _ _ _ _ (gMail_ref h F4) hr4 (gOk_rf i hd) (ho.fr F4))
set_option maxHeartbeats 4000000 in
set_option maxRecDepth 100000 in
theorem bk_hand {Γ : gC} {b L x y o : Nat} {xs : Nat → Int32} (G : gOK Γ RL cL_law 12 601024 7293034) (X : gScr Γ b L xs) : gBlk Γ b L x y o 1600 := by
  intro S ad bb M j k sl w5 w6 w7 w8 h hr i hd h40 ho hj hL hk hs kk
  have hb := i.b
  first | refine g_aload_n G dL_law_1600 rfl ?_ | refine g_aload_nN G dL_law_1600 rfl ?_ | refine g_aload_nQ G dL_law_1600 rfl ?_
  first | refine g_aload_n G dL_law_1601 rfl ?_ | refine g_aload_nN G dL_law_1601 rfl ?_ | refine g_aload_nQ G dL_law_1601 rfl ?_
  refine g_iload G dL_law_1602 rfl ?_
  refine g_iconst (v := nI 1) G dL_law_1604 (by decide) ?_
  refine g_iadd G dL_law_1605 (nI_add _ _) ?_
  refine g_sld G X (j := 6 * j + 1) (by omega) (by omega) dL_law_1606 ?_
  first | refine g_aload_n G dL_law_1607 rfl ?_ | refine g_aload_nN G dL_law_1607 rfl ?_ | refine g_aload_nQ G dL_law_1607 rfl ?_
  refine g_iload G dL_law_1608 rfl ?_
  refine g_iconst (v := nI 2) G dL_law_1610 (by decide) ?_
  refine g_iadd G dL_law_1611 (nI_add _ _) ?_
  refine g_sld G X (j := 6 * j + 2) (by omega) (by omega) dL_law_1612 ?_
  first | refine g_aload_n G dL_law_1613 rfl ?_ | refine g_aload_nN G dL_law_1613 rfl ?_ | refine g_aload_nQ G dL_law_1613 rfl ?_
  refine g_callSW G (c_L_hand h.1.1 (c_X7_hand _ S x ad M h (xs (6 * j + 1)) (xs (6 * j + 2))) (fun v S1 z => by obtain ⟨q, M9, rfl, ⟨ad9, -, F⟩, -⟩ := (ag_hand (y := y) h i hd h40 (xs (6 * j + 1)) (xs (6 * j + 2))).1 v S1 z; exact ⟨⟨q, rfl⟩, ho.fr F⟩) (fun E S1 z => by obtain ⟨-, -, c, t, hc, -⟩ := (ag_hand (y := y) h i hd h40 (xs (6 * j + 1)) (xs (6 * j + 2))).2 E S1 z; simp only [List.mem_cons, Prod.mk.injEq, List.not_mem_nil, or_false] at hc; exact hc.imp And.left And.left)) mw_L_hand ms_L_hand ml_L_196 (by omega) (by omega) (by omega) rfl (Nat.le_of_ble_eq_true rfl) dL_law_1614 (fun v S1 hp => ?_)
  rcases hp with ⟨q, S2, hP, rfl, rfl⟩ | ⟨E, c9, hX, hc, rfl⟩
  · obtain ⟨q9, M9, e9, ⟨ad9, hm, F⟩, ⟨ok, hwt⟩, hR⟩ := (ag_hand (y := y) h i hd h40 (xs (6 * j + 1)) (xs (6 * j + 2))).1 _ _ hP
    obtain rfl : q = q9 := by cases e9; rfl
    have hr3 := gRef_18 (gRef_cls hr F) (gFr_18 (o := o) (v := q.toInt64))
    have hm3 := gMail_18 hm (gFr_18 (o := o) (v := q.toInt64))
    have ho3 := (ho.fr F).fr (gFr_18 (o := o) (v := q.toInt64))
    obtain ⟨m1, m2, hm1, hm2, ct⟩ := hR _ _ hr3
    simp only [Option.toList, List.cons_append, List.nil_append]
    refine g_istore G dL_law_1617 (gSt_5 (by first | rfl | exact g_c1_rf)) ?_
    first | refine g_aload_n G dL_law_1619 rfl ?_ | refine g_aload_nN G dL_law_1619 rfl ?_ | refine g_aload_nQ G dL_law_1619 rfl ?_
    first | refine g_aload_n G dL_law_1620 rfl ?_ | refine g_aload_nN G dL_law_1620 rfl ?_ | refine g_aload_nQ G dL_law_1620 rfl ?_
    refine g_iload G dL_law_1621 rfl ?_
    refine g_iconst (v := nI 1) G dL_law_1623 (by decide) ?_
    refine g_iadd G dL_law_1624 (nI_add _ _) ?_
    refine g_sld G X (j := 6 * j + 1) (by omega) (by omega) dL_law_1625 ?_
    first | refine g_aload_n G dL_law_1626 rfl ?_ | refine g_aload_nN G dL_law_1626 rfl ?_ | refine g_aload_nQ G dL_law_1626 rfl ?_
    refine g_iload G dL_law_1627 rfl ?_
    refine g_iconst (v := nI 2) G dL_law_1629 (by decide) ?_
    refine g_iadd G dL_law_1630 (nI_add _ _) ?_
    refine g_sld G X (j := 6 * j + 2) (by omega) (by omega) dL_law_1631 ?_
    refine g_callV (ci := 10) G ct mt_X9_hand mi_X9_hand ml_L_198 hr3.1.kd (by decide) rfl (by omega) (by omega) (by omega) rfl (Nat.le_of_ble_eq_true rfl) dL_law_1632 (fun v4 S4 hp4 => ?_)
    obtain ⟨rfl, t4, b4, hr4, F4⟩ := hp4
    simp only [Option.toList, List.cons_append, List.nil_append]
    refine g_istore G dL_law_1635 (gSt_6 (by first | rfl | exact g_c1_rf)) ?_
    first | refine g_aload_n G dL_law_1637 rfl ?_ | refine g_aload_nN G dL_law_1637 rfl ?_ | refine g_aload_nQ G dL_law_1637 rfl ?_
    refine g_callVp (ci := 10) G (c_X9_thrown _ S4 y (nI 0) hr4.1.kd t4) mt_X9_thrown mi_X9_thrown ml_L_127 hr4.1.kd (by decide) rfl (by omega) (by omega) (by omega) rfl (Nat.le_of_ble_eq_true rfl) dL_law_1638 ?_
    refine g_iload G dL_law_1641 rfl ?_
    refine g_icmp_eq (tgt := 1648) G dL_law_1643 (by decide) (fun _ => ?_) (fun z => absurd rfl z)
    refine g_iload G dL_law_1648 rfl ?_
    refine g_if_ne (tgt := 1665) G dL_law_1650 (by decide) (fun z => absurd nI_0 z) (fun _ => ?_)
    have ho4 := ho3.fr F4
    first | refine g_aload_n G dL_law_1653 rfl ?_ | refine g_aload_nN G dL_law_1653 rfl ?_ | refine g_aload_nQ G dL_law_1653 rfl ?_
    refine g_iconst (v := nI 0) G dL_law_1654 (by decide) ?_
    refine g_lald G ho4.1 (by decide) (by rw [ho4.2]; omega) (by omega) (gOut_Z F4) dL_law_1655 ?_
    refine g_iload G dL_law_1656 rfl ?_
    refine g_i2l G dL_law_1658 (rfl) ?_
    refine g_lcmp G dL_law_1659 ?_
    refine g_if_eq (tgt := 1665) G dL_law_1660 (by decide) (fun _ => ?_) (fun z => absurd (lg_cmp_s _) z)
    refine g_goto (tgt := 2423) G dL_law_1665 (by decide) ?_
    exact gW.wid (by omega) (by omega) (kk S4 ad9 b4 M9 _ _ _ _ (gMail_ref hm3 F4) hr4 ok ho4)
  · obtain ⟨rfl, w0, c8, t, hc8, rfl, ht1, ht3, hR⟩ := (ag_hand (y := y) h i hd h40 (xs (6 * j + 1)) (xs (6 * j + 2))).2 _ _ hX
    obtain rfl : c9 = nI t := gKey_one (by decide) hc hc8
    obtain ⟨v8, m1, m2, hm1, hm2, ct⟩ := hR _ _ hr
    simp only [Option.toList, List.cons_append, List.nil_append]
    refine g_istore G dL_law_1617 (gSt_5 (by first | rfl | exact g_c1_rf)) ?_
    first | refine g_aload_n G dL_law_1619 rfl ?_ | refine g_aload_nN G dL_law_1619 rfl ?_ | refine g_aload_nQ G dL_law_1619 rfl ?_
    first | refine g_aload_n G dL_law_1620 rfl ?_ | refine g_aload_nN G dL_law_1620 rfl ?_ | refine g_aload_nQ G dL_law_1620 rfl ?_
    refine g_iload G dL_law_1621 rfl ?_
    refine g_iconst (v := nI 1) G dL_law_1623 (by decide) ?_
    refine g_iadd G dL_law_1624 (nI_add _ _) ?_
    refine g_sld G X (j := 6 * j + 1) (by omega) (by omega) dL_law_1625 ?_
    first | refine g_aload_n G dL_law_1626 rfl ?_ | refine g_aload_nN G dL_law_1626 rfl ?_ | refine g_aload_nQ G dL_law_1626 rfl ?_
    refine g_iload G dL_law_1627 rfl ?_
    refine g_iconst (v := nI 2) G dL_law_1629 (by decide) ?_
    refine g_iadd G dL_law_1630 (nI_add _ _) ?_
    refine g_sld G X (j := 6 * j + 2) (by omega) (by omega) dL_law_1631 ?_
    refine g_callV (ci := 10) G ct mt_X9_hand mi_X9_hand ml_L_198 hr.1.kd (by decide) rfl (by omega) (by omega) (by omega) rfl (Nat.le_of_ble_eq_true rfl) dL_law_1632 (fun v4 S4 hp4 => ?_)
    obtain ⟨rfl, t4, b4, hr4, F4⟩ := hp4
    simp only [Option.toList, List.cons_append, List.nil_append]
    refine g_istore G dL_law_1635 (gSt_6 (by first | rfl | exact g_c1_rf)) ?_
    first | refine g_aload_n G dL_law_1637 rfl ?_ | refine g_aload_nN G dL_law_1637 rfl ?_ | refine g_aload_nQ G dL_law_1637 rfl ?_
    refine g_callVp (ci := 10) G (c_X9_thrown _ S4 y (nI t) hr4.1.kd t4) mt_X9_thrown mi_X9_thrown ml_L_127 hr4.1.kd (by decide) rfl (by omega) (by omega) (by omega) rfl (Nat.le_of_ble_eq_true rfl) dL_law_1638 ?_
    refine g_iload G dL_law_1641 rfl ?_
    refine g_icmp_eq (tgt := 1648) G dL_law_1643 (by decide) (fun _ => ?_) (fun z => absurd rfl z)
    refine g_iload G dL_law_1648 rfl ?_
    refine g_if_ne (tgt := 1665) G dL_law_1650 (by decide) (fun _ => ?_) (fun z => absurd z (nI_ne0 (by omega) (by omega)))
    refine g_goto (tgt := 2423) G dL_law_1665 (by decide) ?_
    exact gW.wid (by omega) (by omega) (kk S4 ad b4 M _ _ _ _ (gMail_ref h F4) hr4 (gOk_rf i hd) (ho.fr F4))
set_option maxHeartbeats 4000000 in
set_option maxRecDepth 100000 in
theorem bk_unseal {Γ : gC} {b L x y o : Nat} {xs : Nat → Int32} (G : gOK Γ RL cL_law 12 601024 7293034) (X : gScr Γ b L xs) : gBlk Γ b L x y o 1668 := by
  intro S ad bb M j k sl w5 w6 w7 w8 h hr i hd h40 ho hj hL hk hs kk
  have hb := i.b
  first | refine g_aload_n G dL_law_1668 rfl ?_ | refine g_aload_nN G dL_law_1668 rfl ?_ | refine g_aload_nQ G dL_law_1668 rfl ?_
  first | refine g_aload_n G dL_law_1669 rfl ?_ | refine g_aload_nN G dL_law_1669 rfl ?_ | refine g_aload_nQ G dL_law_1669 rfl ?_
  refine g_iload G dL_law_1670 rfl ?_
  refine g_iconst (v := nI 1) G dL_law_1672 (by decide) ?_
  refine g_iadd G dL_law_1673 (nI_add _ _) ?_
  refine g_sld G X (j := 6 * j + 1) (by omega) (by omega) dL_law_1674 ?_
  first | refine g_aload_n G dL_law_1675 rfl ?_ | refine g_aload_nN G dL_law_1675 rfl ?_ | refine g_aload_nQ G dL_law_1675 rfl ?_
  refine g_callSW G (c_L_unseal h.1.1 (c_X7_unseal _ S x ad M h (xs (6 * j + 1))) (fun v S1 z => by obtain ⟨q, M9, rfl, ⟨ad9, -, F⟩, -⟩ := (ag_unseal (y := y) h i hd h40 (xs (6 * j + 1))).1 v S1 z; exact ⟨⟨q, rfl⟩, ho.fr F⟩) (fun E S1 z => by obtain ⟨-, -, c, t, hc, -⟩ := (ag_unseal (y := y) h i hd h40 (xs (6 * j + 1))).2 E S1 z; simp only [List.mem_cons, Prod.mk.injEq, List.not_mem_nil, or_false] at hc; exact hc.imp And.left And.left)) mw_L_unseal ms_L_unseal ml_L_199 (by omega) (by omega) (by omega) rfl (Nat.le_of_ble_eq_true rfl) dL_law_1676 (fun v S1 hp => ?_)
  rcases hp with ⟨q, S2, hP, rfl, rfl⟩ | ⟨E, c9, hX, hc, rfl⟩
  · obtain ⟨q9, M9, e9, ⟨ad9, hm, F⟩, ⟨ok, hwt⟩, hR⟩ := (ag_unseal (y := y) h i hd h40 (xs (6 * j + 1))).1 _ _ hP
    obtain rfl : q = q9 := by cases e9; rfl
    have hr3 := gRef_18 (gRef_cls hr F) (gFr_18 (o := o) (v := q.toInt64))
    have hm3 := gMail_18 hm (gFr_18 (o := o) (v := q.toInt64))
    have ho3 := (ho.fr F).fr (gFr_18 (o := o) (v := q.toInt64))
    obtain ⟨m1, m2, hm1, hm2, ct⟩ := hR _ _ hr3
    simp only [Option.toList, List.cons_append, List.nil_append]
    refine g_istore G dL_law_1679 (gSt_5 (by first | rfl | exact g_c1_rf)) ?_
    first | refine g_aload_n G dL_law_1681 rfl ?_ | refine g_aload_nN G dL_law_1681 rfl ?_ | refine g_aload_nQ G dL_law_1681 rfl ?_
    first | refine g_aload_n G dL_law_1682 rfl ?_ | refine g_aload_nN G dL_law_1682 rfl ?_ | refine g_aload_nQ G dL_law_1682 rfl ?_
    refine g_iload G dL_law_1683 rfl ?_
    refine g_iconst (v := nI 1) G dL_law_1685 (by decide) ?_
    refine g_iadd G dL_law_1686 (nI_add _ _) ?_
    refine g_sld G X (j := 6 * j + 1) (by omega) (by omega) dL_law_1687 ?_
    refine g_callV (ci := 10) G ct mt_X9_unseal mi_X9_unseal ml_L_201 hr3.1.kd (by decide) rfl (by omega) (by omega) (by omega) rfl (Nat.le_of_ble_eq_true rfl) dL_law_1688 (fun v4 S4 hp4 => ?_)
    obtain ⟨rfl, t4, b4, hr4, F4⟩ := hp4
    simp only [Option.toList, List.cons_append, List.nil_append]
    refine g_istore G dL_law_1691 (gSt_6 (by first | rfl | exact g_c1_rf)) ?_
    first | refine g_aload_n G dL_law_1693 rfl ?_ | refine g_aload_nN G dL_law_1693 rfl ?_ | refine g_aload_nQ G dL_law_1693 rfl ?_
    refine g_callVp (ci := 10) G (c_X9_thrown _ S4 y (nI 0) hr4.1.kd t4) mt_X9_thrown mi_X9_thrown ml_L_127 hr4.1.kd (by decide) rfl (by omega) (by omega) (by omega) rfl (Nat.le_of_ble_eq_true rfl) dL_law_1694 ?_
    refine g_iload G dL_law_1697 rfl ?_
    refine g_icmp_eq (tgt := 1704) G dL_law_1699 (by decide) (fun _ => ?_) (fun z => absurd rfl z)
    refine g_iload G dL_law_1704 rfl ?_
    refine g_if_ne (tgt := 1721) G dL_law_1706 (by decide) (fun z => absurd nI_0 z) (fun _ => ?_)
    have ho4 := ho3.fr F4
    first | refine g_aload_n G dL_law_1709 rfl ?_ | refine g_aload_nN G dL_law_1709 rfl ?_ | refine g_aload_nQ G dL_law_1709 rfl ?_
    refine g_iconst (v := nI 0) G dL_law_1710 (by decide) ?_
    refine g_lald G ho4.1 (by decide) (by rw [ho4.2]; omega) (by omega) (gOut_Z F4) dL_law_1711 ?_
    refine g_iload G dL_law_1712 rfl ?_
    refine g_i2l G dL_law_1714 (rfl) ?_
    refine g_lcmp G dL_law_1715 ?_
    refine g_if_eq (tgt := 1721) G dL_law_1716 (by decide) (fun _ => ?_) (fun z => absurd (lg_cmp_s _) z)
    refine g_goto (tgt := 2423) G dL_law_1721 (by decide) ?_
    exact gW.wid (by omega) (by omega) (kk S4 ad9 b4 M9 _ _ _ _ (gMail_ref hm3 F4) hr4 ok ho4)
  · obtain ⟨rfl, w0, c8, t, hc8, rfl, ht1, ht3, hR⟩ := (ag_unseal (y := y) h i hd h40 (xs (6 * j + 1))).2 _ _ hX
    obtain rfl : c9 = nI t := gKey_one (by decide) hc hc8
    obtain ⟨v8, m1, m2, hm1, hm2, ct⟩ := hR _ _ hr
    simp only [Option.toList, List.cons_append, List.nil_append]
    refine g_istore G dL_law_1679 (gSt_5 (by first | rfl | exact g_c1_rf)) ?_
    first | refine g_aload_n G dL_law_1681 rfl ?_ | refine g_aload_nN G dL_law_1681 rfl ?_ | refine g_aload_nQ G dL_law_1681 rfl ?_
    first | refine g_aload_n G dL_law_1682 rfl ?_ | refine g_aload_nN G dL_law_1682 rfl ?_ | refine g_aload_nQ G dL_law_1682 rfl ?_
    refine g_iload G dL_law_1683 rfl ?_
    refine g_iconst (v := nI 1) G dL_law_1685 (by decide) ?_
    refine g_iadd G dL_law_1686 (nI_add _ _) ?_
    refine g_sld G X (j := 6 * j + 1) (by omega) (by omega) dL_law_1687 ?_
    refine g_callV (ci := 10) G ct mt_X9_unseal mi_X9_unseal ml_L_201 hr.1.kd (by decide) rfl (by omega) (by omega) (by omega) rfl (Nat.le_of_ble_eq_true rfl) dL_law_1688 (fun v4 S4 hp4 => ?_)
    obtain ⟨rfl, t4, b4, hr4, F4⟩ := hp4
    simp only [Option.toList, List.cons_append, List.nil_append]
    refine g_istore G dL_law_1691 (gSt_6 (by first | rfl | exact g_c1_rf)) ?_
    first | refine g_aload_n G dL_law_1693 rfl ?_ | refine g_aload_nN G dL_law_1693 rfl ?_ | refine g_aload_nQ G dL_law_1693 rfl ?_
    refine g_callVp (ci := 10) G (c_X9_thrown _ S4 y (nI t) hr4.1.kd t4) mt_X9_thrown mi_X9_thrown ml_L_127 hr4.1.kd (by decide) rfl (by omega) (by omega) (by omega) rfl (Nat.le_of_ble_eq_true rfl) dL_law_1694 ?_
    refine g_iload G dL_law_1697 rfl ?_
    refine g_icmp_eq (tgt := 1704) G dL_law_1699 (by decide) (fun _ => ?_) (fun z => absurd rfl z)
    refine g_iload G dL_law_1704 rfl ?_
    refine g_if_ne (tgt := 1721) G dL_law_1706 (by decide) (fun _ => ?_) (fun z => absurd z (nI_ne0 (by omega) (by omega)))
    refine g_goto (tgt := 2423) G dL_law_1721 (by decide) ?_
    exact gW.wid (by omega) (by omega) (kk S4 ad b4 M _ _ _ _ (gMail_ref h F4) hr4 (gOk_rf i hd) (ho.fr F4))
set_option maxHeartbeats 4000000 in
set_option maxRecDepth 100000 in
theorem bk_lose {Γ : gC} {b L x y o : Nat} {xs : Nat → Int32} (G : gOK Γ RL cL_law 12 601024 7293034) (X : gScr Γ b L xs) : gBlk Γ b L x y o 1724 := by
  intro S ad bb M j k sl w5 w6 w7 w8 h hr i hd h40 ho hj hL hk hs kk
  have hb := i.b
  first | refine g_aload_n G dL_law_1724 rfl ?_ | refine g_aload_nN G dL_law_1724 rfl ?_ | refine g_aload_nQ G dL_law_1724 rfl ?_
  first | refine g_aload_n G dL_law_1725 rfl ?_ | refine g_aload_nN G dL_law_1725 rfl ?_ | refine g_aload_nQ G dL_law_1725 rfl ?_
  refine g_iload G dL_law_1726 rfl ?_
  refine g_iconst (v := nI 1) G dL_law_1728 (by decide) ?_
  refine g_iadd G dL_law_1729 (nI_add _ _) ?_
  refine g_sld G X (j := 6 * j + 1) (by omega) (by omega) dL_law_1730 ?_
  first | refine g_aload_n G dL_law_1731 rfl ?_ | refine g_aload_nN G dL_law_1731 rfl ?_ | refine g_aload_nQ G dL_law_1731 rfl ?_
  refine g_callSW G (c_L_lose h.1.1 (c_X7_lose _ S x ad M h (xs (6 * j + 1))) (fun v S1 z => by obtain ⟨q, M9, rfl, ⟨ad9, -, F⟩, -⟩ := (ag_lose (y := y) h i hd h40 (xs (6 * j + 1))).1 v S1 z; exact ⟨⟨q, rfl⟩, ho.fr F⟩) (fun E S1 z => by obtain ⟨-, -, c, t, hc, -⟩ := (ag_lose (y := y) h i hd h40 (xs (6 * j + 1))).2 E S1 z; simp only [List.mem_cons, Prod.mk.injEq, List.not_mem_nil, or_false] at hc; exact hc.imp And.left And.left)) mw_L_lose ms_L_lose ml_L_202 (by omega) (by omega) (by omega) rfl (Nat.le_of_ble_eq_true rfl) dL_law_1732 (fun v S1 hp => ?_)
  rcases hp with ⟨q, S2, hP, rfl, rfl⟩ | ⟨E, c9, hX, hc, rfl⟩
  · obtain ⟨q9, M9, e9, ⟨ad9, hm, F⟩, ⟨ok, hwt⟩, hR⟩ := (ag_lose (y := y) h i hd h40 (xs (6 * j + 1))).1 _ _ hP
    obtain rfl : q = q9 := by cases e9; rfl
    have hr3 := gRef_18 (gRef_cls hr F) (gFr_18 (o := o) (v := q.toInt64))
    have hm3 := gMail_18 hm (gFr_18 (o := o) (v := q.toInt64))
    have ho3 := (ho.fr F).fr (gFr_18 (o := o) (v := q.toInt64))
    obtain ⟨m1, m2, hm1, hm2, ct⟩ := hR _ _ hr3
    simp only [Option.toList, List.cons_append, List.nil_append]
    refine g_istore G dL_law_1735 (gSt_5 (by first | rfl | exact g_c1_rf)) ?_
    first | refine g_aload_n G dL_law_1737 rfl ?_ | refine g_aload_nN G dL_law_1737 rfl ?_ | refine g_aload_nQ G dL_law_1737 rfl ?_
    first | refine g_aload_n G dL_law_1738 rfl ?_ | refine g_aload_nN G dL_law_1738 rfl ?_ | refine g_aload_nQ G dL_law_1738 rfl ?_
    refine g_iload G dL_law_1739 rfl ?_
    refine g_iconst (v := nI 1) G dL_law_1741 (by decide) ?_
    refine g_iadd G dL_law_1742 (nI_add _ _) ?_
    refine g_sld G X (j := 6 * j + 1) (by omega) (by omega) dL_law_1743 ?_
    refine g_callV (ci := 10) G ct mt_X9_lose mi_X9_lose ml_L_204 hr3.1.kd (by decide) rfl (by omega) (by omega) (by omega) rfl (Nat.le_of_ble_eq_true rfl) dL_law_1744 (fun v4 S4 hp4 => ?_)
    obtain ⟨rfl, t4, b4, hr4, F4⟩ := hp4
    simp only [Option.toList, List.cons_append, List.nil_append]
    refine g_istore G dL_law_1747 (gSt_6 (by first | rfl | exact g_c1_rf)) ?_
    first | refine g_aload_n G dL_law_1749 rfl ?_ | refine g_aload_nN G dL_law_1749 rfl ?_ | refine g_aload_nQ G dL_law_1749 rfl ?_
    refine g_callVp (ci := 10) G (c_X9_thrown _ S4 y (nI 0) hr4.1.kd t4) mt_X9_thrown mi_X9_thrown ml_L_127 hr4.1.kd (by decide) rfl (by omega) (by omega) (by omega) rfl (Nat.le_of_ble_eq_true rfl) dL_law_1750 ?_
    refine g_iload G dL_law_1753 rfl ?_
    refine g_icmp_eq (tgt := 1760) G dL_law_1755 (by decide) (fun _ => ?_) (fun z => absurd rfl z)
    refine g_iload G dL_law_1760 rfl ?_
    refine g_if_ne (tgt := 1777) G dL_law_1762 (by decide) (fun z => absurd nI_0 z) (fun _ => ?_)
    have ho4 := ho3.fr F4
    first | refine g_aload_n G dL_law_1765 rfl ?_ | refine g_aload_nN G dL_law_1765 rfl ?_ | refine g_aload_nQ G dL_law_1765 rfl ?_
    refine g_iconst (v := nI 0) G dL_law_1766 (by decide) ?_
    refine g_lald G ho4.1 (by decide) (by rw [ho4.2]; omega) (by omega) (gOut_Z F4) dL_law_1767 ?_
    refine g_iload G dL_law_1768 rfl ?_
    refine g_i2l G dL_law_1770 (rfl) ?_
    refine g_lcmp G dL_law_1771 ?_
    refine g_if_eq (tgt := 1777) G dL_law_1772 (by decide) (fun _ => ?_) (fun z => absurd (lg_cmp_s _) z)
    refine g_goto (tgt := 2423) G dL_law_1777 (by decide) ?_
    exact gW.wid (by omega) (by omega) (kk S4 ad9 b4 M9 _ _ _ _ (gMail_ref hm3 F4) hr4 ok ho4)
  · obtain ⟨rfl, w0, c8, t, hc8, rfl, ht1, ht3, hR⟩ := (ag_lose (y := y) h i hd h40 (xs (6 * j + 1))).2 _ _ hX
    obtain rfl : c9 = nI t := gKey_one (by decide) hc hc8
    obtain ⟨v8, m1, m2, hm1, hm2, ct⟩ := hR _ _ hr
    simp only [Option.toList, List.cons_append, List.nil_append]
    refine g_istore G dL_law_1735 (gSt_5 (by first | rfl | exact g_c1_rf)) ?_
    first | refine g_aload_n G dL_law_1737 rfl ?_ | refine g_aload_nN G dL_law_1737 rfl ?_ | refine g_aload_nQ G dL_law_1737 rfl ?_
    first | refine g_aload_n G dL_law_1738 rfl ?_ | refine g_aload_nN G dL_law_1738 rfl ?_ | refine g_aload_nQ G dL_law_1738 rfl ?_
    refine g_iload G dL_law_1739 rfl ?_
    refine g_iconst (v := nI 1) G dL_law_1741 (by decide) ?_
    refine g_iadd G dL_law_1742 (nI_add _ _) ?_
    refine g_sld G X (j := 6 * j + 1) (by omega) (by omega) dL_law_1743 ?_
    refine g_callV (ci := 10) G ct mt_X9_lose mi_X9_lose ml_L_204 hr.1.kd (by decide) rfl (by omega) (by omega) (by omega) rfl (Nat.le_of_ble_eq_true rfl) dL_law_1744 (fun v4 S4 hp4 => ?_)
    obtain ⟨rfl, t4, b4, hr4, F4⟩ := hp4
    simp only [Option.toList, List.cons_append, List.nil_append]
    refine g_istore G dL_law_1747 (gSt_6 (by first | rfl | exact g_c1_rf)) ?_
    first | refine g_aload_n G dL_law_1749 rfl ?_ | refine g_aload_nN G dL_law_1749 rfl ?_ | refine g_aload_nQ G dL_law_1749 rfl ?_
    refine g_callVp (ci := 10) G (c_X9_thrown _ S4 y (nI t) hr4.1.kd t4) mt_X9_thrown mi_X9_thrown ml_L_127 hr4.1.kd (by decide) rfl (by omega) (by omega) (by omega) rfl (Nat.le_of_ble_eq_true rfl) dL_law_1750 ?_
    refine g_iload G dL_law_1753 rfl ?_
    refine g_icmp_eq (tgt := 1760) G dL_law_1755 (by decide) (fun _ => ?_) (fun z => absurd rfl z)
    refine g_iload G dL_law_1760 rfl ?_
    refine g_if_ne (tgt := 1777) G dL_law_1762 (by decide) (fun _ => ?_) (fun z => absurd z (nI_ne0 (by omega) (by omega)))
    refine g_goto (tgt := 2423) G dL_law_1777 (by decide) ?_
    exact gW.wid (by omega) (by omega) (kk S4 ad b4 M _ _ _ _ (gMail_ref h F4) hr4 (gOk_rf i hd) (ho.fr F4))
set_option maxHeartbeats 4000000 in
set_option maxRecDepth 100000 in
theorem bk_found {Γ : gC} {b L x y o : Nat} {xs : Nat → Int32} (G : gOK Γ RL cL_law 12 601024 7293034) (X : gScr Γ b L xs) : gBlk Γ b L x y o 1780 := by
  intro S ad bb M j k sl w5 w6 w7 w8 h hr i hd h40 ho hj hL hk hs kk
  have hb := i.b
  first | refine g_aload_n G dL_law_1780 rfl ?_ | refine g_aload_nN G dL_law_1780 rfl ?_ | refine g_aload_nQ G dL_law_1780 rfl ?_
  first | refine g_aload_n G dL_law_1781 rfl ?_ | refine g_aload_nN G dL_law_1781 rfl ?_ | refine g_aload_nQ G dL_law_1781 rfl ?_
  refine g_iload G dL_law_1782 rfl ?_
  refine g_iconst (v := nI 1) G dL_law_1784 (by decide) ?_
  refine g_iadd G dL_law_1785 (nI_add _ _) ?_
  refine g_sld G X (j := 6 * j + 1) (by omega) (by omega) dL_law_1786 ?_
  first | refine g_aload_n G dL_law_1787 rfl ?_ | refine g_aload_nN G dL_law_1787 rfl ?_ | refine g_aload_nQ G dL_law_1787 rfl ?_
  refine g_iload G dL_law_1788 rfl ?_
  refine g_iconst (v := nI 2) G dL_law_1790 (by decide) ?_
  refine g_iadd G dL_law_1791 (nI_add _ _) ?_
  refine g_sld G X (j := 6 * j + 2) (by omega) (by omega) dL_law_1792 ?_
  first | refine g_aload_n G dL_law_1793 rfl ?_ | refine g_aload_nN G dL_law_1793 rfl ?_ | refine g_aload_nQ G dL_law_1793 rfl ?_
  refine g_callSW G (c_L_found h.1.1 (c_X7_found _ S x ad M h (xs (6 * j + 1)) (xs (6 * j + 2))) (fun v S1 z => by obtain ⟨q, M9, rfl, ⟨ad9, -, F⟩, -⟩ := (ag_found (y := y) h i hd h40 (xs (6 * j + 1)) (xs (6 * j + 2))).1 v S1 z; exact ⟨⟨q, rfl⟩, ho.fr F⟩) (fun E S1 z => by obtain ⟨-, -, c, t, hc, -⟩ := (ag_found (y := y) h i hd h40 (xs (6 * j + 1)) (xs (6 * j + 2))).2 E S1 z; simp only [List.mem_cons, Prod.mk.injEq, List.not_mem_nil, or_false] at hc; exact hc.imp And.left And.left)) mw_L_found ms_L_found ml_L_205 (by omega) (by omega) (by omega) rfl (Nat.le_of_ble_eq_true rfl) dL_law_1794 (fun v S1 hp => ?_)
  rcases hp with ⟨q, S2, hP, rfl, rfl⟩ | ⟨E, c9, hX, hc, rfl⟩
  · obtain ⟨q9, M9, e9, ⟨ad9, hm, F⟩, ⟨ok, hwt⟩, hR⟩ := (ag_found (y := y) h i hd h40 (xs (6 * j + 1)) (xs (6 * j + 2))).1 _ _ hP
    obtain rfl : q = q9 := by cases e9; rfl
    have hr3 := gRef_18 (gRef_cls hr F) (gFr_18 (o := o) (v := q.toInt64))
    have hm3 := gMail_18 hm (gFr_18 (o := o) (v := q.toInt64))
    have ho3 := (ho.fr F).fr (gFr_18 (o := o) (v := q.toInt64))
    obtain ⟨m1, m2, hm1, hm2, ct⟩ := hR _ _ hr3
    simp only [Option.toList, List.cons_append, List.nil_append]
    refine g_istore G dL_law_1797 (gSt_5 (by first | rfl | exact g_c1_rf)) ?_
    first | refine g_aload_n G dL_law_1799 rfl ?_ | refine g_aload_nN G dL_law_1799 rfl ?_ | refine g_aload_nQ G dL_law_1799 rfl ?_
    first | refine g_aload_n G dL_law_1800 rfl ?_ | refine g_aload_nN G dL_law_1800 rfl ?_ | refine g_aload_nQ G dL_law_1800 rfl ?_
    refine g_iload G dL_law_1801 rfl ?_
    refine g_iconst (v := nI 1) G dL_law_1803 (by decide) ?_
    refine g_iadd G dL_law_1804 (nI_add _ _) ?_
    refine g_sld G X (j := 6 * j + 1) (by omega) (by omega) dL_law_1805 ?_
    first | refine g_aload_n G dL_law_1806 rfl ?_ | refine g_aload_nN G dL_law_1806 rfl ?_ | refine g_aload_nQ G dL_law_1806 rfl ?_
    refine g_iload G dL_law_1807 rfl ?_
    refine g_iconst (v := nI 2) G dL_law_1809 (by decide) ?_
    refine g_iadd G dL_law_1810 (nI_add _ _) ?_
    refine g_sld G X (j := 6 * j + 2) (by omega) (by omega) dL_law_1811 ?_
    refine g_callV (ci := 10) G ct mt_X9_found mi_X9_found ml_L_207 hr3.1.kd (by decide) rfl (by omega) (by omega) (by omega) rfl (Nat.le_of_ble_eq_true rfl) dL_law_1812 (fun v4 S4 hp4 => ?_)
    obtain ⟨rfl, t4, b4, hr4, F4⟩ := hp4
    simp only [Option.toList, List.cons_append, List.nil_append]
    refine g_istore G dL_law_1815 (gSt_6 (by first | rfl | exact g_c1_rf)) ?_
    first | refine g_aload_n G dL_law_1817 rfl ?_ | refine g_aload_nN G dL_law_1817 rfl ?_ | refine g_aload_nQ G dL_law_1817 rfl ?_
    refine g_callVp (ci := 10) G (c_X9_thrown _ S4 y (nI 0) hr4.1.kd t4) mt_X9_thrown mi_X9_thrown ml_L_127 hr4.1.kd (by decide) rfl (by omega) (by omega) (by omega) rfl (Nat.le_of_ble_eq_true rfl) dL_law_1818 ?_
    refine g_iload G dL_law_1821 rfl ?_
    refine g_icmp_eq (tgt := 1828) G dL_law_1823 (by decide) (fun _ => ?_) (fun z => absurd rfl z)
    refine g_iload G dL_law_1828 rfl ?_
    refine g_if_ne (tgt := 1845) G dL_law_1830 (by decide) (fun z => absurd nI_0 z) (fun _ => ?_)
    have ho4 := ho3.fr F4
    first | refine g_aload_n G dL_law_1833 rfl ?_ | refine g_aload_nN G dL_law_1833 rfl ?_ | refine g_aload_nQ G dL_law_1833 rfl ?_
    refine g_iconst (v := nI 0) G dL_law_1834 (by decide) ?_
    refine g_lald G ho4.1 (by decide) (by rw [ho4.2]; omega) (by omega) (gOut_Z F4) dL_law_1835 ?_
    refine g_iload G dL_law_1836 rfl ?_
    refine g_i2l G dL_law_1838 (rfl) ?_
    refine g_lcmp G dL_law_1839 ?_
    refine g_if_eq (tgt := 1845) G dL_law_1840 (by decide) (fun _ => ?_) (fun z => absurd (lg_cmp_s _) z)
    refine g_goto (tgt := 2423) G dL_law_1845 (by decide) ?_
    exact gW.wid (by omega) (by omega) (kk S4 ad9 b4 M9 _ _ _ _ (gMail_ref hm3 F4) hr4 ok ho4)
  · obtain ⟨rfl, w0, c8, t, hc8, rfl, ht1, ht3, hR⟩ := (ag_found (y := y) h i hd h40 (xs (6 * j + 1)) (xs (6 * j + 2))).2 _ _ hX
    obtain rfl : c9 = nI t := gKey_one (by decide) hc hc8
    obtain ⟨v8, m1, m2, hm1, hm2, ct⟩ := hR _ _ hr
    simp only [Option.toList, List.cons_append, List.nil_append]
    refine g_istore G dL_law_1797 (gSt_5 (by first | rfl | exact g_c1_rf)) ?_
    first | refine g_aload_n G dL_law_1799 rfl ?_ | refine g_aload_nN G dL_law_1799 rfl ?_ | refine g_aload_nQ G dL_law_1799 rfl ?_
    first | refine g_aload_n G dL_law_1800 rfl ?_ | refine g_aload_nN G dL_law_1800 rfl ?_ | refine g_aload_nQ G dL_law_1800 rfl ?_
    refine g_iload G dL_law_1801 rfl ?_
    refine g_iconst (v := nI 1) G dL_law_1803 (by decide) ?_
    refine g_iadd G dL_law_1804 (nI_add _ _) ?_
    refine g_sld G X (j := 6 * j + 1) (by omega) (by omega) dL_law_1805 ?_
    first | refine g_aload_n G dL_law_1806 rfl ?_ | refine g_aload_nN G dL_law_1806 rfl ?_ | refine g_aload_nQ G dL_law_1806 rfl ?_
    refine g_iload G dL_law_1807 rfl ?_
    refine g_iconst (v := nI 2) G dL_law_1809 (by decide) ?_
    refine g_iadd G dL_law_1810 (nI_add _ _) ?_
    refine g_sld G X (j := 6 * j + 2) (by omega) (by omega) dL_law_1811 ?_
    refine g_callV (ci := 10) G ct mt_X9_found mi_X9_found ml_L_207 hr.1.kd (by decide) rfl (by omega) (by omega) (by omega) rfl (Nat.le_of_ble_eq_true rfl) dL_law_1812 (fun v4 S4 hp4 => ?_)
    obtain ⟨rfl, t4, b4, hr4, F4⟩ := hp4
    simp only [Option.toList, List.cons_append, List.nil_append]
    refine g_istore G dL_law_1815 (gSt_6 (by first | rfl | exact g_c1_rf)) ?_
    first | refine g_aload_n G dL_law_1817 rfl ?_ | refine g_aload_nN G dL_law_1817 rfl ?_ | refine g_aload_nQ G dL_law_1817 rfl ?_
    refine g_callVp (ci := 10) G (c_X9_thrown _ S4 y (nI t) hr4.1.kd t4) mt_X9_thrown mi_X9_thrown ml_L_127 hr4.1.kd (by decide) rfl (by omega) (by omega) (by omega) rfl (Nat.le_of_ble_eq_true rfl) dL_law_1818 ?_
    refine g_iload G dL_law_1821 rfl ?_
    refine g_icmp_eq (tgt := 1828) G dL_law_1823 (by decide) (fun _ => ?_) (fun z => absurd rfl z)
    refine g_iload G dL_law_1828 rfl ?_
    refine g_if_ne (tgt := 1845) G dL_law_1830 (by decide) (fun _ => ?_) (fun z => absurd z (nI_ne0 (by omega) (by omega)))
    refine g_goto (tgt := 2423) G dL_law_1845 (by decide) ?_
    exact gW.wid (by omega) (by omega) (kk S4 ad b4 M _ _ _ _ (gMail_ref h F4) hr4 (gOk_rf i hd) (ho.fr F4))
