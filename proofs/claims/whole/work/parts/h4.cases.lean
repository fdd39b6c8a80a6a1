theorem LC_security {σ : Hp} {D i : Int} {s : Lsv} {b bs : Nat} {Q : Res → Hp → Prop} (hi : 0 ≤ i ∧ i + 5 < (σ.sl : Int)) (hs : σ.sl ≤ 3072) (hM : MIv D σ s) (hS : Lstp D σ s m_X10_security m_X11_security [xIOB, xIAE] [vI (σ.I 96 0 (i + 1)), vI (σ.I 96 0 (i + 2))] okI) (kk : Kq D σ s i b bs Q) : V m_L_law 17 (b + 61) (bs + 419) 1327 [some (vR (some (96, 0))), some (vR (some (10, 0))), some (vR (some (11, 0))), some (vR (some (70, 0))), some (vR (some (71, 0))), some (vI i), none, none, none] [] σ Q := by
  obtain ⟨κ, w, D', s', hk, ⟨v, rfl⟩, hp, hc, hm⟩ := hS
  refine V_aldn1 a_L_law_1327 ?_
  refine V_aldn0 a_L_law_1328 ?_
  refine V_ild5 a_L_law_1329 ?_
  refine V_iconst a_L_law_1331 ?_
  refine V_iadd a_L_law_1332 ?_
  refine V_sld a_L_law_1333 (by omega) (by omega) ?_
  refine V_aldn0 a_L_law_1334 ?_
  refine V_ild5 a_L_law_1335 ?_
  refine V_iconst a_L_law_1337 ?_
  refine V_iadd a_L_law_1338 ?_
  refine V_sld a_L_law_1339 (by omega) (by omega) ?_
  refine V_aldn3 a_L_law_1340 ?_
  refine V_w4PR a_L_law_1341 c_L_245 (W_security hc) (fun τ hτ => ?_)
  obtain ⟨n1, c1, j1⟩ := hτ
  have e1 : τ.I 96 0 = σ.I 96 0 := n1.I n96_o7
  have e2 : τ.sl = σ.sl := n1.1
  have m1 := hm τ n1 c1 (hM.out n1 c1.wf no_o7)
  refine V_ist6 a_L_law_1344 ?_
  refine V_aldn2 a_L_law_1346 ?_
  refine V_aldn0 a_L_law_1347 ?_
  refine V_ild5 a_L_law_1348 ?_
  refine V_iconst a_L_law_1350 ?_
  refine V_iadd a_L_law_1351 ?_
  refine V_sldE a_L_law_1352 (by omega) (by omega) (congrFun e1 _) ?_
  refine V_aldn0 a_L_law_1353 ?_
  refine V_ild5 a_L_law_1354 ?_
  refine V_iconst a_L_law_1356 ?_
  refine V_iadd a_L_law_1357 ?_
  refine V_sldE a_L_law_1358 (by omega) (by omega) (congrFun e1 _) ?_
  refine V_v2PR a_L_law_1359 c_L_247 m1 (fun ρ hρ => ?_)
  obtain ⟨n2, ⟨A', q9, m2⟩, e6⟩ := hρ
  have c2 : CIv D' ρ (A', s'.2) := (c1.out n2 m2.1.2.1 no_ml).eq9 q9
  have e3 : ρ.I 96 0 = σ.I 96 0 := (n2.I n96_ml).trans e1
  have e4 : ρ.sl = σ.sl := n2.1.trans e2
  have j2 : κ = 0 → ρ.J 70 0 0 = v.bmod (2 ^ 32) := fun z => by rw [n2.J n70_ml]; exact j1 z
  refine V_ist7 a_L_law_1362 ?_
  refine V_aldn2 a_L_law_1364 ?_
  refine V_v0R a_L_law_1365 c_L_183 (R_thrE e6) ?_
  refine V_ild6 a_L_law_1368 ?_
  refine V_icmp_eq_t a_L_law_1370 (by omega) (by omega) ?_
  refine V_ild6 a_L_law_1375 ?_
  refine V_if_ne a_L_law_1377 (by omega) (fun hc1377 => ?_) (fun hc1377 => ?_)
  · refine V_goto a_L_law_1392 ?_
    exact V_fg3 (kk ρ D' (A', s'.2) c2 m2 hp e4 e3)
  · refine V_aldn3 a_L_law_1380 ?_
    refine V_iconst a_L_law_1381 ?_
    refine V_laldE a_L_law_1382 rfl (by omega) (j2 (by omega)) ?_
    refine V_ild7 a_L_law_1383 ?_
    refine V_i2lM a_L_law_1385 ?_
    refine V_lcmpG a_L_law_1386 ?_
    rw [c64_self]
    refine V_if_eq_t a_L_law_1387 (by omega) (by omega) ?_
    refine V_goto a_L_law_1392 ?_
    exact V_fg3 (kk ρ D' (A', s'.2) c2 m2 hp e4 e3)
theorem LC_lender {σ : Hp} {D i : Int} {s : Lsv} {b bs : Nat} {Q : Res → Hp → Prop} (hi : 0 ≤ i ∧ i + 5 < (σ.sl : Int)) (hs : σ.sl ≤ 3072) (hM : MIv D σ s) (hS : Lstp D σ s m_X10_lender m_X11_lender [xIOB, xIAE] [vI (σ.I 96 0 (i + 1)), vI (σ.I 96 0 (i + 2))] okI) (kk : Kq D σ s i b bs Q) : V m_L_law 17 (b + 61) (bs + 419) 1395 [some (vR (some (96, 0))), some (vR (some (10, 0))), some (vR (some (11, 0))), some (vR (some (70, 0))), some (vR (some (71, 0))), some (vI i), none, none, none] [] σ Q := by
  obtain ⟨κ, w, D', s', hk, ⟨v, rfl⟩, hp, hc, hm⟩ := hS
  refine V_aldn1 a_L_law_1395 ?_
  refine V_aldn0 a_L_law_1396 ?_
  refine V_ild5 a_L_law_1397 ?_
  refine V_iconst a_L_law_1399 ?_
  refine V_iadd a_L_law_1400 ?_
  refine V_sld a_L_law_1401 (by omega) (by omega) ?_
  refine V_aldn0 a_L_law_1402 ?_
  refine V_ild5 a_L_law_1403 ?_
  refine V_iconst a_L_law_1405 ?_
  refine V_iadd a_L_law_1406 ?_
  refine V_sld a_L_law_1407 (by omega) (by omega) ?_
  refine V_aldn3 a_L_law_1408 ?_
  refine V_w4PR a_L_law_1409 c_L_248 (W_lender hc) (fun τ hτ => ?_)
  obtain ⟨n1, c1, j1⟩ := hτ
  have e1 : τ.I 96 0 = σ.I 96 0 := n1.I n96_o7
  have e2 : τ.sl = σ.sl := n1.1
  have m1 := hm τ n1 c1 (hM.out n1 c1.wf no_o7)
  refine V_ist6 a_L_law_1412 ?_
  refine V_aldn2 a_L_law_1414 ?_
  refine V_aldn0 a_L_law_1415 ?_
  refine V_ild5 a_L_law_1416 ?_
  refine V_iconst a_L_law_1418 ?_
  refine V_iadd a_L_law_1419 ?_
  refine V_sldE a_L_law_1420 (by omega) (by omega) (congrFun e1 _) ?_
  refine V_aldn0 a_L_law_1421 ?_
  refine V_ild5 a_L_law_1422 ?_
  refine V_iconst a_L_law_1424 ?_
  refine V_iadd a_L_law_1425 ?_
  refine V_sldE a_L_law_1426 (by omega) (by omega) (congrFun e1 _) ?_
  refine V_v2PR a_L_law_1427 c_L_250 m1 (fun ρ hρ => ?_)
  obtain ⟨n2, ⟨A', q9, m2⟩, e6⟩ := hρ
  have c2 : CIv D' ρ (A', s'.2) := (c1.out n2 m2.1.2.1 no_ml).eq9 q9
  have e3 : ρ.I 96 0 = σ.I 96 0 := (n2.I n96_ml).trans e1
  have e4 : ρ.sl = σ.sl := n2.1.trans e2
  have j2 : κ = 0 → ρ.J 70 0 0 = v.bmod (2 ^ 32) := fun z => by rw [n2.J n70_ml]; exact j1 z
  refine V_ist7 a_L_law_1430 ?_
  refine V_aldn2 a_L_law_1432 ?_
  refine V_v0R a_L_law_1433 c_L_183 (R_thrE e6) ?_
  refine V_ild6 a_L_law_1436 ?_
  refine V_icmp_eq_t a_L_law_1438 (by omega) (by omega) ?_
  refine V_ild6 a_L_law_1443 ?_
  refine V_if_ne a_L_law_1445 (by omega) (fun hc1445 => ?_) (fun hc1445 => ?_)
  · refine V_goto a_L_law_1460 ?_
    exact V_fg3 (kk ρ D' (A', s'.2) c2 m2 hp e4 e3)
  · refine V_aldn3 a_L_law_1448 ?_
    refine V_iconst a_L_law_1449 ?_
    refine V_laldE a_L_law_1450 rfl (by omega) (j2 (by omega)) ?_
    refine V_ild7 a_L_law_1451 ?_
    refine V_i2lM a_L_law_1453 ?_
    refine V_lcmpG a_L_law_1454 ?_
    rw [c64_self]
    refine V_if_eq_t a_L_law_1455 (by omega) (by omega) ?_
    refine V_goto a_L_law_1460 ?_
    exact V_fg3 (kk ρ D' (A', s'.2) c2 m2 hp e4 e3)
theorem LC_credit {σ : Hp} {D i : Int} {s : Lsv} {b bs : Nat} {Q : Res → Hp → Prop} (hi : 0 ≤ i ∧ i + 5 < (σ.sl : Int)) (hs : σ.sl ≤ 3072) (hM : MIv D σ s) (hS : Lstp D σ s m_X10_credit m_X11_credit [xIOB] [vI (σ.I 96 0 (i + 1))] okI) (kk : Kq D σ s i b bs Q) : V m_L_law 17 (b + 61) (bs + 419) 1463 [some (vR (some (96, 0))), some (vR (some (10, 0))), some (vR (some (11, 0))), some (vR (some (70, 0))), some (vR (some (71, 0))), some (vI i), none, none, none] [] σ Q := by
  obtain ⟨κ, w, D', s', hk, ⟨v, rfl⟩, hp, hc, hm⟩ := hS
  refine V_aldn1 a_L_law_1463 ?_
  refine V_aldn0 a_L_law_1464 ?_
  refine V_ild5 a_L_law_1465 ?_
  refine V_iconst a_L_law_1467 ?_
  refine V_iadd a_L_law_1468 ?_
  refine V_sld a_L_law_1469 (by omega) (by omega) ?_
  refine V_aldn3 a_L_law_1470 ?_
  refine V_w3PR a_L_law_1471 c_L_251 (W_credit hc) (fun τ hτ => ?_)
  obtain ⟨n1, c1, j1⟩ := hτ
  have e1 : τ.I 96 0 = σ.I 96 0 := n1.I n96_o7
  have e2 : τ.sl = σ.sl := n1.1
  have m1 := hm τ n1 c1 (hM.out n1 c1.wf no_o7)
  refine V_ist6 a_L_law_1474 ?_
  refine V_aldn2 a_L_law_1476 ?_
  refine V_aldn0 a_L_law_1477 ?_
  refine V_ild5 a_L_law_1478 ?_
  refine V_iconst a_L_law_1480 ?_
  refine V_iadd a_L_law_1481 ?_
  refine V_sldE a_L_law_1482 (by omega) (by omega) (congrFun e1 _) ?_
  refine V_v1PR a_L_law_1483 c_L_253 m1 (fun ρ hρ => ?_)
  obtain ⟨n2, ⟨A', q9, m2⟩, e6⟩ := hρ
  have c2 : CIv D' ρ (A', s'.2) := (c1.out n2 m2.1.2.1 no_ml).eq9 q9
  have e3 : ρ.I 96 0 = σ.I 96 0 := (n2.I n96_ml).trans e1
  have e4 : ρ.sl = σ.sl := n2.1.trans e2
  have j2 : κ = 0 → ρ.J 70 0 0 = v.bmod (2 ^ 32) := fun z => by rw [n2.J n70_ml]; exact j1 z
  refine V_ist7 a_L_law_1486 ?_
  refine V_aldn2 a_L_law_1488 ?_
  refine V_v0R a_L_law_1489 c_L_183 (R_thrE e6) ?_
  refine V_ild6 a_L_law_1492 ?_
  refine V_icmp_eq_t a_L_law_1494 (by omega) (by omega) ?_
  refine V_ild6 a_L_law_1499 ?_
  refine V_if_ne a_L_law_1501 (by omega) (fun hc1501 => ?_) (fun hc1501 => ?_)
  · refine V_goto a_L_law_1516 ?_
    exact V_fg3 (kk ρ D' (A', s'.2) c2 m2 hp e4 e3)
  · refine V_aldn3 a_L_law_1504 ?_
    refine V_iconst a_L_law_1505 ?_
    refine V_laldE a_L_law_1506 rfl (by omega) (j2 (by omega)) ?_
    refine V_ild7 a_L_law_1507 ?_
    refine V_i2lM a_L_law_1509 ?_
    refine V_lcmpG a_L_law_1510 ?_
    rw [c64_self]
    refine V_if_eq_t a_L_law_1511 (by omega) (by omega) ?_
    refine V_goto a_L_law_1516 ?_
    exact V_fg3 (kk ρ D' (A', s'.2) c2 m2 hp e4 e3)
theorem LC_holding {σ : Hp} {D i : Int} {s : Lsv} {b bs : Nat} {Q : Res → Hp → Prop} (hi : 0 ≤ i ∧ i + 5 < (σ.sl : Int)) (hs : σ.sl ≤ 3072) (hM : MIv D σ s) (hS : Lstp D σ s m_X10_holding m_X11_holding [xIOB] [vI (σ.I 96 0 (i + 1)), vI (σ.I 96 0 (i + 2))] okI) (kk : Kq D σ s i b bs Q) : V m_L_law 17 (b + 61) (bs + 419) 1519 [some (vR (some (96, 0))), some (vR (some (10, 0))), some (vR (some (11, 0))), some (vR (some (70, 0))), some (vR (some (71, 0))), some (vI i), none, none, none] [] σ Q := by
  obtain ⟨κ, w, D', s', hk, ⟨v, rfl⟩, hp, hc, hm⟩ := hS
  refine V_aldn1 a_L_law_1519 ?_
  refine V_aldn0 a_L_law_1520 ?_
  refine V_ild5 a_L_law_1521 ?_
  refine V_iconst a_L_law_1523 ?_
  refine V_iadd a_L_law_1524 ?_
  refine V_sld a_L_law_1525 (by omega) (by omega) ?_
  refine V_aldn0 a_L_law_1526 ?_
  refine V_ild5 a_L_law_1527 ?_
  refine V_iconst a_L_law_1529 ?_
  refine V_iadd a_L_law_1530 ?_
  refine V_sld a_L_law_1531 (by omega) (by omega) ?_
  refine V_aldn3 a_L_law_1532 ?_
  refine V_w4PR a_L_law_1533 c_L_254 (W_holding hc) (fun τ hτ => ?_)
  obtain ⟨n1, c1, j1⟩ := hτ
  have e1 : τ.I 96 0 = σ.I 96 0 := n1.I n96_o7
  have e2 : τ.sl = σ.sl := n1.1
  have m1 := hm τ n1 c1 (hM.out n1 c1.wf no_o7)
  refine V_ist6 a_L_law_1536 ?_
  refine V_aldn2 a_L_law_1538 ?_
  refine V_aldn0 a_L_law_1539 ?_
  refine V_ild5 a_L_law_1540 ?_
  refine V_iconst a_L_law_1542 ?_
  refine V_iadd a_L_law_1543 ?_
  refine V_sldE a_L_law_1544 (by omega) (by omega) (congrFun e1 _) ?_
  refine V_aldn0 a_L_law_1545 ?_
  refine V_ild5 a_L_law_1546 ?_
  refine V_iconst a_L_law_1548 ?_
  refine V_iadd a_L_law_1549 ?_
  refine V_sldE a_L_law_1550 (by omega) (by omega) (congrFun e1 _) ?_
  refine V_v2PR a_L_law_1551 c_L_256 m1 (fun ρ hρ => ?_)
  obtain ⟨n2, ⟨A', q9, m2⟩, e6⟩ := hρ
  have c2 : CIv D' ρ (A', s'.2) := (c1.out n2 m2.1.2.1 no_ml).eq9 q9
  have e3 : ρ.I 96 0 = σ.I 96 0 := (n2.I n96_ml).trans e1
  have e4 : ρ.sl = σ.sl := n2.1.trans e2
  have j2 : κ = 0 → ρ.J 70 0 0 = v.bmod (2 ^ 32) := fun z => by rw [n2.J n70_ml]; exact j1 z
  refine V_ist7 a_L_law_1554 ?_
  refine V_aldn2 a_L_law_1556 ?_
  refine V_v0R a_L_law_1557 c_L_183 (R_thrE e6) ?_
  refine V_ild6 a_L_law_1560 ?_
  refine V_icmp_eq_t a_L_law_1562 (by omega) (by omega) ?_
  refine V_ild6 a_L_law_1567 ?_
  refine V_if_ne a_L_law_1569 (by omega) (fun hc1569 => ?_) (fun hc1569 => ?_)
  · refine V_goto a_L_law_1584 ?_
    exact V_fg3 (kk ρ D' (A', s'.2) c2 m2 hp e4 e3)
  · refine V_aldn3 a_L_law_1572 ?_
    refine V_iconst a_L_law_1573 ?_
    refine V_laldE a_L_law_1574 rfl (by omega) (j2 (by omega)) ?_
    refine V_ild7 a_L_law_1575 ?_
    refine V_i2lM a_L_law_1577 ?_
    refine V_lcmpG a_L_law_1578 ?_
    rw [c64_self]
    refine V_if_eq_t a_L_law_1579 (by omega) (by omega) ?_
    refine V_goto a_L_law_1584 ?_
    exact V_fg3 (kk ρ D' (A', s'.2) c2 m2 hp e4 e3)
theorem LC_onLoan {σ : Hp} {D i : Int} {s : Lsv} {b bs : Nat} {Q : Res → Hp → Prop} (hi : 0 ≤ i ∧ i + 5 < (σ.sl : Int)) (hs : σ.sl ≤ 3072) (hM : MIv D σ s) (hS : Lstp D σ s m_X10_onLoan m_X11_onLoan [xIOB] [vI (σ.I 96 0 (i + 1)), vI (σ.I 96 0 (i + 2))] okI) (kk : Kq D σ s i b bs Q) : V m_L_law 17 (b + 61) (bs + 419) 1587 [some (vR (some (96, 0))), some (vR (some (10, 0))), some (vR (some (11, 0))), some (vR (some (70, 0))), some (vR (some (71, 0))), some (vI i), none, none, none] [] σ Q := by
  obtain ⟨κ, w, D', s', hk, ⟨v, rfl⟩, hp, hc, hm⟩ := hS
  refine V_aldn1 a_L_law_1587 ?_
  refine V_aldn0 a_L_law_1588 ?_
  refine V_ild5 a_L_law_1589 ?_
  refine V_iconst a_L_law_1591 ?_
  refine V_iadd a_L_law_1592 ?_
  refine V_sld a_L_law_1593 (by omega) (by omega) ?_
  refine V_aldn0 a_L_law_1594 ?_
  refine V_ild5 a_L_law_1595 ?_
  refine V_iconst a_L_law_1597 ?_
  refine V_iadd a_L_law_1598 ?_
  refine V_sld a_L_law_1599 (by omega) (by omega) ?_
  refine V_aldn3 a_L_law_1600 ?_
  refine V_w4PR a_L_law_1601 c_L_257 (W_onLoan hc) (fun τ hτ => ?_)
  obtain ⟨n1, c1, j1⟩ := hτ
  have e1 : τ.I 96 0 = σ.I 96 0 := n1.I n96_o7
  have e2 : τ.sl = σ.sl := n1.1
  have m1 := hm τ n1 c1 (hM.out n1 c1.wf no_o7)
  refine V_ist6 a_L_law_1604 ?_
  refine V_aldn2 a_L_law_1606 ?_
  refine V_aldn0 a_L_law_1607 ?_
  refine V_ild5 a_L_law_1608 ?_
  refine V_iconst a_L_law_1610 ?_
  refine V_iadd a_L_law_1611 ?_
  refine V_sldE a_L_law_1612 (by omega) (by omega) (congrFun e1 _) ?_
  refine V_aldn0 a_L_law_1613 ?_
  refine V_ild5 a_L_law_1614 ?_
  refine V_iconst a_L_law_1616 ?_
  refine V_iadd a_L_law_1617 ?_
  refine V_sldE a_L_law_1618 (by omega) (by omega) (congrFun e1 _) ?_
  refine V_v2PR a_L_law_1619 c_L_259 m1 (fun ρ hρ => ?_)
  obtain ⟨n2, ⟨A', q9, m2⟩, e6⟩ := hρ
  have c2 : CIv D' ρ (A', s'.2) := (c1.out n2 m2.1.2.1 no_ml).eq9 q9
  have e3 : ρ.I 96 0 = σ.I 96 0 := (n2.I n96_ml).trans e1
  have e4 : ρ.sl = σ.sl := n2.1.trans e2
  have j2 : κ = 0 → ρ.J 70 0 0 = v.bmod (2 ^ 32) := fun z => by rw [n2.J n70_ml]; exact j1 z
  refine V_ist7 a_L_law_1622 ?_
  refine V_aldn2 a_L_law_1624 ?_
  refine V_v0R a_L_law_1625 c_L_183 (R_thrE e6) ?_
  refine V_ild6 a_L_law_1628 ?_
  refine V_icmp_eq_t a_L_law_1630 (by omega) (by omega) ?_
  refine V_ild6 a_L_law_1635 ?_
  refine V_if_ne a_L_law_1637 (by omega) (fun hc1637 => ?_) (fun hc1637 => ?_)
  · refine V_goto a_L_law_1652 ?_
    exact V_fg3 (kk ρ D' (A', s'.2) c2 m2 hp e4 e3)
  · refine V_aldn3 a_L_law_1640 ?_
    refine V_iconst a_L_law_1641 ?_
    refine V_laldE a_L_law_1642 rfl (by omega) (j2 (by omega)) ?_
    refine V_ild7 a_L_law_1643 ?_
    refine V_i2lM a_L_law_1645 ?_
    refine V_lcmpG a_L_law_1646 ?_
    rw [c64_self]
    refine V_if_eq_t a_L_law_1647 (by omega) (by omega) ?_
    refine V_goto a_L_law_1652 ?_
    exact V_fg3 (kk ρ D' (A', s'.2) c2 m2 hp e4 e3)
theorem LC_available {σ : Hp} {D i : Int} {s : Lsv} {b bs : Nat} {Q : Res → Hp → Prop} (hi : 0 ≤ i ∧ i + 5 < (σ.sl : Int)) (hs : σ.sl ≤ 3072) (hM : MIv D σ s) (hS : Lstp D σ s m_X10_available m_X11_available [xIOB] [vI (σ.I 96 0 (i + 1)), vI (σ.I 96 0 (i + 2))] okI) (kk : Kq D σ s i b bs Q) : V m_L_law 17 (b + 61) (bs + 419) 1655 [some (vR (some (96, 0))), some (vR (some (10, 0))), some (vR (some (11, 0))), some (vR (some (70, 0))), some (vR (some (71, 0))), some (vI i), none, none, none] [] σ Q := by
  obtain ⟨κ, w, D', s', hk, ⟨v, rfl⟩, hp, hc, hm⟩ := hS
  refine V_aldn1 a_L_law_1655 ?_
  refine V_aldn0 a_L_law_1656 ?_
  refine V_ild5 a_L_law_1657 ?_
  refine V_iconst a_L_law_1659 ?_
  refine V_iadd a_L_law_1660 ?_
  refine V_sld a_L_law_1661 (by omega) (by omega) ?_
  refine V_aldn0 a_L_law_1662 ?_
  refine V_ild5 a_L_law_1663 ?_
  refine V_iconst a_L_law_1665 ?_
  refine V_iadd a_L_law_1666 ?_
  refine V_sld a_L_law_1667 (by omega) (by omega) ?_
  refine V_aldn3 a_L_law_1668 ?_
  refine V_w4PR a_L_law_1669 c_L_260 (W_available hc) (fun τ hτ => ?_)
  obtain ⟨n1, c1, j1⟩ := hτ
  have e1 : τ.I 96 0 = σ.I 96 0 := n1.I n96_o7
  have e2 : τ.sl = σ.sl := n1.1
  have m1 := hm τ n1 c1 (hM.out n1 c1.wf no_o7)
  refine V_ist6 a_L_law_1672 ?_
  refine V_aldn2 a_L_law_1674 ?_
  refine V_aldn0 a_L_law_1675 ?_
  refine V_ild5 a_L_law_1676 ?_
  refine V_iconst a_L_law_1678 ?_
  refine V_iadd a_L_law_1679 ?_
  refine V_sldE a_L_law_1680 (by omega) (by omega) (congrFun e1 _) ?_
  refine V_aldn0 a_L_law_1681 ?_
  refine V_ild5 a_L_law_1682 ?_
  refine V_iconst a_L_law_1684 ?_
  refine V_iadd a_L_law_1685 ?_
  refine V_sldE a_L_law_1686 (by omega) (by omega) (congrFun e1 _) ?_
  refine V_v2PR a_L_law_1687 c_L_262 m1 (fun ρ hρ => ?_)
  obtain ⟨n2, ⟨A', q9, m2⟩, e6⟩ := hρ
  have c2 : CIv D' ρ (A', s'.2) := (c1.out n2 m2.1.2.1 no_ml).eq9 q9
  have e3 : ρ.I 96 0 = σ.I 96 0 := (n2.I n96_ml).trans e1
  have e4 : ρ.sl = σ.sl := n2.1.trans e2
  have j2 : κ = 0 → ρ.J 70 0 0 = v.bmod (2 ^ 32) := fun z => by rw [n2.J n70_ml]; exact j1 z
  refine V_ist7 a_L_law_1690 ?_
  refine V_aldn2 a_L_law_1692 ?_
  refine V_v0R a_L_law_1693 c_L_183 (R_thrE e6) ?_
  refine V_ild6 a_L_law_1696 ?_
  refine V_icmp_eq_t a_L_law_1698 (by omega) (by omega) ?_
  refine V_ild6 a_L_law_1703 ?_
  refine V_if_ne a_L_law_1705 (by omega) (fun hc1705 => ?_) (fun hc1705 => ?_)
  · refine V_goto a_L_law_1720 ?_
    exact V_fg3 (kk ρ D' (A', s'.2) c2 m2 hp e4 e3)
  · refine V_aldn3 a_L_law_1708 ?_
    refine V_iconst a_L_law_1709 ?_
    refine V_laldE a_L_law_1710 rfl (by omega) (j2 (by omega)) ?_
    refine V_ild7 a_L_law_1711 ?_
    refine V_i2lM a_L_law_1713 ?_
    refine V_lcmpG a_L_law_1714 ?_
    rw [c64_self]
    refine V_if_eq_t a_L_law_1715 (by omega) (by omega) ?_
    refine V_goto a_L_law_1720 ?_
    exact V_fg3 (kk ρ D' (A', s'.2) c2 m2 hp e4 e3)
theorem LC_pooled {σ : Hp} {D i : Int} {s : Lsv} {b bs : Nat} {Q : Res → Hp → Prop} (hi : 0 ≤ i ∧ i + 5 < (σ.sl : Int)) (hs : σ.sl ≤ 3072) (hM : MIv D σ s) (hS : Lstp D σ s m_X10_pooled m_X11_pooled [xIOB] [vI (σ.I 96 0 (i + 1))] okI) (kk : Kq D σ s i b bs Q) : V m_L_law 17 (b + 61) (bs + 419) 1723 [some (vR (some (96, 0))), some (vR (some (10, 0))), some (vR (some (11, 0))), some (vR (some (70, 0))), some (vR (some (71, 0))), some (vI i), none, none, none] [] σ Q := by
  obtain ⟨κ, w, D', s', hk, ⟨v, rfl⟩, hp, hc, hm⟩ := hS
  refine V_aldn1 a_L_law_1723 ?_
  refine V_aldn0 a_L_law_1724 ?_
  refine V_ild5 a_L_law_1725 ?_
  refine V_iconst a_L_law_1727 ?_
  refine V_iadd a_L_law_1728 ?_
  refine V_sld a_L_law_1729 (by omega) (by omega) ?_
  refine V_aldn3 a_L_law_1730 ?_
  refine V_w3PR a_L_law_1731 c_L_263 (W_pooled hc) (fun τ hτ => ?_)
  obtain ⟨n1, c1, j1⟩ := hτ
  have e1 : τ.I 96 0 = σ.I 96 0 := n1.I n96_o7
  have e2 : τ.sl = σ.sl := n1.1
  have m1 := hm τ n1 c1 (hM.out n1 c1.wf no_o7)
  refine V_ist6 a_L_law_1734 ?_
  refine V_aldn2 a_L_law_1736 ?_
  refine V_aldn0 a_L_law_1737 ?_
  refine V_ild5 a_L_law_1738 ?_
  refine V_iconst a_L_law_1740 ?_
  refine V_iadd a_L_law_1741 ?_
  refine V_sldE a_L_law_1742 (by omega) (by omega) (congrFun e1 _) ?_
  refine V_v1PR a_L_law_1743 c_L_265 m1 (fun ρ hρ => ?_)
  obtain ⟨n2, ⟨A', q9, m2⟩, e6⟩ := hρ
  have c2 : CIv D' ρ (A', s'.2) := (c1.out n2 m2.1.2.1 no_ml).eq9 q9
  have e3 : ρ.I 96 0 = σ.I 96 0 := (n2.I n96_ml).trans e1
  have e4 : ρ.sl = σ.sl := n2.1.trans e2
  have j2 : κ = 0 → ρ.J 70 0 0 = v.bmod (2 ^ 32) := fun z => by rw [n2.J n70_ml]; exact j1 z
  refine V_ist7 a_L_law_1746 ?_
  refine V_aldn2 a_L_law_1748 ?_
  refine V_v0R a_L_law_1749 c_L_183 (R_thrE e6) ?_
  refine V_ild6 a_L_law_1752 ?_
  refine V_icmp_eq_t a_L_law_1754 (by omega) (by omega) ?_
  refine V_ild6 a_L_law_1759 ?_
  refine V_if_ne a_L_law_1761 (by omega) (fun hc1761 => ?_) (fun hc1761 => ?_)
  · refine V_goto a_L_law_1776 ?_
    exact V_fg3 (kk ρ D' (A', s'.2) c2 m2 hp e4 e3)
  · refine V_aldn3 a_L_law_1764 ?_
    refine V_iconst a_L_law_1765 ?_
    refine V_laldE a_L_law_1766 rfl (by omega) (j2 (by omega)) ?_
    refine V_ild7 a_L_law_1767 ?_
    refine V_i2lM a_L_law_1769 ?_
    refine V_lcmpG a_L_law_1770 ?_
    rw [c64_self]
    refine V_if_eq_t a_L_law_1771 (by omega) (by omega) ?_
    refine V_goto a_L_law_1776 ?_
    exact V_fg3 (kk ρ D' (A', s'.2) c2 m2 hp e4 e3)
theorem LC_utilization {σ : Hp} {D i : Int} {s : Lsv} {b bs : Nat} {Q : Res → Hp → Prop} (hi : 0 ≤ i ∧ i + 5 < (σ.sl : Int)) (hs : σ.sl ≤ 3072) (hM : MIv D σ s) (hS : Lstp D σ s m_X10_utilization m_X11_utilization [xIOB, xARI] [vI (σ.I 96 0 (i + 1))] okD) (kk : Kq D σ s i b bs Q) : V m_L_law 17 (b + 61) (bs + 419) 1779 [some (vR (some (96, 0))), some (vR (some (10, 0))), some (vR (some (11, 0))), some (vR (some (70, 0))), some (vR (some (71, 0))), some (vI i), none, none, none] [] σ Q := by
  obtain ⟨κ, w, D', s', hk, ⟨v, rfl⟩, hp, hc, hm⟩ := hS
  obtain ⟨z, hz, hzr⟩ : ∃ z : Int, Op.cmpValue (FP.dcmp v v) .l = i32 z ∧ iR z := ⟨(Op.cmpValue (FP.dcmp v v) .l).toInt, (Int32.ofInt_toInt _).symm, Int32.le_toInt _, Int32.toInt_lt _⟩
  refine V_aldn1 a_L_law_1779 ?_
  refine V_aldn0 a_L_law_1780 ?_
  refine V_ild5 a_L_law_1781 ?_
  refine V_iconst a_L_law_1783 ?_
  refine V_iadd a_L_law_1784 ?_
  refine V_sld a_L_law_1785 (by omega) (by omega) ?_
  refine V_ald4 a_L_law_1786 ?_
  refine V_w3PR a_L_law_1788 c_L_266 (W_utilization hc) (fun τ hτ => ?_)
  obtain ⟨n1, c1, j1⟩ := hτ
  have e1 : τ.I 96 0 = σ.I 96 0 := n1.I n96_o7
  have e2 : τ.sl = σ.sl := n1.1
  have m1 := hm τ n1 c1 (hM.out n1 c1.wf no_o7)
  refine V_ist6 a_L_law_1791 ?_
  refine V_aldn2 a_L_law_1793 ?_
  refine V_aldn0 a_L_law_1794 ?_
  refine V_ild5 a_L_law_1795 ?_
  refine V_iconst a_L_law_1797 ?_
  refine V_iadd a_L_law_1798 ?_
  refine V_sldE a_L_law_1799 (by omega) (by omega) (congrFun e1 _) ?_
  refine V_v1PR a_L_law_1800 c_L_269 m1 (fun ρ hρ => ?_)
  obtain ⟨n2, ⟨A', q9, m2⟩, e6⟩ := hρ
  have c2 : CIv D' ρ (A', s'.2) := (c1.out n2 m2.1.2.1 no_ml).eq9 q9
  have e3 : ρ.I 96 0 = σ.I 96 0 := (n2.I n96_ml).trans e1
  have e4 : ρ.sl = σ.sl := n2.1.trans e2
  have j2 : κ = 0 → ρ.B 71 0 0 = v := fun z => by rw [n2.B n71_ml]; exact j1 z
  refine V_dst7 a_L_law_1803 ?_
  refine V_aldn2 a_L_law_1805 ?_
  refine V_v0R a_L_law_1806 c_L_183 (R_thrE e6) ?_
  refine V_ild6 a_L_law_1809 ?_
  refine V_icmp_eq_t a_L_law_1811 (by omega) (by omega) ?_
  refine V_ild6 a_L_law_1816 ?_
  refine V_if_ne a_L_law_1818 (by omega) (fun hc1818 => ?_) (fun hc1818 => ?_)
  · refine V_goto a_L_law_1853 ?_
    exact V_fg3 (kk ρ D' (A', s'.2) c2 m2 hp e4 e3)
  · refine V_ald4 a_L_law_1821 ?_
    refine V_iconst a_L_law_1823 ?_
    refine V_dald a_L_law_1824 rfl (by omega) ?_
    rw [j2 (by omega)]
    refine V_dld7 a_L_law_1825 ?_
    refine V_dcmp a_L_law_1827 hz ?_
    refine V_if_eq a_L_law_1828 (by omega) (fun hc1828 => ?_) (fun hc1828 => ?_)
    · refine V_goto a_L_law_1853 ?_
      exact V_fg3 (kk ρ D' (A', s'.2) c2 m2 hp e4 e3)
    · refine V_ald4 a_L_law_1831 ?_
      refine V_iconst a_L_law_1833 ?_
      refine V_dald a_L_law_1834 rfl (by omega) ?_
      rw [j2 (by omega)]
      refine V_ald4 a_L_law_1835 ?_
      refine V_iconst a_L_law_1837 ?_
      refine V_dald a_L_law_1838 rfl (by omega) ?_
      rw [j2 (by omega)]
      refine V_dcmp a_L_law_1839 hz ?_
      refine V_if_eq_f a_L_law_1840 (by omega) (by omega) ?_
      refine V_dld7 a_L_law_1843 ?_
      refine V_dld7 a_L_law_1845 ?_
      refine V_dcmp a_L_law_1847 hz ?_
      refine V_if_ne_t a_L_law_1848 (by omega) (by omega) ?_
      refine V_goto a_L_law_1853 ?_
      exact V_fg3 (kk ρ D' (A', s'.2) c2 m2 hp e4 e3)
theorem LC_exposure {σ : Hp} {D i : Int} {s : Lsv} {b bs : Nat} {Q : Res → Hp → Prop} (hi : 0 ≤ i ∧ i + 5 < (σ.sl : Int)) (hs : σ.sl ≤ 3072) (hM : MIv D σ s) (hS : Lstp D σ s m_X10_exposure m_X11_exposure [xIOB] [vI (σ.I 96 0 (i + 1))] okJ) (kk : Kq D σ s i b bs Q) : V m_L_law 17 (b + 61) (bs + 419) 1856 [some (vR (some (96, 0))), some (vR (some (10, 0))), some (vR (some (11, 0))), some (vR (some (70, 0))), some (vR (some (71, 0))), some (vI i), none, none, none] [] σ Q := by
  obtain ⟨κ, w, D', s', hk, ⟨v, rfl⟩, hp, hc, hm⟩ := hS
  refine V_aldn1 a_L_law_1856 ?_
  refine V_aldn0 a_L_law_1857 ?_
  refine V_ild5 a_L_law_1858 ?_
  refine V_iconst a_L_law_1860 ?_
  refine V_iadd a_L_law_1861 ?_
  refine V_sld a_L_law_1862 (by omega) (by omega) ?_
  refine V_aldn3 a_L_law_1863 ?_
  refine V_w3PR a_L_law_1864 c_L_270 (W_exposure hc) (fun τ hτ => ?_)
  obtain ⟨n1, c1, j1⟩ := hτ
  have e1 : τ.I 96 0 = σ.I 96 0 := n1.I n96_o7
  have e2 : τ.sl = σ.sl := n1.1
  have m1 := hm τ n1 c1 (hM.out n1 c1.wf no_o7)
  refine V_ist6 a_L_law_1867 ?_
  refine V_aldn2 a_L_law_1869 ?_
  refine V_aldn0 a_L_law_1870 ?_
  refine V_ild5 a_L_law_1871 ?_
  refine V_iconst a_L_law_1873 ?_
  refine V_iadd a_L_law_1874 ?_
  refine V_sldE a_L_law_1875 (by omega) (by omega) (congrFun e1 _) ?_
  refine V_v1PR a_L_law_1876 c_L_272 m1 (fun ρ hρ => ?_)
  obtain ⟨n2, ⟨A', q9, m2⟩, e6⟩ := hρ
  have c2 : CIv D' ρ (A', s'.2) := (c1.out n2 m2.1.2.1 no_ml).eq9 q9
  have e3 : ρ.I 96 0 = σ.I 96 0 := (n2.I n96_ml).trans e1
  have e4 : ρ.sl = σ.sl := n2.1.trans e2
  have j2 : κ = 0 → ρ.J 70 0 0 = v := fun z => by rw [n2.J n70_ml]; exact j1 z
  refine V_lst7 a_L_law_1879 ?_
  refine V_aldn2 a_L_law_1881 ?_
  refine V_v0R a_L_law_1882 c_L_183 (R_thrE e6) ?_
  refine V_ild6 a_L_law_1885 ?_
  refine V_icmp_eq_t a_L_law_1887 (by omega) (by omega) ?_
  refine V_ild6 a_L_law_1892 ?_
  refine V_if_ne a_L_law_1894 (by omega) (fun hc1894 => ?_) (fun hc1894 => ?_)
  · refine V_goto a_L_law_1908 ?_
    exact V_fg3 (kk ρ D' (A', s'.2) c2 m2 hp e4 e3)
  · refine V_aldn3 a_L_law_1897 ?_
    refine V_iconst a_L_law_1898 ?_
    refine V_laldE a_L_law_1899 rfl (by omega) (j2 (by omega)) ?_
    refine V_lld7 a_L_law_1900 ?_
    refine V_lcmpG a_L_law_1902 ?_
    rw [c64_self]
    refine V_if_eq_t a_L_law_1903 (by omega) (by omega) ?_
    refine V_goto a_L_law_1908 ?_
    exact V_fg3 (kk ρ D' (A', s'.2) c2 m2 hp e4 e3)
theorem LC_account {σ : Hp} {D i : Int} {s : Lsv} {b bs : Nat} {Q : Res → Hp → Prop} (hi : 0 ≤ i ∧ i + 5 < (σ.sl : Int)) (hs : σ.sl ≤ 3072) (hM : MIv D σ s) (hS : Lstp D σ s m_X10_account m_X11_account [xIAE] [vI (σ.I 96 0 (i + 1)), vI (σ.I 96 0 (i + 2))] okJ) (kk : Kq D σ s i b bs Q) : V m_L_law 17 (b + 61) (bs + 419) 1911 [some (vR (some (96, 0))), some (vR (some (10, 0))), some (vR (some (11, 0))), some (vR (some (70, 0))), some (vR (some (71, 0))), some (vI i), none, none, none] [] σ Q := by
  obtain ⟨κ, w, D', s', hk, ⟨v, rfl⟩, hp, hc, hm⟩ := hS
  refine V_aldn1 a_L_law_1911 ?_
  refine V_aldn0 a_L_law_1912 ?_
  refine V_ild5 a_L_law_1913 ?_
  refine V_iconst a_L_law_1915 ?_
  refine V_iadd a_L_law_1916 ?_
  refine V_sld a_L_law_1917 (by omega) (by omega) ?_
  refine V_aldn0 a_L_law_1918 ?_
  refine V_ild5 a_L_law_1919 ?_
  refine V_iconst a_L_law_1921 ?_
  refine V_iadd a_L_law_1922 ?_
  refine V_sld a_L_law_1923 (by omega) (by omega) ?_
  refine V_aldn3 a_L_law_1924 ?_
  refine V_w4PR a_L_law_1925 c_L_273 (W_account hc) (fun τ hτ => ?_)
  obtain ⟨n1, c1, j1⟩ := hτ
  have e1 : τ.I 96 0 = σ.I 96 0 := n1.I n96_o7
  have e2 : τ.sl = σ.sl := n1.1
  have m1 := hm τ n1 c1 (hM.out n1 c1.wf no_o7)
  refine V_ist6 a_L_law_1928 ?_
  refine V_aldn2 a_L_law_1930 ?_
  refine V_aldn0 a_L_law_1931 ?_
  refine V_ild5 a_L_law_1932 ?_
  refine V_iconst a_L_law_1934 ?_
  refine V_iadd a_L_law_1935 ?_
  refine V_sldE a_L_law_1936 (by omega) (by omega) (congrFun e1 _) ?_
  refine V_aldn0 a_L_law_1937 ?_
  refine V_ild5 a_L_law_1938 ?_
  refine V_iconst a_L_law_1940 ?_
  refine V_iadd a_L_law_1941 ?_
  refine V_sldE a_L_law_1942 (by omega) (by omega) (congrFun e1 _) ?_
  refine V_v2PR a_L_law_1943 c_L_275 m1 (fun ρ hρ => ?_)
  obtain ⟨n2, ⟨A', q9, m2⟩, e6⟩ := hρ
  have c2 : CIv D' ρ (A', s'.2) := (c1.out n2 m2.1.2.1 no_ml).eq9 q9
  have e3 : ρ.I 96 0 = σ.I 96 0 := (n2.I n96_ml).trans e1
  have e4 : ρ.sl = σ.sl := n2.1.trans e2
  have j2 : κ = 0 → ρ.J 70 0 0 = v := fun z => by rw [n2.J n70_ml]; exact j1 z
  refine V_lst7 a_L_law_1946 ?_
  refine V_aldn2 a_L_law_1948 ?_
  refine V_v0R a_L_law_1949 c_L_183 (R_thrE e6) ?_
  refine V_ild6 a_L_law_1952 ?_
  refine V_icmp_eq_t a_L_law_1954 (by omega) (by omega) ?_
  refine V_ild6 a_L_law_1959 ?_
  refine V_if_ne a_L_law_1961 (by omega) (fun hc1961 => ?_) (fun hc1961 => ?_)
  · refine V_goto a_L_law_1975 ?_
    exact V_fg3 (kk ρ D' (A', s'.2) c2 m2 hp e4 e3)
  · refine V_aldn3 a_L_law_1964 ?_
    refine V_iconst a_L_law_1965 ?_
    refine V_laldE a_L_law_1966 rfl (by omega) (j2 (by omega)) ?_
    refine V_lld7 a_L_law_1967 ?_
    refine V_lcmpG a_L_law_1969 ?_
    rw [c64_self]
    refine V_if_eq_t a_L_law_1970 (by omega) (by omega) ?_
    refine V_goto a_L_law_1975 ?_
    exact V_fg3 (kk ρ D' (A', s'.2) c2 m2 hp e4 e3)
theorem LC_openLoan {σ : Hp} {D i : Int} {s : Lsv} {b bs : Nat} {Q : Res → Hp → Prop} (hi : 0 ≤ i ∧ i + 5 < (σ.sl : Int)) (hs : σ.sl ≤ 3072) (hM : MIv D σ s) (hS : Lstp D σ s m_X10_openLoan m_X11_openLoan [xIOB] [vI (σ.I 96 0 (i + 1))] okI) (kk : Kq D σ s i b bs Q) : V m_L_law 17 (b + 61) (bs + 419) 1978 [some (vR (some (96, 0))), some (vR (some (10, 0))), some (vR (some (11, 0))), some (vR (some (70, 0))), some (vR (some (71, 0))), some (vI i), none, none, none] [] σ Q := by
  obtain ⟨κ, w, D', s', hk, ⟨v, rfl⟩, hp, hc, hm⟩ := hS
  refine V_aldn1 a_L_law_1978 ?_
  refine V_aldn0 a_L_law_1979 ?_
  refine V_ild5 a_L_law_1980 ?_
  refine V_iconst a_L_law_1982 ?_
  refine V_iadd a_L_law_1983 ?_
  refine V_sld a_L_law_1984 (by omega) (by omega) ?_
  refine V_aldn3 a_L_law_1985 ?_
  refine V_w3PR a_L_law_1986 c_L_276 (W_openLoan hc) (fun τ hτ => ?_)
  obtain ⟨n1, c1, j1⟩ := hτ
  have e1 : τ.I 96 0 = σ.I 96 0 := n1.I n96_o7
  have e2 : τ.sl = σ.sl := n1.1
  have m1 := hm τ n1 c1 (hM.out n1 c1.wf no_o7)
  refine V_ist6 a_L_law_1989 ?_
  refine V_aldn2 a_L_law_1991 ?_
  refine V_aldn0 a_L_law_1992 ?_
  refine V_ild5 a_L_law_1993 ?_
  refine V_iconst a_L_law_1995 ?_
  refine V_iadd a_L_law_1996 ?_
  refine V_sldE a_L_law_1997 (by omega) (by omega) (congrFun e1 _) ?_
  refine V_v1PR a_L_law_1998 c_L_278 m1 (fun ρ hρ => ?_)
  obtain ⟨n2, ⟨A', q9, m2⟩, e6⟩ := hρ
  have c2 : CIv D' ρ (A', s'.2) := (c1.out n2 m2.1.2.1 no_ml).eq9 q9
  have e3 : ρ.I 96 0 = σ.I 96 0 := (n2.I n96_ml).trans e1
  have e4 : ρ.sl = σ.sl := n2.1.trans e2
  have j2 : κ = 0 → ρ.J 70 0 0 = v.bmod (2 ^ 32) := fun z => by rw [n2.J n70_ml]; exact j1 z
  refine V_ist7 a_L_law_2001 ?_
  refine V_aldn2 a_L_law_2003 ?_
  refine V_v0R a_L_law_2004 c_L_183 (R_thrE e6) ?_
  refine V_ild6 a_L_law_2007 ?_
  refine V_icmp_eq_t a_L_law_2009 (by omega) (by omega) ?_
  refine V_ild6 a_L_law_2014 ?_
  refine V_if_ne a_L_law_2016 (by omega) (fun hc2016 => ?_) (fun hc2016 => ?_)
  · refine V_goto a_L_law_2031 ?_
    exact V_fg3 (kk ρ D' (A', s'.2) c2 m2 hp e4 e3)
  · refine V_aldn3 a_L_law_2019 ?_
    refine V_iconst a_L_law_2020 ?_
    refine V_laldE a_L_law_2021 rfl (by omega) (j2 (by omega)) ?_
    refine V_ild7 a_L_law_2022 ?_
    refine V_i2lM a_L_law_2024 ?_
    refine V_lcmpG a_L_law_2025 ?_
    rw [c64_self]
    refine V_if_eq_t a_L_law_2026 (by omega) (by omega) ?_
    refine V_goto a_L_law_2031 ?_
    exact V_fg3 (kk ρ D' (A', s'.2) c2 m2 hp e4 e3)
theorem LC_loan {σ : Hp} {D i : Int} {s : Lsv} {b bs : Nat} {Q : Res → Hp → Prop} (hi : 0 ≤ i ∧ i + 5 < (σ.sl : Int)) (hs : σ.sl ≤ 3072) (hM : MIv D σ s) (hS : Lstp D σ s m_X10_loan m_X11_loan [xIOB, xIAE] [vI (σ.I 96 0 (i + 1)), vI (σ.I 96 0 (i + 2))] okI) (kk : Kq D σ s i b bs Q) : V m_L_law 17 (b + 61) (bs + 419) 2034 [some (vR (some (96, 0))), some (vR (some (10, 0))), some (vR (some (11, 0))), some (vR (some (70, 0))), some (vR (some (71, 0))), some (vI i), none, none, none] [] σ Q := by
  obtain ⟨κ, w, D', s', hk, ⟨v, rfl⟩, hp, hc, hm⟩ := hS
  refine V_aldn1 a_L_law_2034 ?_
  refine V_aldn0 a_L_law_2035 ?_
  refine V_ild5 a_L_law_2036 ?_
  refine V_iconst a_L_law_2038 ?_
  refine V_iadd a_L_law_2039 ?_
  refine V_sld a_L_law_2040 (by omega) (by omega) ?_
  refine V_aldn0 a_L_law_2041 ?_
  refine V_ild5 a_L_law_2042 ?_
  refine V_iconst a_L_law_2044 ?_
  refine V_iadd a_L_law_2045 ?_
  refine V_sld a_L_law_2046 (by omega) (by omega) ?_
  refine V_aldn3 a_L_law_2047 ?_
  refine V_w4PR a_L_law_2048 c_L_279 (W_loan hc) (fun τ hτ => ?_)
  obtain ⟨n1, c1, j1⟩ := hτ
  have e1 : τ.I 96 0 = σ.I 96 0 := n1.I n96_o7
  have e2 : τ.sl = σ.sl := n1.1
  have m1 := hm τ n1 c1 (hM.out n1 c1.wf no_o7)
  refine V_ist6 a_L_law_2051 ?_
  refine V_aldn2 a_L_law_2053 ?_
  refine V_aldn0 a_L_law_2054 ?_
  refine V_ild5 a_L_law_2055 ?_
  refine V_iconst a_L_law_2057 ?_
  refine V_iadd a_L_law_2058 ?_
  refine V_sldE a_L_law_2059 (by omega) (by omega) (congrFun e1 _) ?_
  refine V_aldn0 a_L_law_2060 ?_
  refine V_ild5 a_L_law_2061 ?_
  refine V_iconst a_L_law_2063 ?_
  refine V_iadd a_L_law_2064 ?_
  refine V_sldE a_L_law_2065 (by omega) (by omega) (congrFun e1 _) ?_
  refine V_v2PR a_L_law_2066 c_L_281 m1 (fun ρ hρ => ?_)
  obtain ⟨n2, ⟨A', q9, m2⟩, e6⟩ := hρ
  have c2 : CIv D' ρ (A', s'.2) := (c1.out n2 m2.1.2.1 no_ml).eq9 q9
  have e3 : ρ.I 96 0 = σ.I 96 0 := (n2.I n96_ml).trans e1
  have e4 : ρ.sl = σ.sl := n2.1.trans e2
  have j2 : κ = 0 → ρ.J 70 0 0 = v.bmod (2 ^ 32) := fun z => by rw [n2.J n70_ml]; exact j1 z
  refine V_ist7 a_L_law_2069 ?_
  refine V_aldn2 a_L_law_2071 ?_
  refine V_v0R a_L_law_2072 c_L_183 (R_thrE e6) ?_
  refine V_ild6 a_L_law_2075 ?_
  refine V_icmp_eq_t a_L_law_2077 (by omega) (by omega) ?_
  refine V_ild6 a_L_law_2082 ?_
  refine V_if_ne a_L_law_2084 (by omega) (fun hc2084 => ?_) (fun hc2084 => ?_)
  · refine V_goto a_L_law_2099 ?_
    exact V_fg3 (kk ρ D' (A', s'.2) c2 m2 hp e4 e3)
  · refine V_aldn3 a_L_law_2087 ?_
    refine V_iconst a_L_law_2088 ?_
    refine V_laldE a_L_law_2089 rfl (by omega) (j2 (by omega)) ?_
    refine V_ild7 a_L_law_2090 ?_
    refine V_i2lM a_L_law_2092 ?_
    refine V_lcmpG a_L_law_2093 ?_
    rw [c64_self]
    refine V_if_eq_t a_L_law_2094 (by omega) (by omega) ?_
    refine V_goto a_L_law_2099 ?_
    exact V_fg3 (kk ρ D' (A', s'.2) c2 m2 hp e4 e3)
theorem LC_slice {σ : Hp} {D i : Int} {s : Lsv} {b bs : Nat} {Q : Res → Hp → Prop} (hi : 0 ≤ i ∧ i + 5 < (σ.sl : Int)) (hs : σ.sl ≤ 3072) (hM : MIv D σ s) (hS : Lstp D σ s m_X10_slice m_X11_slice [xIOB, xIAE] [vI (σ.I 96 0 (i + 1)), vI (σ.I 96 0 (i + 2)), vI (σ.I 96 0 (i + 3))] okI) (kk : Kq D σ s i b bs Q) : V m_L_law 17 (b + 61) (bs + 419) 2102 [some (vR (some (96, 0))), some (vR (some (10, 0))), some (vR (some (11, 0))), some (vR (some (70, 0))), some (vR (some (71, 0))), some (vI i), none, none, none] [] σ Q := by
  obtain ⟨κ, w, D', s', hk, ⟨v, rfl⟩, hp, hc, hm⟩ := hS
  refine V_aldn1 a_L_law_2102 ?_
  refine V_aldn0 a_L_law_2103 ?_
  refine V_ild5 a_L_law_2104 ?_
  refine V_iconst a_L_law_2106 ?_
  refine V_iadd a_L_law_2107 ?_
  refine V_sld a_L_law_2108 (by omega) (by omega) ?_
  refine V_aldn0 a_L_law_2109 ?_
  refine V_ild5 a_L_law_2110 ?_
  refine V_iconst a_L_law_2112 ?_
  refine V_iadd a_L_law_2113 ?_
  refine V_sld a_L_law_2114 (by omega) (by omega) ?_
  refine V_aldn0 a_L_law_2115 ?_
  refine V_ild5 a_L_law_2116 ?_
  refine V_iconst a_L_law_2118 ?_
  refine V_iadd a_L_law_2119 ?_
  refine V_sld a_L_law_2120 (by omega) (by omega) ?_
  refine V_aldn3 a_L_law_2121 ?_
  refine V_w5PR a_L_law_2122 c_L_282 (W_slice hc) (fun τ hτ => ?_)
  obtain ⟨n1, c1, j1⟩ := hτ
  have e1 : τ.I 96 0 = σ.I 96 0 := n1.I n96_o7
  have e2 : τ.sl = σ.sl := n1.1
  have m1 := hm τ n1 c1 (hM.out n1 c1.wf no_o7)
  refine V_ist6 a_L_law_2125 ?_
  refine V_aldn2 a_L_law_2127 ?_
  refine V_aldn0 a_L_law_2128 ?_
  refine V_ild5 a_L_law_2129 ?_
  refine V_iconst a_L_law_2131 ?_
  refine V_iadd a_L_law_2132 ?_
  refine V_sldE a_L_law_2133 (by omega) (by omega) (congrFun e1 _) ?_
  refine V_aldn0 a_L_law_2134 ?_
  refine V_ild5 a_L_law_2135 ?_
  refine V_iconst a_L_law_2137 ?_
  refine V_iadd a_L_law_2138 ?_
  refine V_sldE a_L_law_2139 (by omega) (by omega) (congrFun e1 _) ?_
  refine V_aldn0 a_L_law_2140 ?_
  refine V_ild5 a_L_law_2141 ?_
  refine V_iconst a_L_law_2143 ?_
  refine V_iadd a_L_law_2144 ?_
  refine V_sldE a_L_law_2145 (by omega) (by omega) (congrFun e1 _) ?_
  refine V_v3PR a_L_law_2146 c_L_284 m1 (fun ρ hρ => ?_)
  obtain ⟨n2, ⟨A', q9, m2⟩, e6⟩ := hρ
  have c2 : CIv D' ρ (A', s'.2) := (c1.out n2 m2.1.2.1 no_ml).eq9 q9
  have e3 : ρ.I 96 0 = σ.I 96 0 := (n2.I n96_ml).trans e1
  have e4 : ρ.sl = σ.sl := n2.1.trans e2
  have j2 : κ = 0 → ρ.J 70 0 0 = v.bmod (2 ^ 32) := fun z => by rw [n2.J n70_ml]; exact j1 z
  refine V_ist7 a_L_law_2149 ?_
  refine V_aldn2 a_L_law_2151 ?_
  refine V_v0R a_L_law_2152 c_L_183 (R_thrE e6) ?_
  refine V_ild6 a_L_law_2155 ?_
  refine V_icmp_eq_t a_L_law_2157 (by omega) (by omega) ?_
  refine V_ild6 a_L_law_2162 ?_
  refine V_if_ne a_L_law_2164 (by omega) (fun hc2164 => ?_) (fun hc2164 => ?_)
  · refine V_goto a_L_law_2179 ?_
    exact V_fg3 (kk ρ D' (A', s'.2) c2 m2 hp e4 e3)
  · refine V_aldn3 a_L_law_2167 ?_
    refine V_iconst a_L_law_2168 ?_
    refine V_laldE a_L_law_2169 rfl (by omega) (j2 (by omega)) ?_
    refine V_ild7 a_L_law_2170 ?_
    refine V_i2lM a_L_law_2172 ?_
    refine V_lcmpG a_L_law_2173 ?_
    rw [c64_self]
    refine V_if_eq_t a_L_law_2174 (by omega) (by omega) ?_
    refine V_goto a_L_law_2179 ?_
    exact V_fg3 (kk ρ D' (A', s'.2) c2 m2 hp e4 e3)
theorem LC_dailyFee {σ : Hp} {D i : Int} {s : Lsv} {b bs : Nat} {Q : Res → Hp → Prop} (hi : 0 ≤ i ∧ i + 5 < (σ.sl : Int)) (hs : σ.sl ≤ 3072) (hM : MIv D σ s) (hS : Lstp D σ s m_X10_dailyFee m_X11_dailyFee [xIOB] [vI (σ.I 96 0 (i + 1))] okJ) (kk : Kq D σ s i b bs Q) : V m_L_law 17 (b + 61) (bs + 419) 2182 [some (vR (some (96, 0))), some (vR (some (10, 0))), some (vR (some (11, 0))), some (vR (some (70, 0))), some (vR (some (71, 0))), some (vI i), none, none, none] [] σ Q := by
  obtain ⟨κ, w, D', s', hk, ⟨v, rfl⟩, hp, hc, hm⟩ := hS
  refine V_aldn1 a_L_law_2182 ?_
  refine V_aldn0 a_L_law_2183 ?_
  refine V_ild5 a_L_law_2184 ?_
  refine V_iconst a_L_law_2186 ?_
  refine V_iadd a_L_law_2187 ?_
  refine V_sld a_L_law_2188 (by omega) (by omega) ?_
  refine V_aldn3 a_L_law_2189 ?_
  refine V_w3PR a_L_law_2190 c_L_285 (W_dailyFee hc) (fun τ hτ => ?_)
  obtain ⟨n1, c1, j1⟩ := hτ
  have e1 : τ.I 96 0 = σ.I 96 0 := n1.I n96_o7
  have e2 : τ.sl = σ.sl := n1.1
  have m1 := hm τ n1 c1 (hM.out n1 c1.wf no_o7)
  refine V_ist6 a_L_law_2193 ?_
  refine V_aldn2 a_L_law_2195 ?_
  refine V_aldn0 a_L_law_2196 ?_
  refine V_ild5 a_L_law_2197 ?_
  refine V_iconst a_L_law_2199 ?_
  refine V_iadd a_L_law_2200 ?_
  refine V_sldE a_L_law_2201 (by omega) (by omega) (congrFun e1 _) ?_
  refine V_v1PR a_L_law_2202 c_L_287 m1 (fun ρ hρ => ?_)
  obtain ⟨n2, ⟨A', q9, m2⟩, e6⟩ := hρ
  have c2 : CIv D' ρ (A', s'.2) := (c1.out n2 m2.1.2.1 no_ml).eq9 q9
  have e3 : ρ.I 96 0 = σ.I 96 0 := (n2.I n96_ml).trans e1
  have e4 : ρ.sl = σ.sl := n2.1.trans e2
  have j2 : κ = 0 → ρ.J 70 0 0 = v := fun z => by rw [n2.J n70_ml]; exact j1 z
  refine V_lst7 a_L_law_2205 ?_
  refine V_aldn2 a_L_law_2207 ?_
  refine V_v0R a_L_law_2208 c_L_183 (R_thrE e6) ?_
  refine V_ild6 a_L_law_2211 ?_
  refine V_icmp_eq_t a_L_law_2213 (by omega) (by omega) ?_
  refine V_ild6 a_L_law_2218 ?_
  refine V_if_ne a_L_law_2220 (by omega) (fun hc2220 => ?_) (fun hc2220 => ?_)
  · refine V_goto a_L_law_2234 ?_
    exact V_fg3 (kk ρ D' (A', s'.2) c2 m2 hp e4 e3)
  · refine V_aldn3 a_L_law_2223 ?_
    refine V_iconst a_L_law_2224 ?_
    refine V_laldE a_L_law_2225 rfl (by omega) (j2 (by omega)) ?_
    refine V_lld7 a_L_law_2226 ?_
    refine V_lcmpG a_L_law_2228 ?_
    rw [c64_self]
    refine V_if_eq_t a_L_law_2229 (by omega) (by omega) ?_
    refine V_goto a_L_law_2234 ?_
    exact V_fg3 (kk ρ D' (A', s'.2) c2 m2 hp e4 e3)
theorem LC_recallable {σ : Hp} {D i : Int} {s : Lsv} {b bs : Nat} {Q : Res → Hp → Prop} (hi : 0 ≤ i ∧ i + 5 < (σ.sl : Int)) (hs : σ.sl ≤ 3072) (hM : MIv D σ s) (hS : Lstp D σ s m_X10_recallable m_X11_recallable [xIOB] [vI (σ.I 96 0 (i + 1)), vI (σ.I 96 0 (i + 2))] okI) (kk : Kq D σ s i b bs Q) : V m_L_law 17 (b + 61) (bs + 419) 2237 [some (vR (some (96, 0))), some (vR (some (10, 0))), some (vR (some (11, 0))), some (vR (some (70, 0))), some (vR (some (71, 0))), some (vI i), none, none, none] [] σ Q := by
  obtain ⟨κ, w, D', s', hk, ⟨v, rfl⟩, hp, hc, hm⟩ := hS
  refine V_aldn1 a_L_law_2237 ?_
  refine V_aldn0 a_L_law_2238 ?_
  refine V_ild5 a_L_law_2239 ?_
  refine V_iconst a_L_law_2241 ?_
  refine V_iadd a_L_law_2242 ?_
  refine V_sld a_L_law_2243 (by omega) (by omega) ?_
  refine V_aldn0 a_L_law_2244 ?_
  refine V_ild5 a_L_law_2245 ?_
  refine V_iconst a_L_law_2247 ?_
  refine V_iadd a_L_law_2248 ?_
  refine V_sld a_L_law_2249 (by omega) (by omega) ?_
  refine V_aldn3 a_L_law_2250 ?_
  refine V_w4PR a_L_law_2251 c_L_288 (W_recallable hc) (fun τ hτ => ?_)
  obtain ⟨n1, c1, j1⟩ := hτ
  have e1 : τ.I 96 0 = σ.I 96 0 := n1.I n96_o7
  have e2 : τ.sl = σ.sl := n1.1
  have m1 := hm τ n1 c1 (hM.out n1 c1.wf no_o7)
  refine V_ist6 a_L_law_2254 ?_
  refine V_aldn2 a_L_law_2256 ?_
  refine V_aldn0 a_L_law_2257 ?_
  refine V_ild5 a_L_law_2258 ?_
  refine V_iconst a_L_law_2260 ?_
  refine V_iadd a_L_law_2261 ?_
  refine V_sldE a_L_law_2262 (by omega) (by omega) (congrFun e1 _) ?_
  refine V_aldn0 a_L_law_2263 ?_
  refine V_ild5 a_L_law_2264 ?_
  refine V_iconst a_L_law_2266 ?_
  refine V_iadd a_L_law_2267 ?_
  refine V_sldE a_L_law_2268 (by omega) (by omega) (congrFun e1 _) ?_
  refine V_v2PR a_L_law_2269 c_L_290 m1 (fun ρ hρ => ?_)
  obtain ⟨n2, ⟨A', q9, m2⟩, e6⟩ := hρ
  have c2 : CIv D' ρ (A', s'.2) := (c1.out n2 m2.1.2.1 no_ml).eq9 q9
  have e3 : ρ.I 96 0 = σ.I 96 0 := (n2.I n96_ml).trans e1
  have e4 : ρ.sl = σ.sl := n2.1.trans e2
  have j2 : κ = 0 → ρ.J 70 0 0 = v.bmod (2 ^ 32) := fun z => by rw [n2.J n70_ml]; exact j1 z
  refine V_ist7 a_L_law_2272 ?_
  refine V_aldn2 a_L_law_2274 ?_
  refine V_v0R a_L_law_2275 c_L_183 (R_thrE e6) ?_
  refine V_ild6 a_L_law_2278 ?_
  refine V_icmp_eq_t a_L_law_2280 (by omega) (by omega) ?_
  refine V_ild6 a_L_law_2285 ?_
  refine V_if_ne a_L_law_2287 (by omega) (fun hc2287 => ?_) (fun hc2287 => ?_)
  · refine V_goto a_L_law_2302 ?_
    exact V_fg3 (kk ρ D' (A', s'.2) c2 m2 hp e4 e3)
  · refine V_aldn3 a_L_law_2290 ?_
    refine V_iconst a_L_law_2291 ?_
    refine V_laldE a_L_law_2292 rfl (by omega) (j2 (by omega)) ?_
    refine V_ild7 a_L_law_2293 ?_
    refine V_i2lM a_L_law_2295 ?_
    refine V_lcmpG a_L_law_2296 ?_
    rw [c64_self]
    refine V_if_eq_t a_L_law_2297 (by omega) (by omega) ?_
    refine V_goto a_L_law_2302 ?_
    exact V_fg3 (kk ρ D' (A', s'.2) c2 m2 hp e4 e3)
theorem LC_recallOrder {σ : Hp} {D i : Int} {s : Lsv} {b bs : Nat} {Q : Res → Hp → Prop} (hi : 0 ≤ i ∧ i + 5 < (σ.sl : Int)) (hs : σ.sl ≤ 3072) (hM : MIv D σ s) (hS : Lstp D σ s m_X10_recallOrder m_X11_recallOrder [xIOB] [vI (σ.I 96 0 (i + 1)), vI (σ.I 96 0 (i + 2)), vI (σ.I 96 0 (i + 3))] okI) (kk : Kq D σ s i b bs Q) : V m_L_law 17 (b + 61) (bs + 419) 2305 [some (vR (some (96, 0))), some (vR (some (10, 0))), some (vR (some (11, 0))), some (vR (some (70, 0))), some (vR (some (71, 0))), some (vI i), none, none, none] [] σ Q := by
  obtain ⟨κ, w, D', s', hk, ⟨v, rfl⟩, hp, hc, hm⟩ := hS
  refine V_aldn1 a_L_law_2305 ?_
  refine V_aldn0 a_L_law_2306 ?_
  refine V_ild5 a_L_law_2307 ?_
  refine V_iconst a_L_law_2309 ?_
  refine V_iadd a_L_law_2310 ?_
  refine V_sld a_L_law_2311 (by omega) (by omega) ?_
  refine V_aldn0 a_L_law_2312 ?_
  refine V_ild5 a_L_law_2313 ?_
  refine V_iconst a_L_law_2315 ?_
  refine V_iadd a_L_law_2316 ?_
  refine V_sld a_L_law_2317 (by omega) (by omega) ?_
  refine V_aldn0 a_L_law_2318 ?_
  refine V_ild5 a_L_law_2319 ?_
  refine V_iconst a_L_law_2321 ?_
  refine V_iadd a_L_law_2322 ?_
  refine V_sld a_L_law_2323 (by omega) (by omega) ?_
  refine V_aldn3 a_L_law_2324 ?_
  refine V_w5PR a_L_law_2325 c_L_291 (W_recallOrder hc) (fun τ hτ => ?_)
  obtain ⟨n1, c1, j1⟩ := hτ
  have e1 : τ.I 96 0 = σ.I 96 0 := n1.I n96_o7
  have e2 : τ.sl = σ.sl := n1.1
  have m1 := hm τ n1 c1 (hM.out n1 c1.wf no_o7)
  refine V_ist6 a_L_law_2328 ?_
  refine V_aldn2 a_L_law_2330 ?_
  refine V_aldn0 a_L_law_2331 ?_
  refine V_ild5 a_L_law_2332 ?_
  refine V_iconst a_L_law_2334 ?_
  refine V_iadd a_L_law_2335 ?_
  refine V_sldE a_L_law_2336 (by omega) (by omega) (congrFun e1 _) ?_
  refine V_aldn0 a_L_law_2337 ?_
  refine V_ild5 a_L_law_2338 ?_
  refine V_iconst a_L_law_2340 ?_
  refine V_iadd a_L_law_2341 ?_
  refine V_sldE a_L_law_2342 (by omega) (by omega) (congrFun e1 _) ?_
  refine V_aldn0 a_L_law_2343 ?_
  refine V_ild5 a_L_law_2344 ?_
  refine V_iconst a_L_law_2346 ?_
  refine V_iadd a_L_law_2347 ?_
  refine V_sldE a_L_law_2348 (by omega) (by omega) (congrFun e1 _) ?_
  refine V_v3PR a_L_law_2349 c_L_293 m1 (fun ρ hρ => ?_)
  obtain ⟨n2, ⟨A', q9, m2⟩, e6⟩ := hρ
  have c2 : CIv D' ρ (A', s'.2) := (c1.out n2 m2.1.2.1 no_ml).eq9 q9
  have e3 : ρ.I 96 0 = σ.I 96 0 := (n2.I n96_ml).trans e1
  have e4 : ρ.sl = σ.sl := n2.1.trans e2
  have j2 : κ = 0 → ρ.J 70 0 0 = v.bmod (2 ^ 32) := fun z => by rw [n2.J n70_ml]; exact j1 z
  refine V_ist7 a_L_law_2352 ?_
  refine V_aldn2 a_L_law_2354 ?_
  refine V_v0R a_L_law_2355 c_L_183 (R_thrE e6) ?_
  refine V_ild6 a_L_law_2358 ?_
  refine V_icmp_eq_t a_L_law_2360 (by omega) (by omega) ?_
  refine V_ild6 a_L_law_2365 ?_
  refine V_if_ne a_L_law_2367 (by omega) (fun hc2367 => ?_) (fun hc2367 => ?_)
  · refine V_goto a_L_law_2382 ?_
    exact V_fg3 (kk ρ D' (A', s'.2) c2 m2 hp e4 e3)
  · refine V_aldn3 a_L_law_2370 ?_
    refine V_iconst a_L_law_2371 ?_
    refine V_laldE a_L_law_2372 rfl (by omega) (j2 (by omega)) ?_
    refine V_ild7 a_L_law_2373 ?_
    refine V_i2lM a_L_law_2375 ?_
    refine V_lcmpG a_L_law_2376 ?_
    rw [c64_self]
    refine V_if_eq_t a_L_law_2377 (by omega) (by omega) ?_
    refine V_goto a_L_law_2382 ?_
    exact V_fg3 (kk ρ D' (A', s'.2) c2 m2 hp e4 e3)
theorem LC_returnOrder {σ : Hp} {D i : Int} {s : Lsv} {b bs : Nat} {Q : Res → Hp → Prop} (hi : 0 ≤ i ∧ i + 5 < (σ.sl : Int)) (hs : σ.sl ≤ 3072) (hM : MIv D σ s) (hS : Lstp D σ s m_X10_returnOrder m_X11_returnOrder [xIOB] [vI (σ.I 96 0 (i + 1)), vI (σ.I 96 0 (i + 2))] okI) (kk : Kq D σ s i b bs Q) : V m_L_law 17 (b + 61) (bs + 419) 2385 [some (vR (some (96, 0))), some (vR (some (10, 0))), some (vR (some (11, 0))), some (vR (some (70, 0))), some (vR (some (71, 0))), some (vI i), none, none, none] [] σ Q := by
  obtain ⟨κ, w, D', s', hk, ⟨v, rfl⟩, hp, hc, hm⟩ := hS
  refine V_aldn1 a_L_law_2385 ?_
  refine V_aldn0 a_L_law_2386 ?_
  refine V_ild5 a_L_law_2387 ?_
  refine V_iconst a_L_law_2389 ?_
  refine V_iadd a_L_law_2390 ?_
  refine V_sld a_L_law_2391 (by omega) (by omega) ?_
  refine V_aldn0 a_L_law_2392 ?_
  refine V_ild5 a_L_law_2393 ?_
  refine V_iconst a_L_law_2395 ?_
  refine V_iadd a_L_law_2396 ?_
  refine V_sld a_L_law_2397 (by omega) (by omega) ?_
  refine V_aldn3 a_L_law_2398 ?_
  refine V_w4PR a_L_law_2399 c_L_294 (W_returnOrder hc) (fun τ hτ => ?_)
  obtain ⟨n1, c1, j1⟩ := hτ
  have e1 : τ.I 96 0 = σ.I 96 0 := n1.I n96_o7
  have e2 : τ.sl = σ.sl := n1.1
  have m1 := hm τ n1 c1 (hM.out n1 c1.wf no_o7)
  refine V_ist6 a_L_law_2402 ?_
  refine V_aldn2 a_L_law_2404 ?_
  refine V_aldn0 a_L_law_2405 ?_
  refine V_ild5 a_L_law_2406 ?_
  refine V_iconst a_L_law_2408 ?_
  refine V_iadd a_L_law_2409 ?_
  refine V_sldE a_L_law_2410 (by omega) (by omega) (congrFun e1 _) ?_
  refine V_aldn0 a_L_law_2411 ?_
  refine V_ild5 a_L_law_2412 ?_
  refine V_iconst a_L_law_2414 ?_
  refine V_iadd a_L_law_2415 ?_
  refine V_sldE a_L_law_2416 (by omega) (by omega) (congrFun e1 _) ?_
  refine V_v2PR a_L_law_2417 c_L_296 m1 (fun ρ hρ => ?_)
  obtain ⟨n2, ⟨A', q9, m2⟩, e6⟩ := hρ
  have c2 : CIv D' ρ (A', s'.2) := (c1.out n2 m2.1.2.1 no_ml).eq9 q9
  have e3 : ρ.I 96 0 = σ.I 96 0 := (n2.I n96_ml).trans e1
  have e4 : ρ.sl = σ.sl := n2.1.trans e2
  have j2 : κ = 0 → ρ.J 70 0 0 = v.bmod (2 ^ 32) := fun z => by rw [n2.J n70_ml]; exact j1 z
  refine V_ist7 a_L_law_2420 ?_
  refine V_aldn2 a_L_law_2422 ?_
  refine V_v0R a_L_law_2423 c_L_183 (R_thrE e6) ?_
  refine V_ild6 a_L_law_2426 ?_
  refine V_icmp_eq_t a_L_law_2428 (by omega) (by omega) ?_
  refine V_ild6 a_L_law_2433 ?_
  refine V_if_ne a_L_law_2435 (by omega) (fun hc2435 => ?_) (fun hc2435 => ?_)
  · refine V_goto a_L_law_2450 ?_
    exact V_fg3 (kk ρ D' (A', s'.2) c2 m2 hp e4 e3)
  · refine V_aldn3 a_L_law_2438 ?_
    refine V_iconst a_L_law_2439 ?_
    refine V_laldE a_L_law_2440 rfl (by omega) (j2 (by omega)) ?_
    refine V_ild7 a_L_law_2441 ?_
    refine V_i2lM a_L_law_2443 ?_
    refine V_lcmpG a_L_law_2444 ?_
    rw [c64_self]
    refine V_if_eq_t a_L_law_2445 (by omega) (by omega) ?_
    refine V_goto a_L_law_2450 ?_
    exact V_fg3 (kk ρ D' (A', s'.2) c2 m2 hp e4 e3)
theorem LC_quote {σ : Hp} {D i : Int} {s : Lsv} {b bs : Nat} {Q : Res → Hp → Prop} (hi : 0 ≤ i ∧ i + 5 < (σ.sl : Int)) (hs : σ.sl ≤ 3072) (hM : MIv D σ s) (hS : Lstp D σ s m_X10_quote m_X11_quote [xIOB, xIAE, xISE] [vI (σ.I 96 0 (i + 1)), vI (σ.I 96 0 (i + 2)), vI (σ.I 96 0 (i + 3))] okI) (kk : Kq D σ s i b bs Q) : V m_L_law 17 (b + 61) (bs + 419) 2453 [some (vR (some (96, 0))), some (vR (some (10, 0))), some (vR (some (11, 0))), some (vR (some (70, 0))), some (vR (some (71, 0))), some (vI i), none, none, none] [] σ Q := by
  obtain ⟨κ, w, D', s', hk, ⟨v, rfl⟩, hp, hc, hm⟩ := hS
  refine V_aldn1 a_L_law_2453 ?_
  refine V_aldn0 a_L_law_2454 ?_
  refine V_ild5 a_L_law_2455 ?_
  refine V_iconst a_L_law_2457 ?_
  refine V_iadd a_L_law_2458 ?_
  refine V_sld a_L_law_2459 (by omega) (by omega) ?_
  refine V_aldn0 a_L_law_2460 ?_
  refine V_ild5 a_L_law_2461 ?_
  refine V_iconst a_L_law_2463 ?_
  refine V_iadd a_L_law_2464 ?_
  refine V_sld a_L_law_2465 (by omega) (by omega) ?_
  refine V_aldn0 a_L_law_2466 ?_
  refine V_ild5 a_L_law_2467 ?_
  refine V_iconst a_L_law_2469 ?_
  refine V_iadd a_L_law_2470 ?_
  refine V_sld a_L_law_2471 (by omega) (by omega) ?_
  refine V_aldn3 a_L_law_2472 ?_
  refine V_w5PR a_L_law_2473 c_L_297 (W_quote hc) (fun τ hτ => ?_)
  obtain ⟨n1, c1, j1⟩ := hτ
  have e1 : τ.I 96 0 = σ.I 96 0 := n1.I n96_o7
  have e2 : τ.sl = σ.sl := n1.1
  have m1 := hm τ n1 c1 (hM.out n1 c1.wf no_o7)
  refine V_ist6 a_L_law_2476 ?_
  refine V_aldn2 a_L_law_2478 ?_
  refine V_aldn0 a_L_law_2479 ?_
  refine V_ild5 a_L_law_2480 ?_
  refine V_iconst a_L_law_2482 ?_
  refine V_iadd a_L_law_2483 ?_
  refine V_sldE a_L_law_2484 (by omega) (by omega) (congrFun e1 _) ?_
  refine V_aldn0 a_L_law_2485 ?_
  refine V_ild5 a_L_law_2486 ?_
  refine V_iconst a_L_law_2488 ?_
  refine V_iadd a_L_law_2489 ?_
  refine V_sldE a_L_law_2490 (by omega) (by omega) (congrFun e1 _) ?_
  refine V_aldn0 a_L_law_2491 ?_
  refine V_ild5 a_L_law_2492 ?_
  refine V_iconst a_L_law_2494 ?_
  refine V_iadd a_L_law_2495 ?_
  refine V_sldE a_L_law_2496 (by omega) (by omega) (congrFun e1 _) ?_
  refine V_v3PR a_L_law_2497 c_L_299 m1 (fun ρ hρ => ?_)
  obtain ⟨n2, ⟨A', q9, m2⟩, e6⟩ := hρ
  have c2 : CIv D' ρ (A', s'.2) := (c1.out n2 m2.1.2.1 no_ml).eq9 q9
  have e3 : ρ.I 96 0 = σ.I 96 0 := (n2.I n96_ml).trans e1
  have e4 : ρ.sl = σ.sl := n2.1.trans e2
  have j2 : κ = 0 → ρ.J 70 0 0 = v.bmod (2 ^ 32) := fun z => by rw [n2.J n70_ml]; exact j1 z
  refine V_ist7 a_L_law_2500 ?_
  refine V_aldn2 a_L_law_2502 ?_
  refine V_v0R a_L_law_2503 c_L_183 (R_thrE e6) ?_
  refine V_ild6 a_L_law_2506 ?_
  refine V_icmp_eq_t a_L_law_2508 (by omega) (by omega) ?_
  refine V_ild6 a_L_law_2513 ?_
  refine V_if_ne a_L_law_2515 (by omega) (fun hc2515 => ?_) (fun hc2515 => ?_)
  · refine V_goto a_L_law_2530 ?_
    exact V_fg3 (kk ρ D' (A', s'.2) c2 m2 hp e4 e3)
  · refine V_aldn3 a_L_law_2518 ?_
    refine V_iconst a_L_law_2519 ?_
    refine V_laldE a_L_law_2520 rfl (by omega) (j2 (by omega)) ?_
    refine V_ild7 a_L_law_2521 ?_
    refine V_i2lM a_L_law_2523 ?_
    refine V_lcmpG a_L_law_2524 ?_
    rw [c64_self]
    refine V_if_eq_t a_L_law_2525 (by omega) (by omega) ?_
    refine V_goto a_L_law_2530 ?_
    exact V_fg3 (kk ρ D' (A', s'.2) c2 m2 hp e4 e3)

