section LGC
variable {p : Program} {l : Launch} {e : Env} {s : State} {m : MethodId} {below : List Frame} {meth : Method} {c : Code} {H : Heap} {locs : List Loc} {Q : State → Prop} {ls : Array Slot}
variable {D : va_G} {cy : Nat → ClassId} {σ0 : SG} {eda ca : Nat} {ia : Nat → Nat} {ad τ : List Nat} {q0 x0 av qv sa L a0 oa od t c0 n0 k N : Nat} {fd : Nat → Option Nat} {xs : Nat → Int32} {i : Int32}
theorem dL_law_1471 : decode cL_law 1471 = .ok (.aload_n 1, 1) := by decide +kernel
theorem dL_law_1472 : decode cL_law 1472 = .ok (.invokevirtual 289, 3) := by decide +kernel
theorem dL_law_1475 : decode cL_law 1475 = .ok (.pop, 1) := by decide +kernel
theorem dL_law_1476 : decode cL_law 1476 = .ok (.aload_n 2, 1) := by decide +kernel
theorem dL_law_1477 : decode cL_law 1477 = .ok (.invokevirtual 292, 3) := by decide +kernel
theorem dL_law_1480 : decode cL_law 1480 = .ok (.pop, 1) := by decide +kernel
theorem dL_law_1481 : decode cL_law 1481 = .ok (.goto 383, 3) := by decide +kernel
theorem dL_law_1484 : decode cL_law 1484 = .ok (.aload_n 1, 1) := by decide +kernel
theorem dL_law_1485 : decode cL_law 1485 = .ok (.aload_n 3, 1) := by decide +kernel
theorem dL_law_1486 : decode cL_law 1486 = .ok (.invokestatic 293, 3) := by decide +kernel
theorem dL_law_1489 : decode cL_law 1489 = .ok (.istore 6, 2) := by decide +kernel
theorem dL_law_1491 : decode cL_law 1491 = .ok (.aload_n 2, 1) := by decide +kernel
theorem dL_law_1492 : decode cL_law 1492 = .ok (.invokevirtual 295, 3) := by decide +kernel
theorem dL_law_1495 : decode cL_law 1495 = .ok (.istore 7, 2) := by decide +kernel
theorem dL_law_1497 : decode cL_law 1497 = .ok (.goto 367, 3) := by decide +kernel
theorem dL_law_1500 : decode cL_law 1500 = .ok (.aload_n 1, 1) := by decide +kernel
theorem dL_law_1501 : decode cL_law 1501 = .ok (.aload_n 3, 1) := by decide +kernel
theorem dL_law_1502 : decode cL_law 1502 = .ok (.invokestatic 296, 3) := by decide +kernel
theorem dL_law_1505 : decode cL_law 1505 = .ok (.istore 6, 2) := by decide +kernel
theorem dL_law_1507 : decode cL_law 1507 = .ok (.aload_n 2, 1) := by decide +kernel
theorem dL_law_1508 : decode cL_law 1508 = .ok (.invokevirtual 298, 3) := by decide +kernel
theorem dL_law_1511 : decode cL_law 1511 = .ok (.istore 7, 2) := by decide +kernel
theorem dL_law_1513 : decode cL_law 1513 = .ok (.goto 351, 3) := by decide +kernel
theorem dL_law_1516 : decode cL_law 1516 = .ok (.aload_n 1, 1) := by decide +kernel
theorem dL_law_1517 : decode cL_law 1517 = .ok (.aload_n 3, 1) := by decide +kernel
theorem dL_law_1518 : decode cL_law 1518 = .ok (.invokestatic 299, 3) := by decide +kernel
theorem dL_law_1521 : decode cL_law 1521 = .ok (.istore 6, 2) := by decide +kernel
theorem dL_law_1523 : decode cL_law 1523 = .ok (.aload_n 2, 1) := by decide +kernel
theorem dL_law_1524 : decode cL_law 1524 = .ok (.invokevirtual 301, 3) := by decide +kernel
theorem dL_law_1527 : decode cL_law 1527 = .ok (.istore 7, 2) := by decide +kernel
theorem dL_law_1529 : decode cL_law 1529 = .ok (.goto 335, 3) := by decide +kernel
theorem dL_law_1532 : decode cL_law 1532 = .ok (.aload_n 1, 1) := by decide +kernel
theorem dL_law_1533 : decode cL_law 1533 = .ok (.invokevirtual 302, 3) := by decide +kernel
theorem dL_law_1536 : decode cL_law 1536 = .ok (.pop, 1) := by decide +kernel
theorem dL_law_1537 : decode cL_law 1537 = .ok (.aload_n 2, 1) := by decide +kernel
theorem dL_law_1538 : decode cL_law 1538 = .ok (.invokevirtual 305, 3) := by decide +kernel
theorem dL_law_1541 : decode cL_law 1541 = .ok (.pop, 1) := by decide +kernel
theorem dL_law_1542 : decode cL_law 1542 = .ok (.goto 322, 3) := by decide +kernel
theorem dL_law_1545 : decode cL_law 1545 = .ok (.aload_n 1, 1) := by decide +kernel
theorem dL_law_1546 : decode cL_law 1546 = .ok (.aload_n 0, 1) := by decide +kernel
theorem dL_law_1547 : decode cL_law 1547 = .ok (.iload 5, 2) := by decide +kernel
theorem dL_law_1549 : decode cL_law 1549 = .ok (.iconst 1, 1) := by decide +kernel
theorem dL_law_1550 : decode cL_law 1550 = .ok (.iadd, 1) := by decide +kernel
theorem dL_law_1551 : decode cL_law 1551 = .ok (.iaload, 1) := by decide +kernel
theorem dL_law_1552 : decode cL_law 1552 = .ok (.aload_n 0, 1) := by decide +kernel
theorem dL_law_1553 : decode cL_law 1553 = .ok (.iload 5, 2) := by decide +kernel
theorem dL_law_1555 : decode cL_law 1555 = .ok (.iconst 2, 1) := by decide +kernel
theorem dL_law_1556 : decode cL_law 1556 = .ok (.iadd, 1) := by decide +kernel
theorem dL_law_1557 : decode cL_law 1557 = .ok (.iaload, 1) := by decide +kernel
theorem dL_law_1558 : decode cL_law 1558 = .ok (.aload_n 3, 1) := by decide +kernel
theorem dL_law_1559 : decode cL_law 1559 = .ok (.invokestatic 306, 3) := by decide +kernel
theorem dL_law_1562 : decode cL_law 1562 = .ok (.istore 6, 2) := by decide +kernel
theorem dL_law_1564 : decode cL_law 1564 = .ok (.aload_n 2, 1) := by decide +kernel
theorem dL_law_1565 : decode cL_law 1565 = .ok (.aload_n 0, 1) := by decide +kernel
theorem dL_law_1566 : decode cL_law 1566 = .ok (.iload 5, 2) := by decide +kernel
theorem dL_law_1568 : decode cL_law 1568 = .ok (.iconst 1, 1) := by decide +kernel
theorem dL_law_1569 : decode cL_law 1569 = .ok (.iadd, 1) := by decide +kernel
theorem dL_law_1570 : decode cL_law 1570 = .ok (.iaload, 1) := by decide +kernel
theorem dL_law_1571 : decode cL_law 1571 = .ok (.aload_n 0, 1) := by decide +kernel
theorem dL_law_1572 : decode cL_law 1572 = .ok (.iload 5, 2) := by decide +kernel
theorem dL_law_1574 : decode cL_law 1574 = .ok (.iconst 2, 1) := by decide +kernel
theorem dL_law_1575 : decode cL_law 1575 = .ok (.iadd, 1) := by decide +kernel
theorem dL_law_1576 : decode cL_law 1576 = .ok (.iaload, 1) := by decide +kernel
theorem dL_law_1577 : decode cL_law 1577 = .ok (.invokevirtual 308, 3) := by decide +kernel
theorem dL_law_1580 : decode cL_law 1580 = .ok (.istore 7, 2) := by decide +kernel
theorem dL_law_1582 : decode cL_law 1582 = .ok (.goto 282, 3) := by decide +kernel
theorem dL_law_1585 : decode cL_law 1585 = .ok (.aload_n 1, 1) := by decide +kernel
theorem dL_law_1586 : decode cL_law 1586 = .ok (.aload_n 0, 1) := by decide +kernel
theorem dL_law_1587 : decode cL_law 1587 = .ok (.iload 5, 2) := by decide +kernel
theorem dL_law_1589 : decode cL_law 1589 = .ok (.iconst 1, 1) := by decide +kernel
theorem dL_law_1590 : decode cL_law 1590 = .ok (.iadd, 1) := by decide +kernel
theorem dL_law_1591 : decode cL_law 1591 = .ok (.iaload, 1) := by decide +kernel
theorem dL_law_1592 : decode cL_law 1592 = .ok (.aload_n 0, 1) := by decide +kernel
theorem dL_law_1593 : decode cL_law 1593 = .ok (.iload 5, 2) := by decide +kernel
theorem dL_law_1595 : decode cL_law 1595 = .ok (.iconst 2, 1) := by decide +kernel
theorem dL_law_1596 : decode cL_law 1596 = .ok (.iadd, 1) := by decide +kernel
theorem dL_law_1597 : decode cL_law 1597 = .ok (.iaload, 1) := by decide +kernel
theorem dL_law_1598 : decode cL_law 1598 = .ok (.aload_n 0, 1) := by decide +kernel
theorem dL_law_1599 : decode cL_law 1599 = .ok (.iload 5, 2) := by decide +kernel
theorem dL_law_1601 : decode cL_law 1601 = .ok (.iconst 3, 1) := by decide +kernel
theorem dL_law_1602 : decode cL_law 1602 = .ok (.iadd, 1) := by decide +kernel
theorem dL_law_1603 : decode cL_law 1603 = .ok (.iaload, 1) := by decide +kernel
theorem dL_law_1604 : decode cL_law 1604 = .ok (.aload_n 3, 1) := by decide +kernel
theorem dL_law_1605 : decode cL_law 1605 = .ok (.invokestatic 309, 3) := by decide +kernel
theorem dL_law_1608 : decode cL_law 1608 = .ok (.istore 6, 2) := by decide +kernel
theorem dL_law_1610 : decode cL_law 1610 = .ok (.aload_n 2, 1) := by decide +kernel
theorem dL_law_1611 : decode cL_law 1611 = .ok (.aload_n 0, 1) := by decide +kernel
theorem dL_law_1612 : decode cL_law 1612 = .ok (.iload 5, 2) := by decide +kernel
theorem dL_law_1614 : decode cL_law 1614 = .ok (.iconst 1, 1) := by decide +kernel
theorem dL_law_1615 : decode cL_law 1615 = .ok (.iadd, 1) := by decide +kernel
theorem dL_law_1616 : decode cL_law 1616 = .ok (.iaload, 1) := by decide +kernel
theorem dL_law_1617 : decode cL_law 1617 = .ok (.aload_n 0, 1) := by decide +kernel
theorem dL_law_1618 : decode cL_law 1618 = .ok (.iload 5, 2) := by decide +kernel
theorem dL_law_1620 : decode cL_law 1620 = .ok (.iconst 2, 1) := by decide +kernel
theorem dL_law_1621 : decode cL_law 1621 = .ok (.iadd, 1) := by decide +kernel
theorem dL_law_1622 : decode cL_law 1622 = .ok (.iaload, 1) := by decide +kernel
theorem dL_law_1623 : decode cL_law 1623 = .ok (.aload_n 0, 1) := by decide +kernel
theorem dL_law_1624 : decode cL_law 1624 = .ok (.iload 5, 2) := by decide +kernel
theorem dL_law_1626 : decode cL_law 1626 = .ok (.iconst 3, 1) := by decide +kernel
theorem dL_law_1627 : decode cL_law 1627 = .ok (.iadd, 1) := by decide +kernel
theorem dL_law_1628 : decode cL_law 1628 = .ok (.iaload, 1) := by decide +kernel
theorem dL_law_1629 : decode cL_law 1629 = .ok (.invokevirtual 311, 3) := by decide +kernel
theorem dL_law_1632 : decode cL_law 1632 = .ok (.istore 7, 2) := by decide +kernel
theorem dL_law_1634 : decode cL_law 1634 = .ok (.goto 230, 3) := by decide +kernel
theorem dL_law_1637 : decode cL_law 1637 = .ok (.aload_n 1, 1) := by decide +kernel
theorem dL_law_1638 : decode cL_law 1638 = .ok (.aload_n 0, 1) := by decide +kernel
theorem dL_law_1639 : decode cL_law 1639 = .ok (.iload 5, 2) := by decide +kernel
theorem dL_law_1641 : decode cL_law 1641 = .ok (.iconst 1, 1) := by decide +kernel
theorem dL_law_1642 : decode cL_law 1642 = .ok (.iadd, 1) := by decide +kernel
theorem dL_law_1643 : decode cL_law 1643 = .ok (.iaload, 1) := by decide +kernel
theorem dL_law_1644 : decode cL_law 1644 = .ok (.aload_n 0, 1) := by decide +kernel
theorem dL_law_1645 : decode cL_law 1645 = .ok (.iload 5, 2) := by decide +kernel
theorem dL_law_1647 : decode cL_law 1647 = .ok (.iconst 2, 1) := by decide +kernel
theorem dL_law_1648 : decode cL_law 1648 = .ok (.iadd, 1) := by decide +kernel
theorem dL_law_1649 : decode cL_law 1649 = .ok (.iaload, 1) := by decide +kernel
theorem dL_law_1650 : decode cL_law 1650 = .ok (.aload_n 3, 1) := by decide +kernel
theorem dL_law_1651 : decode cL_law 1651 = .ok (.invokestatic 312, 3) := by decide +kernel
theorem dL_law_1654 : decode cL_law 1654 = .ok (.istore 6, 2) := by decide +kernel
theorem dL_law_1656 : decode cL_law 1656 = .ok (.aload_n 2, 1) := by decide +kernel
theorem dL_law_1657 : decode cL_law 1657 = .ok (.aload_n 0, 1) := by decide +kernel
theorem dL_law_1658 : decode cL_law 1658 = .ok (.iload 5, 2) := by decide +kernel
theorem dL_law_1660 : decode cL_law 1660 = .ok (.iconst 1, 1) := by decide +kernel
theorem dL_law_1661 : decode cL_law 1661 = .ok (.iadd, 1) := by decide +kernel
theorem dL_law_1662 : decode cL_law 1662 = .ok (.iaload, 1) := by decide +kernel
theorem dL_law_1663 : decode cL_law 1663 = .ok (.aload_n 0, 1) := by decide +kernel
theorem dL_law_1664 : decode cL_law 1664 = .ok (.iload 5, 2) := by decide +kernel
theorem dL_law_1666 : decode cL_law 1666 = .ok (.iconst 2, 1) := by decide +kernel
theorem dL_law_1667 : decode cL_law 1667 = .ok (.iadd, 1) := by decide +kernel
theorem dL_law_1668 : decode cL_law 1668 = .ok (.iaload, 1) := by decide +kernel
theorem dL_law_1669 : decode cL_law 1669 = .ok (.invokevirtual 314, 3) := by decide +kernel
theorem dL_law_1672 : decode cL_law 1672 = .ok (.istore 7, 2) := by decide +kernel
theorem dL_law_1674 : decode cL_law 1674 = .ok (.goto 190, 3) := by decide +kernel
theorem dL_law_1677 : decode cL_law 1677 = .ok (.aload_n 1, 1) := by decide +kernel
theorem dL_law_1678 : decode cL_law 1678 = .ok (.invokevirtual 315, 3) := by decide +kernel
theorem dL_law_1681 : decode cL_law 1681 = .ok (.pop, 1) := by decide +kernel
theorem dL_law_1682 : decode cL_law 1682 = .ok (.aload_n 2, 1) := by decide +kernel
theorem dL_law_1683 : decode cL_law 1683 = .ok (.invokevirtual 318, 3) := by decide +kernel
theorem dL_law_1686 : decode cL_law 1686 = .ok (.pop, 1) := by decide +kernel
theorem dL_law_1687 : decode cL_law 1687 = .ok (.goto 177, 3) := by decide +kernel
set_option maxRecDepth 100000 in
set_option maxHeartbeats 4000000 in
theorem lg_36 (X : LX p l s m meth c D cy σ0 eda ca ia ad τ q0 x0 sa L xs) (ht : t < 512) (hc0 : c0 ≤ 40000) (hn0 : n0 ≤ 400000) (hI : LI D cy s σ0 eda ia ad τ q0 x0 av qv fd a0 oa od t c0 n0 H locs k N) (hi : i.toInt = 6 * (t : Int)) (hL : 6 * t + 6 ≤ L) (hl : lv_has ls 9 [(5, .int i), (4, .ref od), (3, .ref oa), (2, .ref a0), (1, .ref x0), (0, .ref sa)]) (hE : ∀ (H : Heap) (locs : List Loc) (k N : Nat) (ls : Array Slot), LI D cy s σ0 eda ia ad τ q0 x0 av qv fd a0 oa od (t + 1) c0 n0 H locs k N → lv_has ls 9 [(5, .int i), (4, .ref od), (3, .ref oa), (2, .ref a0), (1, .ref x0), (0, .ref sa)] → W p l e room_1 s m #[Value.ref sa] below meth c H locs k N Q (F0 m 1864 ls [])) : W p l e room_1 s m #[Value.ref sa] below meth c H locs k N Q (F0 m 1471 ls []) := by
  obtain ⟨F, hst, hs, hr0, hr1, hTT, hXs, hbl, hbA, hp0, hL9⟩ := X
  obtain ⟨hx, hb, hml, hown, hts⟩ := id F.1
  obtain ⟨σ, K, g, n, S, hw, nn, w, f, fD, hB, hnn, hk, hSS, hV, hKa, hY, hH, hO, hD, ht9, hC⟩ := hI
  subst hKa
  refine lv_aload_n hx hb dL_law_1471 rfl (lv_at hl 4 rfl) ?_
  obtain ⟨vs, fr0, c1, c4, hf0, hf1⟩ := CS_f hC hr1
  have hOw : va_P D vwCl _ H := (show va_P D vwCl ([(oa, .inl (cy 2, 1, .inr (.inl f)))] ++ w) H from hO.1.right).right
  have hDw : va_D _ _ := (show va_D (sgA σ0 s.heap.size) ([(oa, .inl (cy 2, 1, .inr (.inl f)))] ++ w) from hD.right).right
  refine lw_wc (nc := 0) (wr := [(od, .inl (cy 3, 1, .inr (.inr (.inr (.inl fD))))), (oa, .inl (cy 2, 1, .inr (.inl f)))]) (rest := []) (lw_mono (Qb := vw_QC D vK cy ad τ w q_Hubcascade_events_0.2.2.2.1 (va_A _ H.size) (fun v _ => ∃ y : Int32, v = some (.int y))) (va_runV (g := F0 m 1472 ls _) (b := x0) (As := []) (rest := []) F.1 ((m_Hubcascade_events_0 l D cy hst).2 ad τ _ _ [.ref x0] hs ht9 rfl (vi_tys_ok (ad := ad) (τ := τ) (as := q_Hubcascade_events_0.1) ⟨Or.inr ⟨q0, x0, hr0, hr1, rfl⟩, True.intro⟩) (fun f hf => by cases hf)) (cwV 0 hts (lwV lxv_ (lx_ _ (List.mem_of_getElem? (i := 434) rfl)) (lx_ _ (List.mem_of_getElem? (i := 435) rfl)) (lx_ _ (List.mem_of_getElem? (i := 436) rfl)) (lx_ _ (List.mem_of_getElem? (i := 3) rfl)) (lx_ _ (List.mem_of_getElem? (i := 437) rfl))) rfl rfl rfl ⟨rfl, by decide, by decide, by decide +kernel⟩ ⟨Nat.le_of_ble_eq_true rfl, Nat.le_of_ble_eq_true rfl⟩) ⟨pme_blind, va_recv F.2.1 hOw (ci := 14) rfl c1, vi_pv hOw hDw F.2.1 F.2.2.1⟩ rfl rfl hl.1 rfl (lv_room (Nat.le_of_ble_eq_true rfl)) dL_law_1472 ⟨rm_c (show _ + 0 ≤ 606000 by omega), rm_s (show _ + 0 ≤ 7100000 by have := hB.2.2; omega)⟩) (fun st oc t h => ⟨by obtain ⟨⟨v, w1, alt, halt, e1, e2, e3, e4, e5⟩, -⟩ := h; exact ⟨v, w1, e1, e2, e3, e4, vw_int (by decide +kernel) halt e5⟩, h.2⟩)) hB hO hD ht9 (fun H locs v w1 hB hO hD ht1 hk9 h8 => ?_)
  obtain ⟨y2, rfl⟩ := h8
  have hO : lwO D σ ([(od, .inl (cy 3, 1, .inr (.inr (.inr (.inl fD)))))] ++ (oa, .inl (cy 2, 1, .inr (.inl f))) :: w1) H := hO
  have hD : va_D (sgA σ0 s.heap.size) ([(od, .inl (cy 3, 1, .inr (.inr (.inr (.inl fD)))))] ++ (oa, .inl (cy 2, 1, .inr (.inl f))) :: w1) := hD
  obtain ⟨w3, hC, hO, hD, ht9⟩ := CS_kept (a := (od, .inl (cy 3, 1, .inr (.inr (.inr (.inl fD)))))) hC ht1 hk9 (by decide +kernel) (by decide +kernel) hO hD
  have hO : lwO D σ ([(od, .inl (cy 3, 1, .inr (.inr (.inr (.inl fD)))))] ++ (oa, .inl (cy 2, 1, .inr (.inl f))) :: w3) H := hO
  have hD : va_D (sgA σ0 s.heap.size) ([(od, .inl (cy 3, 1, .inr (.inr (.inr (.inl fD)))))] ++ (oa, .inl (cy 2, 1, .inr (.inl f))) :: w3) := hD
  refine lv_pop hx hb dL_law_1475 rfl ?_
  refine lv_aload_n hx hb dL_law_1476 rfl (lv_at hl 3 rfl) ?_
  refine lw_callV (ci := 19) (b := kA K) (As := []) (rest := []) F hB hO (m_events l D cy hV _) (cwV 0 hts (lwV lxm_ (lx_ _ (List.mem_of_getElem? (i := 438) rfl)) (lx_ _ (List.mem_of_getElem? (i := 439) rfl)) (lx_ _ (List.mem_of_getElem? (i := 440) rfl)) (lx_ _ (List.mem_of_getElem? (i := 182) rfl)) (lx_ _ (List.mem_of_getElem? (i := 441) rfl))) rfl rfl rfl ⟨rfl, by decide, by decide, by decide +kernel⟩ ⟨Nat.le_of_ble_eq_true rfl, Nat.le_of_ble_eq_true rfl⟩) rfl rfl (by decide) rfl hl.1 rfl (Nat.le_of_ble_eq_true rfl) dL_law_1477 (rm_c (show _ + 0 ≤ 606000 by omega)) (rm_s (show _ + 0 + sgPot σ0 ≤ 7100000 by omega)) (inv_Mr hV).1 (fun H locs v σ N hB hX hP hO => ?_)
  obtain ⟨⟨y5, rfl⟩, hV⟩ := hP
  refine lv_pop hx hb dL_law_1480 rfl ?_
  refine lv_goto (tgt := 1864) hx hb dL_law_1481 (by decide) ?_
  exact hE _ _ _ _ _ ⟨σ, K, g, n, S, hw, _, w3, f, fD, hB, by omega, by omega, by omega, hV, rfl, hY, hH, hO, hD, ht9, CS_up hC (by omega)⟩ (lv_sub hl [0, 1, 2, 3, 4, 5] rfl)

set_option maxRecDepth 100000 in
set_option maxHeartbeats 4000000 in
theorem lg_37 (X : LX p l s m meth c D cy σ0 eda ca ia ad τ q0 x0 sa L xs) (ht : t < 512) (hc0 : c0 ≤ 40000) (hn0 : n0 ≤ 400000) (hI : LI D cy s σ0 eda ia ad τ q0 x0 av qv fd a0 oa od t c0 n0 H locs k N) (hi : i.toInt = 6 * (t : Int)) (hL : 6 * t + 6 ≤ L) (hl : lv_has ls 9 [(5, .int i), (4, .ref od), (3, .ref oa), (2, .ref a0), (1, .ref x0), (0, .ref sa)]) (hE : ∀ (H : Heap) (locs : List Loc) (k N : Nat) (ls : Array Slot), LI D cy s σ0 eda ia ad τ q0 x0 av qv fd a0 oa od (t + 1) c0 n0 H locs k N → lv_has ls 9 [(5, .int i), (4, .ref od), (3, .ref oa), (2, .ref a0), (1, .ref x0), (0, .ref sa)] → W p l e room_1 s m #[Value.ref sa] below meth c H locs k N Q (F0 m 1864 ls [])) : W p l e room_1 s m #[Value.ref sa] below meth c H locs k N Q (F0 m 1484 ls []) := by
  obtain ⟨F, hst, hs, hr0, hr1, hTT, hXs, hbl, hbA, hp0, hL9⟩ := X
  obtain ⟨hx, hb, hml, hown, hts⟩ := id F.1
  obtain ⟨σ, K, g, n, S, hw, nn, w, f, fD, hB, hnn, hk, hSS, hV, hKa, hY, hH, hO, hD, ht9, hC⟩ := hI
  subst hKa
  refine lv_aload_n hx hb dL_law_1484 rfl (lv_at hl 4 rfl) ?_
  refine lv_aload_n hx hb dL_law_1485 rfl (lv_at hl 2 rfl) ?_
  refine lw_wk (wr := [(od, .inl (cy 3, 1, .inr (.inr (.inr (.inl fD)))))]) (rest := []) (vx_runSW (g := F0 m 1486 ls _) (As := [.ref x0, .ref oa]) (rest := []) F.1 (w_event l D cy hst _ oa _ hs ht9 hr0 hr1 ) (vx_cwSW 2 hts (lwS lxl_ (lx_ _ (List.mem_of_getElem? (i := 442) rfl)) (lx_ _ (List.mem_of_getElem? (i := 443) rfl)) (lx_ _ (List.mem_of_getElem? (i := 177) rfl)) (lx_ _ (List.mem_of_getElem? (i := 444) rfl))) rfl rfl rfl ⟨by decide, by decide, by decide +kernel⟩ ⟨Nat.le_of_ble_eq_true rfl, Nat.le_of_ble_eq_true rfl⟩) ⟨vi_px_blind, vi_px hO.1.right hD.right F.2.1 F.2.2.1 hTT hB.1.2.2 sgB_A⟩ rfl rfl hl.1 rfl (lv_room (Nat.le_of_ble_eq_true rfl)) dL_law_1486 ⟨rm_c (show _ + 1 ≤ 606000 by omega), rm_s (show _ + 6 * 1 ≤ 7100000 by have := hB.2.2; omega)⟩) hB hO hD ht9 (fun H locs kx1 w2 f1 hB hO hD ht1 hk9 => ?_)
  obtain ⟨w3, hC, hO, hD, ht9⟩ := CS_kept (a := (od, .inl (cy 3, 1, .inr (.inr (.inr (.inl fD)))))) hC ht1 hk9 (by decide +kernel) (by decide +kernel) hO hD
  have hO : lwO D σ ([(od, .inl (cy 3, 1, .inr (.inr (.inr (.inl fD)))))] ++ (oa, .inl (cy 2, 1, .inr (.inl f1))) :: w3) H := hO
  have hD : va_D (sgA σ0 s.heap.size) ([(od, .inl (cy 3, 1, .inr (.inr (.inr (.inl fD)))))] ++ (oa, .inl (cy 2, 1, .inr (.inl f1))) :: w3) := hD
  refine lv_istore (lv' := [(6, .int kx1), (5, .int i), (4, .ref od), (3, .ref oa), (2, .ref (kA K)), (1, .ref x0), (0, .ref sa)]) hx hb dL_law_1489 hl (by decide) rfl (fun ls hl => ?_)
  refine lv_aload_n hx hb dL_law_1491 rfl (lv_at hl 4 rfl) ?_
  refine lw_callV (ci := 19) (b := kA K) (As := []) (rest := []) F hB hO (m_event l D cy hV _) (cwV 0 hts (lwV lxm_ (lx_ _ (List.mem_of_getElem? (i := 445) rfl)) (lx_ _ (List.mem_of_getElem? (i := 446) rfl)) (lx_ _ (List.mem_of_getElem? (i := 447) rfl)) (lx_ _ (List.mem_of_getElem? (i := 182) rfl)) (lx_ _ (List.mem_of_getElem? (i := 448) rfl))) rfl rfl rfl ⟨rfl, by decide, by decide, by decide +kernel⟩ ⟨Nat.le_of_ble_eq_true rfl, Nat.le_of_ble_eq_true rfl⟩) rfl rfl (by decide) rfl hl.1 rfl (Nat.le_of_ble_eq_true rfl) dL_law_1492 (rm_c (show _ + 0 ≤ 606000 by omega)) (rm_s (show _ + 0 + sgPot σ0 ≤ 7100000 by omega)) (inv_Mr hV).1 (fun H locs v σ N hB hX hP hO => ?_)
  obtain ⟨⟨y5, rfl⟩, hV⟩ := hP
  refine lv_istore (lv' := [(7, .int y5), (6, .int kx1), (5, .int i), (4, .ref od), (3, .ref oa), (2, .ref (kA K)), (1, .ref x0), (0, .ref sa)]) hx hb dL_law_1495 hl (by decide) rfl (fun ls hl => ?_)
  refine lv_goto (tgt := 1864) hx hb dL_law_1497 (by decide) ?_
  exact hE _ _ _ _ _ ⟨σ, K, g, n, S, hw, _, w3, f1, fD, hB, by omega, by omega, by omega, hV, rfl, hY, hH, hO, hD, ht9, CS_up hC (by omega)⟩ (lv_sub hl [2, 3, 4, 5, 6, 7] rfl)

set_option maxRecDepth 100000 in
set_option maxHeartbeats 4000000 in
theorem lg_38 (X : LX p l s m meth c D cy σ0 eda ca ia ad τ q0 x0 sa L xs) (ht : t < 512) (hc0 : c0 ≤ 40000) (hn0 : n0 ≤ 400000) (hI : LI D cy s σ0 eda ia ad τ q0 x0 av qv fd a0 oa od t c0 n0 H locs k N) (hi : i.toInt = 6 * (t : Int)) (hL : 6 * t + 6 ≤ L) (hl : lv_has ls 9 [(5, .int i), (4, .ref od), (3, .ref oa), (2, .ref a0), (1, .ref x0), (0, .ref sa)]) (hE : ∀ (H : Heap) (locs : List Loc) (k N : Nat) (ls : Array Slot), LI D cy s σ0 eda ia ad τ q0 x0 av qv fd a0 oa od (t + 1) c0 n0 H locs k N → lv_has ls 9 [(5, .int i), (4, .ref od), (3, .ref oa), (2, .ref a0), (1, .ref x0), (0, .ref sa)] → W p l e room_1 s m #[Value.ref sa] below meth c H locs k N Q (F0 m 1864 ls [])) : W p l e room_1 s m #[Value.ref sa] below meth c H locs k N Q (F0 m 1500 ls []) := by
  obtain ⟨F, hst, hs, hr0, hr1, hTT, hXs, hbl, hbA, hp0, hL9⟩ := X
  obtain ⟨hx, hb, hml, hown, hts⟩ := id F.1
  obtain ⟨σ, K, g, n, S, hw, nn, w, f, fD, hB, hnn, hk, hSS, hV, hKa, hY, hH, hO, hD, ht9, hC⟩ := hI
  subst hKa
  refine lv_aload_n hx hb dL_law_1500 rfl (lv_at hl 4 rfl) ?_
  refine lv_aload_n hx hb dL_law_1501 rfl (lv_at hl 2 rfl) ?_
  refine lw_wk (wr := [(od, .inl (cy 3, 1, .inr (.inr (.inr (.inl fD)))))]) (rest := []) (vx_runSW (g := F0 m 1502 ls _) (As := [.ref x0, .ref oa]) (rest := []) F.1 (w_eventPipe l D cy hst _ oa _ hs ht9 hr0 hr1 ) (vx_cwSW 2 hts (lwS lxl_ (lx_ _ (List.mem_of_getElem? (i := 449) rfl)) (lx_ _ (List.mem_of_getElem? (i := 450) rfl)) (lx_ _ (List.mem_of_getElem? (i := 177) rfl)) (lx_ _ (List.mem_of_getElem? (i := 451) rfl))) rfl rfl rfl ⟨by decide, by decide, by decide +kernel⟩ ⟨Nat.le_of_ble_eq_true rfl, Nat.le_of_ble_eq_true rfl⟩) ⟨vi_px_blind, vi_px hO.1.right hD.right F.2.1 F.2.2.1 hTT hB.1.2.2 sgB_A⟩ rfl rfl hl.1 rfl (lv_room (Nat.le_of_ble_eq_true rfl)) dL_law_1502 ⟨rm_c (show _ + 1 ≤ 606000 by omega), rm_s (show _ + 6 * 1 ≤ 7100000 by have := hB.2.2; omega)⟩) hB hO hD ht9 (fun H locs kx1 w2 f1 hB hO hD ht1 hk9 => ?_)
  obtain ⟨w3, hC, hO, hD, ht9⟩ := CS_kept (a := (od, .inl (cy 3, 1, .inr (.inr (.inr (.inl fD)))))) hC ht1 hk9 (by decide +kernel) (by decide +kernel) hO hD
  have hO : lwO D σ ([(od, .inl (cy 3, 1, .inr (.inr (.inr (.inl fD)))))] ++ (oa, .inl (cy 2, 1, .inr (.inl f1))) :: w3) H := hO
  have hD : va_D (sgA σ0 s.heap.size) ([(od, .inl (cy 3, 1, .inr (.inr (.inr (.inl fD)))))] ++ (oa, .inl (cy 2, 1, .inr (.inl f1))) :: w3) := hD
  refine lv_istore (lv' := [(6, .int kx1), (5, .int i), (4, .ref od), (3, .ref oa), (2, .ref (kA K)), (1, .ref x0), (0, .ref sa)]) hx hb dL_law_1505 hl (by decide) rfl (fun ls hl => ?_)
  refine lv_aload_n hx hb dL_law_1507 rfl (lv_at hl 4 rfl) ?_
  refine lw_callV (ci := 19) (b := kA K) (As := []) (rest := []) F hB hO (m_eventPipe l D cy hV _) (cwV 0 hts (lwV lxm_ (lx_ _ (List.mem_of_getElem? (i := 452) rfl)) (lx_ _ (List.mem_of_getElem? (i := 453) rfl)) (lx_ _ (List.mem_of_getElem? (i := 454) rfl)) (lx_ _ (List.mem_of_getElem? (i := 182) rfl)) (lx_ _ (List.mem_of_getElem? (i := 455) rfl))) rfl rfl rfl ⟨rfl, by decide, by decide, by decide +kernel⟩ ⟨Nat.le_of_ble_eq_true rfl, Nat.le_of_ble_eq_true rfl⟩) rfl rfl (by decide) rfl hl.1 rfl (Nat.le_of_ble_eq_true rfl) dL_law_1508 (rm_c (show _ + 0 ≤ 606000 by omega)) (rm_s (show _ + 0 + sgPot σ0 ≤ 7100000 by omega)) (inv_Mr hV).1 (fun H locs v σ N hB hX hP hO => ?_)
  obtain ⟨⟨y5, rfl⟩, hV⟩ := hP
  refine lv_istore (lv' := [(7, .int y5), (6, .int kx1), (5, .int i), (4, .ref od), (3, .ref oa), (2, .ref (kA K)), (1, .ref x0), (0, .ref sa)]) hx hb dL_law_1511 hl (by decide) rfl (fun ls hl => ?_)
  refine lv_goto (tgt := 1864) hx hb dL_law_1513 (by decide) ?_
  exact hE _ _ _ _ _ ⟨σ, K, g, n, S, hw, _, w3, f1, fD, hB, by omega, by omega, by omega, hV, rfl, hY, hH, hO, hD, ht9, CS_up hC (by omega)⟩ (lv_sub hl [2, 3, 4, 5, 6, 7] rfl)

set_option maxRecDepth 100000 in
set_option maxHeartbeats 4000000 in
theorem lg_39 (X : LX p l s m meth c D cy σ0 eda ca ia ad τ q0 x0 sa L xs) (ht : t < 512) (hc0 : c0 ≤ 40000) (hn0 : n0 ≤ 400000) (hI : LI D cy s σ0 eda ia ad τ q0 x0 av qv fd a0 oa od t c0 n0 H locs k N) (hi : i.toInt = 6 * (t : Int)) (hL : 6 * t + 6 ≤ L) (hl : lv_has ls 9 [(5, .int i), (4, .ref od), (3, .ref oa), (2, .ref a0), (1, .ref x0), (0, .ref sa)]) (hE : ∀ (H : Heap) (locs : List Loc) (k N : Nat) (ls : Array Slot), LI D cy s σ0 eda ia ad τ q0 x0 av qv fd a0 oa od (t + 1) c0 n0 H locs k N → lv_has ls 9 [(5, .int i), (4, .ref od), (3, .ref oa), (2, .ref a0), (1, .ref x0), (0, .ref sa)] → W p l e room_1 s m #[Value.ref sa] below meth c H locs k N Q (F0 m 1864 ls [])) : W p l e room_1 s m #[Value.ref sa] below meth c H locs k N Q (F0 m 1516 ls []) := by
  obtain ⟨F, hst, hs, hr0, hr1, hTT, hXs, hbl, hbA, hp0, hL9⟩ := X
  obtain ⟨hx, hb, hml, hown, hts⟩ := id F.1
  obtain ⟨σ, K, g, n, S, hw, nn, w, f, fD, hB, hnn, hk, hSS, hV, hKa, hY, hH, hO, hD, ht9, hC⟩ := hI
  subst hKa
  refine lv_aload_n hx hb dL_law_1516 rfl (lv_at hl 4 rfl) ?_
  refine lv_aload_n hx hb dL_law_1517 rfl (lv_at hl 2 rfl) ?_
  refine lw_wk (wr := [(od, .inl (cy 3, 1, .inr (.inr (.inr (.inl fD)))))]) (rest := []) (vx_runSW (g := F0 m 1518 ls _) (As := [.ref x0, .ref oa]) (rest := []) F.1 (w_eventBytes l D cy hst _ oa _ hs ht9 hr0 hr1 ) (vx_cwSW 2 hts (lwS lxl_ (lx_ _ (List.mem_of_getElem? (i := 456) rfl)) (lx_ _ (List.mem_of_getElem? (i := 457) rfl)) (lx_ _ (List.mem_of_getElem? (i := 177) rfl)) (lx_ _ (List.mem_of_getElem? (i := 458) rfl))) rfl rfl rfl ⟨by decide, by decide, by decide +kernel⟩ ⟨Nat.le_of_ble_eq_true rfl, Nat.le_of_ble_eq_true rfl⟩) ⟨vi_px_blind, vi_px hO.1.right hD.right F.2.1 F.2.2.1 hTT hB.1.2.2 sgB_A⟩ rfl rfl hl.1 rfl (lv_room (Nat.le_of_ble_eq_true rfl)) dL_law_1518 ⟨rm_c (show _ + 1 ≤ 606000 by omega), rm_s (show _ + 6 * 1 ≤ 7100000 by have := hB.2.2; omega)⟩) hB hO hD ht9 (fun H locs kx1 w2 f1 hB hO hD ht1 hk9 => ?_)
  obtain ⟨w3, hC, hO, hD, ht9⟩ := CS_kept (a := (od, .inl (cy 3, 1, .inr (.inr (.inr (.inl fD)))))) hC ht1 hk9 (by decide +kernel) (by decide +kernel) hO hD
  have hO : lwO D σ ([(od, .inl (cy 3, 1, .inr (.inr (.inr (.inl fD)))))] ++ (oa, .inl (cy 2, 1, .inr (.inl f1))) :: w3) H := hO
  have hD : va_D (sgA σ0 s.heap.size) ([(od, .inl (cy 3, 1, .inr (.inr (.inr (.inl fD)))))] ++ (oa, .inl (cy 2, 1, .inr (.inl f1))) :: w3) := hD
  refine lv_istore (lv' := [(6, .int kx1), (5, .int i), (4, .ref od), (3, .ref oa), (2, .ref (kA K)), (1, .ref x0), (0, .ref sa)]) hx hb dL_law_1521 hl (by decide) rfl (fun ls hl => ?_)
  refine lv_aload_n hx hb dL_law_1523 rfl (lv_at hl 4 rfl) ?_
  refine lw_callV (ci := 19) (b := kA K) (As := []) (rest := []) F hB hO (m_eventBytes l D cy hV _) (cwV 0 hts (lwV lxm_ (lx_ _ (List.mem_of_getElem? (i := 459) rfl)) (lx_ _ (List.mem_of_getElem? (i := 460) rfl)) (lx_ _ (List.mem_of_getElem? (i := 461) rfl)) (lx_ _ (List.mem_of_getElem? (i := 182) rfl)) (lx_ _ (List.mem_of_getElem? (i := 462) rfl))) rfl rfl rfl ⟨rfl, by decide, by decide, by decide +kernel⟩ ⟨Nat.le_of_ble_eq_true rfl, Nat.le_of_ble_eq_true rfl⟩) rfl rfl (by decide) rfl hl.1 rfl (Nat.le_of_ble_eq_true rfl) dL_law_1524 (rm_c (show _ + 0 ≤ 606000 by omega)) (rm_s (show _ + 0 + sgPot σ0 ≤ 7100000 by omega)) (inv_Mr hV).1 (fun H locs v σ N hB hX hP hO => ?_)
  obtain ⟨⟨y5, rfl⟩, hV⟩ := hP
  refine lv_istore (lv' := [(7, .int y5), (6, .int kx1), (5, .int i), (4, .ref od), (3, .ref oa), (2, .ref (kA K)), (1, .ref x0), (0, .ref sa)]) hx hb dL_law_1527 hl (by decide) rfl (fun ls hl => ?_)
  refine lv_goto (tgt := 1864) hx hb dL_law_1529 (by decide) ?_
  exact hE _ _ _ _ _ ⟨σ, K, g, n, S, hw, _, w3, f1, fD, hB, by omega, by omega, by omega, hV, rfl, hY, hH, hO, hD, ht9, CS_up hC (by omega)⟩ (lv_sub hl [2, 3, 4, 5, 6, 7] rfl)

set_option maxRecDepth 100000 in
set_option maxHeartbeats 4000000 in
theorem lg_40 (X : LX p l s m meth c D cy σ0 eda ca ia ad τ q0 x0 sa L xs) (ht : t < 512) (hc0 : c0 ≤ 40000) (hn0 : n0 ≤ 400000) (hI : LI D cy s σ0 eda ia ad τ q0 x0 av qv fd a0 oa od t c0 n0 H locs k N) (hi : i.toInt = 6 * (t : Int)) (hL : 6 * t + 6 ≤ L) (hl : lv_has ls 9 [(5, .int i), (4, .ref od), (3, .ref oa), (2, .ref a0), (1, .ref x0), (0, .ref sa)]) (hE : ∀ (H : Heap) (locs : List Loc) (k N : Nat) (ls : Array Slot), LI D cy s σ0 eda ia ad τ q0 x0 av qv fd a0 oa od (t + 1) c0 n0 H locs k N → lv_has ls 9 [(5, .int i), (4, .ref od), (3, .ref oa), (2, .ref a0), (1, .ref x0), (0, .ref sa)] → W p l e room_1 s m #[Value.ref sa] below meth c H locs k N Q (F0 m 1864 ls [])) : W p l e room_1 s m #[Value.ref sa] below meth c H locs k N Q (F0 m 1532 ls []) := by
  obtain ⟨F, hst, hs, hr0, hr1, hTT, hXs, hbl, hbA, hp0, hL9⟩ := X
  obtain ⟨hx, hb, hml, hown, hts⟩ := id F.1
  obtain ⟨σ, K, g, n, S, hw, nn, w, f, fD, hB, hnn, hk, hSS, hV, hKa, hY, hH, hO, hD, ht9, hC⟩ := hI
  subst hKa
  refine lv_aload_n hx hb dL_law_1532 rfl (lv_at hl 4 rfl) ?_
  obtain ⟨vs, fr0, c1, c4, hf0, hf1⟩ := CS_f hC hr1
  have hOw : va_P D vwCl _ H := (show va_P D vwCl ([(oa, .inl (cy 2, 1, .inr (.inl f)))] ++ w) H from hO.1.right).right
  have hDw : va_D _ _ := (show va_D (sgA σ0 s.heap.size) ([(oa, .inl (cy 2, 1, .inr (.inl f)))] ++ w) from hD.right).right
  refine lw_wc (nc := 0) (wr := [(od, .inl (cy 3, 1, .inr (.inr (.inr (.inl fD))))), (oa, .inl (cy 2, 1, .inr (.inl f)))]) (rest := []) (lw_mono (Qb := vw_QC D vK cy ad τ w q_Hubcascade_missed_0.2.2.2.1 (va_A _ H.size) (fun v _ => ∃ y : Int32, v = some (.int y))) (va_runV (g := F0 m 1533 ls _) (b := x0) (As := []) (rest := []) F.1 ((m_Hubcascade_missed_0 l D cy hst).2 ad τ _ _ [.ref x0] hs ht9 rfl (vi_tys_ok (ad := ad) (τ := τ) (as := q_Hubcascade_missed_0.1) ⟨Or.inr ⟨q0, x0, hr0, hr1, rfl⟩, True.intro⟩) (fun f hf => by cases hf)) (cwV 0 hts (lwV lxv_ (lx_ _ (List.mem_of_getElem? (i := 463) rfl)) (lx_ _ (List.mem_of_getElem? (i := 464) rfl)) (lx_ _ (List.mem_of_getElem? (i := 465) rfl)) (lx_ _ (List.mem_of_getElem? (i := 3) rfl)) (lx_ _ (List.mem_of_getElem? (i := 466) rfl))) rfl rfl rfl ⟨rfl, by decide, by decide, by decide +kernel⟩ ⟨Nat.le_of_ble_eq_true rfl, Nat.le_of_ble_eq_true rfl⟩) ⟨pme_blind, va_recv F.2.1 hOw (ci := 14) rfl c1, vi_pv hOw hDw F.2.1 F.2.2.1⟩ rfl rfl hl.1 rfl (lv_room (Nat.le_of_ble_eq_true rfl)) dL_law_1533 ⟨rm_c (show _ + 0 ≤ 606000 by omega), rm_s (show _ + 0 ≤ 7100000 by have := hB.2.2; omega)⟩) (fun st oc t h => ⟨by obtain ⟨⟨v, w1, alt, halt, e1, e2, e3, e4, e5⟩, -⟩ := h; exact ⟨v, w1, e1, e2, e3, e4, vw_int (by decide +kernel) halt e5⟩, h.2⟩)) hB hO hD ht9 (fun H locs v w1 hB hO hD ht1 hk9 h8 => ?_)
  obtain ⟨y2, rfl⟩ := h8
  have hO : lwO D σ ([(od, .inl (cy 3, 1, .inr (.inr (.inr (.inl fD)))))] ++ (oa, .inl (cy 2, 1, .inr (.inl f))) :: w1) H := hO
  have hD : va_D (sgA σ0 s.heap.size) ([(od, .inl (cy 3, 1, .inr (.inr (.inr (.inl fD)))))] ++ (oa, .inl (cy 2, 1, .inr (.inl f))) :: w1) := hD
  obtain ⟨w3, hC, hO, hD, ht9⟩ := CS_kept (a := (od, .inl (cy 3, 1, .inr (.inr (.inr (.inl fD)))))) hC ht1 hk9 (by decide +kernel) (by decide +kernel) hO hD
  have hO : lwO D σ ([(od, .inl (cy 3, 1, .inr (.inr (.inr (.inl fD)))))] ++ (oa, .inl (cy 2, 1, .inr (.inl f))) :: w3) H := hO
  have hD : va_D (sgA σ0 s.heap.size) ([(od, .inl (cy 3, 1, .inr (.inr (.inr (.inl fD)))))] ++ (oa, .inl (cy 2, 1, .inr (.inl f))) :: w3) := hD
  refine lv_pop hx hb dL_law_1536 rfl ?_
  refine lv_aload_n hx hb dL_law_1537 rfl (lv_at hl 3 rfl) ?_
  refine lw_callV (ci := 19) (b := kA K) (As := []) (rest := []) F hB hO (m_missed l D cy hV _) (cwV 0 hts (lwV lxm_ (lx_ _ (List.mem_of_getElem? (i := 467) rfl)) (lx_ _ (List.mem_of_getElem? (i := 468) rfl)) (lx_ _ (List.mem_of_getElem? (i := 469) rfl)) (lx_ _ (List.mem_of_getElem? (i := 182) rfl)) (lx_ _ (List.mem_of_getElem? (i := 470) rfl))) rfl rfl rfl ⟨rfl, by decide, by decide, by decide +kernel⟩ ⟨Nat.le_of_ble_eq_true rfl, Nat.le_of_ble_eq_true rfl⟩) rfl rfl (by decide) rfl hl.1 rfl (Nat.le_of_ble_eq_true rfl) dL_law_1538 (rm_c (show _ + 0 ≤ 606000 by omega)) (rm_s (show _ + 0 + sgPot σ0 ≤ 7100000 by omega)) (inv_Mr hV).1 (fun H locs v σ N hB hX hP hO => ?_)
  obtain ⟨⟨y5, rfl⟩, hV⟩ := hP
  refine lv_pop hx hb dL_law_1541 rfl ?_
  refine lv_goto (tgt := 1864) hx hb dL_law_1542 (by decide) ?_
  exact hE _ _ _ _ _ ⟨σ, K, g, n, S, hw, _, w3, f, fD, hB, by omega, by omega, by omega, hV, rfl, hY, hH, hO, hD, ht9, CS_up hC (by omega)⟩ (lv_sub hl [0, 1, 2, 3, 4, 5] rfl)

set_option maxRecDepth 100000 in
set_option maxHeartbeats 4000000 in
theorem lg_41 (X : LX p l s m meth c D cy σ0 eda ca ia ad τ q0 x0 sa L xs) (ht : t < 512) (hc0 : c0 ≤ 40000) (hn0 : n0 ≤ 400000) (hI : LI D cy s σ0 eda ia ad τ q0 x0 av qv fd a0 oa od t c0 n0 H locs k N) (hi : i.toInt = 6 * (t : Int)) (hL : 6 * t + 6 ≤ L) (hl : lv_has ls 9 [(5, .int i), (4, .ref od), (3, .ref oa), (2, .ref a0), (1, .ref x0), (0, .ref sa)]) (hE : ∀ (H : Heap) (locs : List Loc) (k N : Nat) (ls : Array Slot), LI D cy s σ0 eda ia ad τ q0 x0 av qv fd a0 oa od (t + 1) c0 n0 H locs k N → lv_has ls 9 [(5, .int i), (4, .ref od), (3, .ref oa), (2, .ref a0), (1, .ref x0), (0, .ref sa)] → W p l e room_1 s m #[Value.ref sa] below meth c H locs k N Q (F0 m 1864 ls [])) : W p l e room_1 s m #[Value.ref sa] below meth c H locs k N Q (F0 m 1545 ls []) := by
  obtain ⟨F, hst, hs, hr0, hr1, hTT, hXs, hbl, hbA, hp0, hL9⟩ := X
  obtain ⟨hx, hb, hml, hown, hts⟩ := id F.1
  obtain ⟨σ, K, g, n, S, hw, nn, w, f, fD, hB, hnn, hk, hSS, hV, hKa, hY, hH, hO, hD, ht9, hC⟩ := hI
  subst hKa
  refine lv_aload_n hx hb dL_law_1545 rfl (lv_at hl 4 rfl) ?_
  refine lv_aload_n hx hb dL_law_1546 rfl (lv_at hl 5 rfl) ?_
  refine lv_iload hx hb dL_law_1547 (lv_at hl 0 rfl) ?_
  refine lv_iconst (v := 1) hx hb dL_law_1549 (by decide) ?_
  refine lv_iadd hx hb dL_law_1550 ?_
  refine va_sld hx hb hXs hbl hbA hB.1.2.2 (lx_in hi hL hL9 (k := 1) (by decide)) dL_law_1551 ?_
  refine lv_aload_n hx hb dL_law_1552 rfl (lv_at hl 5 rfl) ?_
  refine lv_iload hx hb dL_law_1553 (lv_at hl 0 rfl) ?_
  refine lv_iconst (v := 2) hx hb dL_law_1555 (by decide) ?_
  refine lv_iadd hx hb dL_law_1556 ?_
  refine va_sld hx hb hXs hbl hbA hB.1.2.2 (lx_in hi hL hL9 (k := 2) (by decide)) dL_law_1557 ?_
  refine lv_aload_n hx hb dL_law_1558 rfl (lv_at hl 2 rfl) ?_
  refine lw_wk (wr := [(od, .inl (cy 3, 1, .inr (.inr (.inr (.inl fD)))))]) (rest := []) (vx_runSW (g := F0 m 1559 ls _) (As := [.ref x0, .int (xs (i + 1).toNatClampNeg), .int (xs (i + 2).toNatClampNeg), .ref oa]) (rest := []) F.1 (w_taken l D cy hst _ oa _ hs ht9 hr0 hr1 ((xs (i + 1).toNatClampNeg)) ((xs (i + 2).toNatClampNeg))) (vx_cwSW 4 hts (lwS lxl_ (lx_ _ (List.mem_of_getElem? (i := 471) rfl)) (lx_ _ (List.mem_of_getElem? (i := 472) rfl)) (lx_ _ (List.mem_of_getElem? (i := 177) rfl)) (lx_ _ (List.mem_of_getElem? (i := 473) rfl))) rfl rfl rfl ⟨by decide, by decide, by decide +kernel⟩ ⟨Nat.le_of_ble_eq_true rfl, Nat.le_of_ble_eq_true rfl⟩) ⟨vi_px_blind, vi_px hO.1.right hD.right F.2.1 F.2.2.1 hTT hB.1.2.2 sgB_A⟩ rfl rfl hl.1 rfl (lv_room (Nat.le_of_ble_eq_true rfl)) dL_law_1559 ⟨rm_c (show _ + 1 ≤ 606000 by omega), rm_s (show _ + 6 * 1 ≤ 7100000 by have := hB.2.2; omega)⟩) hB hO hD ht9 (fun H locs kx1 w2 f1 hB hO hD ht1 hk9 => ?_)
  obtain ⟨w3, hC, hO, hD, ht9⟩ := CS_kept (a := (od, .inl (cy 3, 1, .inr (.inr (.inr (.inl fD)))))) hC ht1 hk9 (by decide +kernel) (by decide +kernel) hO hD
  have hO : lwO D σ ([(od, .inl (cy 3, 1, .inr (.inr (.inr (.inl fD)))))] ++ (oa, .inl (cy 2, 1, .inr (.inl f1))) :: w3) H := hO
  have hD : va_D (sgA σ0 s.heap.size) ([(od, .inl (cy 3, 1, .inr (.inr (.inr (.inl fD)))))] ++ (oa, .inl (cy 2, 1, .inr (.inl f1))) :: w3) := hD
  refine lv_istore (lv' := [(6, .int kx1), (5, .int i), (4, .ref od), (3, .ref oa), (2, .ref (kA K)), (1, .ref x0), (0, .ref sa)]) hx hb dL_law_1562 hl (by decide) rfl (fun ls hl => ?_)
  refine lv_aload_n hx hb dL_law_1564 rfl (lv_at hl 4 rfl) ?_
  refine lv_aload_n hx hb dL_law_1565 rfl (lv_at hl 6 rfl) ?_
  refine lv_iload hx hb dL_law_1566 (lv_at hl 1 rfl) ?_
  refine lv_iconst (v := 1) hx hb dL_law_1568 (by decide) ?_
  refine lv_iadd hx hb dL_law_1569 ?_
  refine va_sld hx hb hXs hbl hbA hB.1.2.2 (lx_in hi hL hL9 (k := 1) (by decide)) dL_law_1570 ?_
  refine lv_aload_n hx hb dL_law_1571 rfl (lv_at hl 6 rfl) ?_
  refine lv_iload hx hb dL_law_1572 (lv_at hl 1 rfl) ?_
  refine lv_iconst (v := 2) hx hb dL_law_1574 (by decide) ?_
  refine lv_iadd hx hb dL_law_1575 ?_
  refine va_sld hx hb hXs hbl hbA hB.1.2.2 (lx_in hi hL hL9 (k := 2) (by decide)) dL_law_1576 ?_
  refine lw_callV (ci := 19) (b := kA K) (As := [.int (xs (i + 1).toNatClampNeg), .int (xs (i + 2).toNatClampNeg)]) (rest := []) F hB hO (m_taken_ l D cy hV ((xs (i + 1).toNatClampNeg)) ((xs (i + 2).toNatClampNeg)) _) (cwV 2 hts (lwV lxm_ (lx_ _ (List.mem_of_getElem? (i := 474) rfl)) (lx_ _ (List.mem_of_getElem? (i := 475) rfl)) (lx_ _ (List.mem_of_getElem? (i := 476) rfl)) (lx_ _ (List.mem_of_getElem? (i := 182) rfl)) (lx_ _ (List.mem_of_getElem? (i := 477) rfl))) rfl rfl rfl ⟨rfl, by decide, by decide, by decide +kernel⟩ ⟨Nat.le_of_ble_eq_true rfl, Nat.le_of_ble_eq_true rfl⟩) rfl rfl (by decide) rfl hl.1 rfl (Nat.le_of_ble_eq_true rfl) dL_law_1577 (rm_c (show _ + 0 ≤ 606000 by omega)) (rm_s (show _ + 0 + sgPot σ0 ≤ 7100000 by omega)) (inv_Mr hV).1 (fun H locs v σ N hB hX hP hO => ?_)
  obtain ⟨⟨y5, rfl⟩, hV⟩ := hP
  refine lv_istore (lv' := [(7, .int y5), (6, .int kx1), (5, .int i), (4, .ref od), (3, .ref oa), (2, .ref (kA K)), (1, .ref x0), (0, .ref sa)]) hx hb dL_law_1580 hl (by decide) rfl (fun ls hl => ?_)
  refine lv_goto (tgt := 1864) hx hb dL_law_1582 (by decide) ?_
  exact hE _ _ _ _ _ ⟨σ, K, g, n, S, hw, _, w3, f1, fD, hB, by omega, by omega, by omega, hV, rfl, hY, hH, hO, hD, ht9, CS_up hC (by omega)⟩ (lv_sub hl [2, 3, 4, 5, 6, 7] rfl)

set_option maxRecDepth 100000 in
set_option maxHeartbeats 4000000 in
theorem lg_42 (X : LX p l s m meth c D cy σ0 eda ca ia ad τ q0 x0 sa L xs) (ht : t < 512) (hc0 : c0 ≤ 40000) (hn0 : n0 ≤ 400000) (hI : LI D cy s σ0 eda ia ad τ q0 x0 av qv fd a0 oa od t c0 n0 H locs k N) (hi : i.toInt = 6 * (t : Int)) (hL : 6 * t + 6 ≤ L) (hl : lv_has ls 9 [(5, .int i), (4, .ref od), (3, .ref oa), (2, .ref a0), (1, .ref x0), (0, .ref sa)]) (hE : ∀ (H : Heap) (locs : List Loc) (k N : Nat) (ls : Array Slot), LI D cy s σ0 eda ia ad τ q0 x0 av qv fd a0 oa od (t + 1) c0 n0 H locs k N → lv_has ls 9 [(5, .int i), (4, .ref od), (3, .ref oa), (2, .ref a0), (1, .ref x0), (0, .ref sa)] → W p l e room_1 s m #[Value.ref sa] below meth c H locs k N Q (F0 m 1864 ls [])) : W p l e room_1 s m #[Value.ref sa] below meth c H locs k N Q (F0 m 1585 ls []) := by
  obtain ⟨F, hst, hs, hr0, hr1, hTT, hXs, hbl, hbA, hp0, hL9⟩ := X
  obtain ⟨hx, hb, hml, hown, hts⟩ := id F.1
  obtain ⟨σ, K, g, n, S, hw, nn, w, f, fD, hB, hnn, hk, hSS, hV, hKa, hY, hH, hO, hD, ht9, hC⟩ := hI
  subst hKa
  refine lv_aload_n hx hb dL_law_1585 rfl (lv_at hl 4 rfl) ?_
  refine lv_aload_n hx hb dL_law_1586 rfl (lv_at hl 5 rfl) ?_
  refine lv_iload hx hb dL_law_1587 (lv_at hl 0 rfl) ?_
  refine lv_iconst (v := 1) hx hb dL_law_1589 (by decide) ?_
  refine lv_iadd hx hb dL_law_1590 ?_
  refine va_sld hx hb hXs hbl hbA hB.1.2.2 (lx_in hi hL hL9 (k := 1) (by decide)) dL_law_1591 ?_
  refine lv_aload_n hx hb dL_law_1592 rfl (lv_at hl 5 rfl) ?_
  refine lv_iload hx hb dL_law_1593 (lv_at hl 0 rfl) ?_
  refine lv_iconst (v := 2) hx hb dL_law_1595 (by decide) ?_
  refine lv_iadd hx hb dL_law_1596 ?_
  refine va_sld hx hb hXs hbl hbA hB.1.2.2 (lx_in hi hL hL9 (k := 2) (by decide)) dL_law_1597 ?_
  refine lv_aload_n hx hb dL_law_1598 rfl (lv_at hl 5 rfl) ?_
  refine lv_iload hx hb dL_law_1599 (lv_at hl 0 rfl) ?_
  refine lv_iconst (v := 3) hx hb dL_law_1601 (by decide) ?_
  refine lv_iadd hx hb dL_law_1602 ?_
  refine va_sld hx hb hXs hbl hbA hB.1.2.2 (lx_in hi hL hL9 (k := 3) (by decide)) dL_law_1603 ?_
  refine lv_aload_n hx hb dL_law_1604 rfl (lv_at hl 2 rfl) ?_
  refine lw_wk (wr := [(od, .inl (cy 3, 1, .inr (.inr (.inr (.inl fD)))))]) (rest := []) (vx_runSW (g := F0 m 1605 ls _) (As := [.ref x0, .int (xs (i + 1).toNatClampNeg), .int (xs (i + 2).toNatClampNeg), .int (xs (i + 3).toNatClampNeg), .ref oa]) (rest := []) F.1 (w_takenAt l D cy hst _ oa _ hs ht9 hr0 hr1 ((xs (i + 1).toNatClampNeg)) ((xs (i + 2).toNatClampNeg)) ((xs (i + 3).toNatClampNeg))) (vx_cwSW 5 hts (lwS lxl_ (lx_ _ (List.mem_of_getElem? (i := 478) rfl)) (lx_ _ (List.mem_of_getElem? (i := 479) rfl)) (lx_ _ (List.mem_of_getElem? (i := 177) rfl)) (lx_ _ (List.mem_of_getElem? (i := 480) rfl))) rfl rfl rfl ⟨by decide, by decide, by decide +kernel⟩ ⟨Nat.le_of_ble_eq_true rfl, Nat.le_of_ble_eq_true rfl⟩) ⟨vi_px_blind, vi_px hO.1.right hD.right F.2.1 F.2.2.1 hTT hB.1.2.2 sgB_A⟩ rfl rfl hl.1 rfl (lv_room (Nat.le_of_ble_eq_true rfl)) dL_law_1605 ⟨rm_c (show _ + 1 ≤ 606000 by omega), rm_s (show _ + 6 * 1 ≤ 7100000 by have := hB.2.2; omega)⟩) hB hO hD ht9 (fun H locs kx1 w2 f1 hB hO hD ht1 hk9 => ?_)
  obtain ⟨w3, hC, hO, hD, ht9⟩ := CS_kept (a := (od, .inl (cy 3, 1, .inr (.inr (.inr (.inl fD)))))) hC ht1 hk9 (by decide +kernel) (by decide +kernel) hO hD
  have hO : lwO D σ ([(od, .inl (cy 3, 1, .inr (.inr (.inr (.inl fD)))))] ++ (oa, .inl (cy 2, 1, .inr (.inl f1))) :: w3) H := hO
  have hD : va_D (sgA σ0 s.heap.size) ([(od, .inl (cy 3, 1, .inr (.inr (.inr (.inl fD)))))] ++ (oa, .inl (cy 2, 1, .inr (.inl f1))) :: w3) := hD
  refine lv_istore (lv' := [(6, .int kx1), (5, .int i), (4, .ref od), (3, .ref oa), (2, .ref (kA K)), (1, .ref x0), (0, .ref sa)]) hx hb dL_law_1608 hl (by decide) rfl (fun ls hl => ?_)
  refine lv_aload_n hx hb dL_law_1610 rfl (lv_at hl 4 rfl) ?_
  refine lv_aload_n hx hb dL_law_1611 rfl (lv_at hl 6 rfl) ?_
  refine lv_iload hx hb dL_law_1612 (lv_at hl 1 rfl) ?_
  refine lv_iconst (v := 1) hx hb dL_law_1614 (by decide) ?_
  refine lv_iadd hx hb dL_law_1615 ?_
  refine va_sld hx hb hXs hbl hbA hB.1.2.2 (lx_in hi hL hL9 (k := 1) (by decide)) dL_law_1616 ?_
  refine lv_aload_n hx hb dL_law_1617 rfl (lv_at hl 6 rfl) ?_
  refine lv_iload hx hb dL_law_1618 (lv_at hl 1 rfl) ?_
  refine lv_iconst (v := 2) hx hb dL_law_1620 (by decide) ?_
  refine lv_iadd hx hb dL_law_1621 ?_
  refine va_sld hx hb hXs hbl hbA hB.1.2.2 (lx_in hi hL hL9 (k := 2) (by decide)) dL_law_1622 ?_
  refine lv_aload_n hx hb dL_law_1623 rfl (lv_at hl 6 rfl) ?_
  refine lv_iload hx hb dL_law_1624 (lv_at hl 1 rfl) ?_
  refine lv_iconst (v := 3) hx hb dL_law_1626 (by decide) ?_
  refine lv_iadd hx hb dL_law_1627 ?_
  refine va_sld hx hb hXs hbl hbA hB.1.2.2 (lx_in hi hL hL9 (k := 3) (by decide)) dL_law_1628 ?_
  refine lw_callV (ci := 19) (b := kA K) (As := [.int (xs (i + 1).toNatClampNeg), .int (xs (i + 2).toNatClampNeg), .int (xs (i + 3).toNatClampNeg)]) (rest := []) F hB hO (m_takenAt l D cy hV ((xs (i + 1).toNatClampNeg)) ((xs (i + 2).toNatClampNeg)) ((xs (i + 3).toNatClampNeg)) _) (cwV 3 hts (lwV lxm_ (lx_ _ (List.mem_of_getElem? (i := 481) rfl)) (lx_ _ (List.mem_of_getElem? (i := 482) rfl)) (lx_ _ (List.mem_of_getElem? (i := 483) rfl)) (lx_ _ (List.mem_of_getElem? (i := 182) rfl)) (lx_ _ (List.mem_of_getElem? (i := 484) rfl))) rfl rfl rfl ⟨rfl, by decide, by decide, by decide +kernel⟩ ⟨Nat.le_of_ble_eq_true rfl, Nat.le_of_ble_eq_true rfl⟩) rfl rfl (by decide) rfl hl.1 rfl (Nat.le_of_ble_eq_true rfl) dL_law_1629 (rm_c (show _ + 0 ≤ 606000 by omega)) (rm_s (show _ + 0 + sgPot σ0 ≤ 7100000 by omega)) (inv_Mr hV).1 (fun H locs v σ N hB hX hP hO => ?_)
  obtain ⟨⟨y5, rfl⟩, hV⟩ := hP
  refine lv_istore (lv' := [(7, .int y5), (6, .int kx1), (5, .int i), (4, .ref od), (3, .ref oa), (2, .ref (kA K)), (1, .ref x0), (0, .ref sa)]) hx hb dL_law_1632 hl (by decide) rfl (fun ls hl => ?_)
  refine lv_goto (tgt := 1864) hx hb dL_law_1634 (by decide) ?_
  exact hE _ _ _ _ _ ⟨σ, K, g, n, S, hw, _, w3, f1, fD, hB, by omega, by omega, by omega, hV, rfl, hY, hH, hO, hD, ht9, CS_up hC (by omega)⟩ (lv_sub hl [2, 3, 4, 5, 6, 7] rfl)

set_option maxRecDepth 100000 in
set_option maxHeartbeats 4000000 in
theorem lg_43 (X : LX p l s m meth c D cy σ0 eda ca ia ad τ q0 x0 sa L xs) (ht : t < 512) (hc0 : c0 ≤ 40000) (hn0 : n0 ≤ 400000) (hI : LI D cy s σ0 eda ia ad τ q0 x0 av qv fd a0 oa od t c0 n0 H locs k N) (hi : i.toInt = 6 * (t : Int)) (hL : 6 * t + 6 ≤ L) (hl : lv_has ls 9 [(5, .int i), (4, .ref od), (3, .ref oa), (2, .ref a0), (1, .ref x0), (0, .ref sa)]) (hE : ∀ (H : Heap) (locs : List Loc) (k N : Nat) (ls : Array Slot), LI D cy s σ0 eda ia ad τ q0 x0 av qv fd a0 oa od (t + 1) c0 n0 H locs k N → lv_has ls 9 [(5, .int i), (4, .ref od), (3, .ref oa), (2, .ref a0), (1, .ref x0), (0, .ref sa)] → W p l e room_1 s m #[Value.ref sa] below meth c H locs k N Q (F0 m 1864 ls [])) : W p l e room_1 s m #[Value.ref sa] below meth c H locs k N Q (F0 m 1637 ls []) := by
  obtain ⟨F, hst, hs, hr0, hr1, hTT, hXs, hbl, hbA, hp0, hL9⟩ := X
  obtain ⟨hx, hb, hml, hown, hts⟩ := id F.1
  obtain ⟨σ, K, g, n, S, hw, nn, w, f, fD, hB, hnn, hk, hSS, hV, hKa, hY, hH, hO, hD, ht9, hC⟩ := hI
  subst hKa
  refine lv_aload_n hx hb dL_law_1637 rfl (lv_at hl 4 rfl) ?_
  refine lv_aload_n hx hb dL_law_1638 rfl (lv_at hl 5 rfl) ?_
  refine lv_iload hx hb dL_law_1639 (lv_at hl 0 rfl) ?_
  refine lv_iconst (v := 1) hx hb dL_law_1641 (by decide) ?_
  refine lv_iadd hx hb dL_law_1642 ?_
  refine va_sld hx hb hXs hbl hbA hB.1.2.2 (lx_in hi hL hL9 (k := 1) (by decide)) dL_law_1643 ?_
  refine lv_aload_n hx hb dL_law_1644 rfl (lv_at hl 5 rfl) ?_
  refine lv_iload hx hb dL_law_1645 (lv_at hl 0 rfl) ?_
  refine lv_iconst (v := 2) hx hb dL_law_1647 (by decide) ?_
  refine lv_iadd hx hb dL_law_1648 ?_
  refine va_sld hx hb hXs hbl hbA hB.1.2.2 (lx_in hi hL hL9 (k := 2) (by decide)) dL_law_1649 ?_
  refine lv_aload_n hx hb dL_law_1650 rfl (lv_at hl 2 rfl) ?_
  refine lw_wk (wr := [(od, .inl (cy 3, 1, .inr (.inr (.inr (.inl fD)))))]) (rest := []) (vx_runSW (g := F0 m 1651 ls _) (As := [.ref x0, .int (xs (i + 1).toNatClampNeg), .int (xs (i + 2).toNatClampNeg), .ref oa]) (rest := []) F.1 (w_waiting l D cy hst _ oa _ hs ht9 hr0 hr1 ((xs (i + 1).toNatClampNeg)) ((xs (i + 2).toNatClampNeg))) (vx_cwSW 4 hts (lwS lxl_ (lx_ _ (List.mem_of_getElem? (i := 485) rfl)) (lx_ _ (List.mem_of_getElem? (i := 486) rfl)) (lx_ _ (List.mem_of_getElem? (i := 177) rfl)) (lx_ _ (List.mem_of_getElem? (i := 487) rfl))) rfl rfl rfl ⟨by decide, by decide, by decide +kernel⟩ ⟨Nat.le_of_ble_eq_true rfl, Nat.le_of_ble_eq_true rfl⟩) ⟨vi_px_blind, vi_px hO.1.right hD.right F.2.1 F.2.2.1 hTT hB.1.2.2 sgB_A⟩ rfl rfl hl.1 rfl (lv_room (Nat.le_of_ble_eq_true rfl)) dL_law_1651 ⟨rm_c (show _ + 1 ≤ 606000 by omega), rm_s (show _ + 6 * 1 ≤ 7100000 by have := hB.2.2; omega)⟩) hB hO hD ht9 (fun H locs kx1 w2 f1 hB hO hD ht1 hk9 => ?_)
  obtain ⟨w3, hC, hO, hD, ht9⟩ := CS_kept (a := (od, .inl (cy 3, 1, .inr (.inr (.inr (.inl fD)))))) hC ht1 hk9 (by decide +kernel) (by decide +kernel) hO hD
  have hO : lwO D σ ([(od, .inl (cy 3, 1, .inr (.inr (.inr (.inl fD)))))] ++ (oa, .inl (cy 2, 1, .inr (.inl f1))) :: w3) H := hO
  have hD : va_D (sgA σ0 s.heap.size) ([(od, .inl (cy 3, 1, .inr (.inr (.inr (.inl fD)))))] ++ (oa, .inl (cy 2, 1, .inr (.inl f1))) :: w3) := hD
  refine lv_istore (lv' := [(6, .int kx1), (5, .int i), (4, .ref od), (3, .ref oa), (2, .ref (kA K)), (1, .ref x0), (0, .ref sa)]) hx hb dL_law_1654 hl (by decide) rfl (fun ls hl => ?_)
  refine lv_aload_n hx hb dL_law_1656 rfl (lv_at hl 4 rfl) ?_
  refine lv_aload_n hx hb dL_law_1657 rfl (lv_at hl 6 rfl) ?_
  refine lv_iload hx hb dL_law_1658 (lv_at hl 1 rfl) ?_
  refine lv_iconst (v := 1) hx hb dL_law_1660 (by decide) ?_
  refine lv_iadd hx hb dL_law_1661 ?_
  refine va_sld hx hb hXs hbl hbA hB.1.2.2 (lx_in hi hL hL9 (k := 1) (by decide)) dL_law_1662 ?_
  refine lv_aload_n hx hb dL_law_1663 rfl (lv_at hl 6 rfl) ?_
  refine lv_iload hx hb dL_law_1664 (lv_at hl 1 rfl) ?_
  refine lv_iconst (v := 2) hx hb dL_law_1666 (by decide) ?_
  refine lv_iadd hx hb dL_law_1667 ?_
  refine va_sld hx hb hXs hbl hbA hB.1.2.2 (lx_in hi hL hL9 (k := 2) (by decide)) dL_law_1668 ?_
  refine lw_callV (ci := 19) (b := kA K) (As := [.int (xs (i + 1).toNatClampNeg), .int (xs (i + 2).toNatClampNeg)]) (rest := []) F hB hO (m_waiting l D cy hV ((xs (i + 1).toNatClampNeg)) ((xs (i + 2).toNatClampNeg)) _) (cwV 2 hts (lwV lxm_ (lx_ _ (List.mem_of_getElem? (i := 488) rfl)) (lx_ _ (List.mem_of_getElem? (i := 489) rfl)) (lx_ _ (List.mem_of_getElem? (i := 490) rfl)) (lx_ _ (List.mem_of_getElem? (i := 182) rfl)) (lx_ _ (List.mem_of_getElem? (i := 491) rfl))) rfl rfl rfl ⟨rfl, by decide, by decide, by decide +kernel⟩ ⟨Nat.le_of_ble_eq_true rfl, Nat.le_of_ble_eq_true rfl⟩) rfl rfl (by decide) rfl hl.1 rfl (Nat.le_of_ble_eq_true rfl) dL_law_1669 (rm_c (show _ + 0 ≤ 606000 by omega)) (rm_s (show _ + 0 + sgPot σ0 ≤ 7100000 by omega)) (inv_Mr hV).1 (fun H locs v σ N hB hX hP hO => ?_)
  obtain ⟨⟨y5, rfl⟩, hV⟩ := hP
  refine lv_istore (lv' := [(7, .int y5), (6, .int kx1), (5, .int i), (4, .ref od), (3, .ref oa), (2, .ref (kA K)), (1, .ref x0), (0, .ref sa)]) hx hb dL_law_1672 hl (by decide) rfl (fun ls hl => ?_)
  refine lv_goto (tgt := 1864) hx hb dL_law_1674 (by decide) ?_
  exact hE _ _ _ _ _ ⟨σ, K, g, n, S, hw, _, w3, f1, fD, hB, by omega, by omega, by omega, hV, rfl, hY, hH, hO, hD, ht9, CS_up hC (by omega)⟩ (lv_sub hl [2, 3, 4, 5, 6, 7] rfl)

set_option maxRecDepth 100000 in
set_option maxHeartbeats 4000000 in
theorem lg_44 (X : LX p l s m meth c D cy σ0 eda ca ia ad τ q0 x0 sa L xs) (ht : t < 512) (hc0 : c0 ≤ 40000) (hn0 : n0 ≤ 400000) (hI : LI D cy s σ0 eda ia ad τ q0 x0 av qv fd a0 oa od t c0 n0 H locs k N) (hi : i.toInt = 6 * (t : Int)) (hL : 6 * t + 6 ≤ L) (hl : lv_has ls 9 [(5, .int i), (4, .ref od), (3, .ref oa), (2, .ref a0), (1, .ref x0), (0, .ref sa)]) (hE : ∀ (H : Heap) (locs : List Loc) (k N : Nat) (ls : Array Slot), LI D cy s σ0 eda ia ad τ q0 x0 av qv fd a0 oa od (t + 1) c0 n0 H locs k N → lv_has ls 9 [(5, .int i), (4, .ref od), (3, .ref oa), (2, .ref a0), (1, .ref x0), (0, .ref sa)] → W p l e room_1 s m #[Value.ref sa] below meth c H locs k N Q (F0 m 1864 ls [])) : W p l e room_1 s m #[Value.ref sa] below meth c H locs k N Q (F0 m 1677 ls []) := by
  obtain ⟨F, hst, hs, hr0, hr1, hTT, hXs, hbl, hbA, hp0, hL9⟩ := X
  obtain ⟨hx, hb, hml, hown, hts⟩ := id F.1
  obtain ⟨σ, K, g, n, S, hw, nn, w, f, fD, hB, hnn, hk, hSS, hV, hKa, hY, hH, hO, hD, ht9, hC⟩ := hI
  subst hKa
  refine lv_aload_n hx hb dL_law_1677 rfl (lv_at hl 4 rfl) ?_
  obtain ⟨vs, fr0, c1, c4, hf0, hf1⟩ := CS_f hC hr1
  have hOw : va_P D vwCl _ H := (show va_P D vwCl ([(oa, .inl (cy 2, 1, .inr (.inl f)))] ++ w) H from hO.1.right).right
  have hDw : va_D _ _ := (show va_D (sgA σ0 s.heap.size) ([(oa, .inl (cy 2, 1, .inr (.inl f)))] ++ w) from hD.right).right
  refine lw_wc (nc := 0) (wr := [(od, .inl (cy 3, 1, .inr (.inr (.inr (.inl fD))))), (oa, .inl (cy 2, 1, .inr (.inl f)))]) (rest := []) (lw_mono (Qb := vw_QC D vK cy ad τ w q_Hubcascade_got_0.2.2.2.1 (va_A _ H.size) (fun v _ => ∃ y : Int32, v = some (.int y))) (va_runV (g := F0 m 1678 ls _) (b := x0) (As := []) (rest := []) F.1 ((m_Hubcascade_got_0 l D cy hst).2 ad τ _ _ [.ref x0] hs ht9 rfl (vi_tys_ok (ad := ad) (τ := τ) (as := q_Hubcascade_got_0.1) ⟨Or.inr ⟨q0, x0, hr0, hr1, rfl⟩, True.intro⟩) (fun f hf => by cases hf)) (cwV 0 hts (lwV lxv_ (lx_ _ (List.mem_of_getElem? (i := 492) rfl)) (lx_ _ (List.mem_of_getElem? (i := 493) rfl)) (lx_ _ (List.mem_of_getElem? (i := 494) rfl)) (lx_ _ (List.mem_of_getElem? (i := 3) rfl)) (lx_ _ (List.mem_of_getElem? (i := 495) rfl))) rfl rfl rfl ⟨rfl, by decide, by decide, by decide +kernel⟩ ⟨Nat.le_of_ble_eq_true rfl, Nat.le_of_ble_eq_true rfl⟩) ⟨pme_blind, va_recv F.2.1 hOw (ci := 14) rfl c1, vi_pv hOw hDw F.2.1 F.2.2.1⟩ rfl rfl hl.1 rfl (lv_room (Nat.le_of_ble_eq_true rfl)) dL_law_1678 ⟨rm_c (show _ + 0 ≤ 606000 by omega), rm_s (show _ + 0 ≤ 7100000 by have := hB.2.2; omega)⟩) (fun st oc t h => ⟨by obtain ⟨⟨v, w1, alt, halt, e1, e2, e3, e4, e5⟩, -⟩ := h; exact ⟨v, w1, e1, e2, e3, e4, vw_int (by decide +kernel) halt e5⟩, h.2⟩)) hB hO hD ht9 (fun H locs v w1 hB hO hD ht1 hk9 h8 => ?_)
  obtain ⟨y2, rfl⟩ := h8
  have hO : lwO D σ ([(od, .inl (cy 3, 1, .inr (.inr (.inr (.inl fD)))))] ++ (oa, .inl (cy 2, 1, .inr (.inl f))) :: w1) H := hO
  have hD : va_D (sgA σ0 s.heap.size) ([(od, .inl (cy 3, 1, .inr (.inr (.inr (.inl fD)))))] ++ (oa, .inl (cy 2, 1, .inr (.inl f))) :: w1) := hD
  obtain ⟨w3, hC, hO, hD, ht9⟩ := CS_kept (a := (od, .inl (cy 3, 1, .inr (.inr (.inr (.inl fD)))))) hC ht1 hk9 (by decide +kernel) (by decide +kernel) hO hD
  have hO : lwO D σ ([(od, .inl (cy 3, 1, .inr (.inr (.inr (.inl fD)))))] ++ (oa, .inl (cy 2, 1, .inr (.inl f))) :: w3) H := hO
  have hD : va_D (sgA σ0 s.heap.size) ([(od, .inl (cy 3, 1, .inr (.inr (.inr (.inl fD)))))] ++ (oa, .inl (cy 2, 1, .inr (.inl f))) :: w3) := hD
  refine lv_pop hx hb dL_law_1681 rfl ?_
  refine lv_aload_n hx hb dL_law_1682 rfl (lv_at hl 3 rfl) ?_
  refine lw_callV (ci := 19) (b := kA K) (As := []) (rest := []) F hB hO (m_got l D cy hV _) (cwV 0 hts (lwV lxm_ (lx_ _ (List.mem_of_getElem? (i := 496) rfl)) (lx_ _ (List.mem_of_getElem? (i := 497) rfl)) (lx_ _ (List.mem_of_getElem? (i := 498) rfl)) (lx_ _ (List.mem_of_getElem? (i := 182) rfl)) (lx_ _ (List.mem_of_getElem? (i := 499) rfl))) rfl rfl rfl ⟨rfl, by decide, by decide, by decide +kernel⟩ ⟨Nat.le_of_ble_eq_true rfl, Nat.le_of_ble_eq_true rfl⟩) rfl rfl (by decide) rfl hl.1 rfl (Nat.le_of_ble_eq_true rfl) dL_law_1683 (rm_c (show _ + 0 ≤ 606000 by omega)) (rm_s (show _ + 0 + sgPot σ0 ≤ 7100000 by omega)) (inv_Mr hV).1 (fun H locs v σ N hB hX hP hO => ?_)
  obtain ⟨⟨y5, rfl⟩, hV⟩ := hP
  refine lv_pop hx hb dL_law_1686 rfl ?_
  refine lv_goto (tgt := 1864) hx hb dL_law_1687 (by decide) ?_
  exact hE _ _ _ _ _ ⟨σ, K, g, n, S, hw, _, w3, f, fD, hB, by omega, by omega, by omega, hV, rfl, hY, hH, hO, hD, ht9, CS_up hC (by omega)⟩ (lv_sub hl [0, 1, 2, 3, 4, 5] rfl)
end LGC
