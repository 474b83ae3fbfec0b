theorem m_co_X11_after : Cond.code yX11_after cX11_after 6 (some .int) ∈ zT := zmem1 zsub_4 94 (by decide +kernel) (by decide +kernel)
theorem m_ml_RL_137 : Cond.methodLink RL 137 yX11_after ∈ zT := zmem1 zsub_4 91 (by decide +kernel) (by decide +kernel)
theorem m_im_X11_after : Cond.instanceMethod yX11_after ∈ zT := zmem1 zsub_4 92 (by decide +kernel) (by decide +kernel)
theorem m_se_X11_after : Cond.selects RX11 yX11_after yX11_after ∈ zT := zmem1 zsub_4 93 (by decide +kernel) (by decide +kernel)
theorem m_co_X12_after : Cond.code yX12_after cX12_after 4 (some .int) ∈ zT := zmem1 zsub_8 20 (by decide +kernel) (by decide +kernel)
theorem m_ml_RL_140 : Cond.methodLink RL 140 yX12_after ∈ zT := zmem1 zsub_8 17 (by decide +kernel) (by decide +kernel)
theorem m_im_X12_after : Cond.instanceMethod yX12_after ∈ zT := zmem1 zsub_8 18 (by decide +kernel) (by decide +kernel)
theorem m_se_X12_after : Cond.selects RX12 yX12_after yX12_after ∈ zT := zmem1 zsub_8 19 (by decide +kernel) (by decide +kernel)
theorem m_co_X11_odds : Cond.code yX11_odds cX11_odds 8 (some .int) ∈ zT := zmem1 zsub_5 161 (by decide +kernel) (by decide +kernel)
theorem m_ml_RL_141 : Cond.methodLink RL 141 yX11_odds ∈ zT := zmem1 zsub_5 158 (by decide +kernel) (by decide +kernel)
theorem m_im_X11_odds : Cond.instanceMethod yX11_odds ∈ zT := zmem1 zsub_5 159 (by decide +kernel) (by decide +kernel)
theorem m_se_X11_odds : Cond.selects RX11 yX11_odds yX11_odds ∈ zT := zmem1 zsub_5 160 (by decide +kernel) (by decide +kernel)
theorem m_co_X12_odds : Cond.code yX12_odds cX12_odds 6 (some .int) ∈ zT := zmem1 zsub_8 65 (by decide +kernel) (by decide +kernel)
theorem m_ml_RL_145 : Cond.methodLink RL 145 yX12_odds ∈ zT := zmem1 zsub_8 62 (by decide +kernel) (by decide +kernel)
theorem m_im_X12_odds : Cond.instanceMethod yX12_odds ∈ zT := zmem1 zsub_8 63 (by decide +kernel) (by decide +kernel)
theorem m_se_X12_odds : Cond.selects RX12 yX12_odds yX12_odds ∈ zT := zmem1 zsub_8 64 (by decide +kernel) (by decide +kernel)
theorem m_co_X11_least : Cond.code yX11_least cX11_least 4 (some .int) ∈ zT := zmem1 zsub_5 166 (by decide +kernel) (by decide +kernel)
theorem m_ml_RL_146 : Cond.methodLink RL 146 yX11_least ∈ zT := zmem1 zsub_5 163 (by decide +kernel) (by decide +kernel)
theorem m_im_X11_least : Cond.instanceMethod yX11_least ∈ zT := zmem1 zsub_5 164 (by decide +kernel) (by decide +kernel)
theorem m_se_X11_least : Cond.selects RX11 yX11_least yX11_least ∈ zT := zmem1 zsub_5 165 (by decide +kernel) (by decide +kernel)
theorem m_co_X12_least : Cond.code yX12_least cX12_least 4 (some .int) ∈ zT := zmem1 zsub_8 69 (by decide +kernel) (by decide +kernel)
theorem m_ml_RL_149 : Cond.methodLink RL 149 yX12_least ∈ zT := zmem1 zsub_8 66 (by decide +kernel) (by decide +kernel)
theorem m_im_X12_least : Cond.instanceMethod yX12_least ∈ zT := zmem1 zsub_8 67 (by decide +kernel) (by decide +kernel)
theorem m_se_X12_least : Cond.selects RX12 yX12_least yX12_least ∈ zT := zmem1 zsub_8 68 (by decide +kernel) (by decide +kernel)
theorem m_co_X11_count : Cond.code yX11_count cX11_count 2 (some .int) ∈ zT := zmem1 zsub_3 176 (by decide +kernel) (by decide +kernel)
theorem m_ml_RL_150 : Cond.methodLink RL 150 yX11_count ∈ zT := zmem1 zsub_3 173 (by decide +kernel) (by decide +kernel)
theorem m_im_X11_count : Cond.instanceMethod yX11_count ∈ zT := zmem1 zsub_3 174 (by decide +kernel) (by decide +kernel)
theorem m_se_X11_count : Cond.selects RX11 yX11_count yX11_count ∈ zT := zmem1 zsub_3 175 (by decide +kernel) (by decide +kernel)
theorem m_co_X12_count : Cond.code yX12_count cX12_count 2 (some .int) ∈ zT := zmem1 zsub_8 86 (by decide +kernel) (by decide +kernel)
theorem m_ml_RL_153 : Cond.methodLink RL 153 yX12_count ∈ zT := zmem1 zsub_8 83 (by decide +kernel) (by decide +kernel)
theorem m_im_X12_count : Cond.instanceMethod yX12_count ∈ zT := zmem1 zsub_8 84 (by decide +kernel) (by decide +kernel)
theorem m_se_X12_count : Cond.selects RX12 yX12_count yX12_count ∈ zT := zmem1 zsub_8 85 (by decide +kernel) (by decide +kernel)
theorem kV_RL_137 {R : Room} {s : State} {args : Array Value} {d mc ms : Nat} (hts : ∀ w ∈ zT, w.before args s = true) (h1 : d + 1 ≤ R.frames) (h2 : 8 + (6 + 11) + 40 * d ≤ R.locals) : CallW R s args RL RX11 137 yX11_after cX11_after 6 (some .int) (zW yX11_after cX11_after 6 (some .int)) (zR d mc ms) mc ms 3 := z_cwV hts m_co_X11_after m_ml_RL_137 m_im_X11_after m_se_X11_after m_ii_RX11 (by decide +kernel) h1 h2
theorem kV_RL_140 {R : Room} {s : State} {args : Array Value} {d mc ms : Nat} (hts : ∀ w ∈ zT, w.before args s = true) (h1 : d + 1 ≤ R.frames) (h2 : 8 + (4 + 11) + 40 * d ≤ R.locals) : CallW R s args RL RX12 140 yX12_after cX12_after 4 (some .int) (zW yX12_after cX12_after 4 (some .int)) (zR d mc ms) mc ms 3 := z_cwV hts m_co_X12_after m_ml_RL_140 m_im_X12_after m_se_X12_after m_ii_RX12 (by decide +kernel) h1 h2
theorem kV_RL_141 {R : Room} {s : State} {args : Array Value} {d mc ms : Nat} (hts : ∀ w ∈ zT, w.before args s = true) (h1 : d + 1 ≤ R.frames) (h2 : 8 + (8 + 11) + 40 * d ≤ R.locals) : CallW R s args RL RX11 141 yX11_odds cX11_odds 8 (some .int) (zW yX11_odds cX11_odds 8 (some .int)) (zR d mc ms) mc ms 5 := z_cwV hts m_co_X11_odds m_ml_RL_141 m_im_X11_odds m_se_X11_odds m_ii_RX11 (by decide +kernel) h1 h2
theorem kV_RL_145 {R : Room} {s : State} {args : Array Value} {d mc ms : Nat} (hts : ∀ w ∈ zT, w.before args s = true) (h1 : d + 1 ≤ R.frames) (h2 : 8 + (6 + 11) + 40 * d ≤ R.locals) : CallW R s args RL RX12 145 yX12_odds cX12_odds 6 (some .int) (zW yX12_odds cX12_odds 6 (some .int)) (zR d mc ms) mc ms 5 := z_cwV hts m_co_X12_odds m_ml_RL_145 m_im_X12_odds m_se_X12_odds m_ii_RX12 (by decide +kernel) h1 h2
theorem kV_RL_146 {R : Room} {s : State} {args : Array Value} {d mc ms : Nat} (hts : ∀ w ∈ zT, w.before args s = true) (h1 : d + 1 ≤ R.frames) (h2 : 8 + (4 + 11) + 40 * d ≤ R.locals) : CallW R s args RL RX11 146 yX11_least cX11_least 4 (some .int) (zW yX11_least cX11_least 4 (some .int)) (zR d mc ms) mc ms 3 := z_cwV hts m_co_X11_least m_ml_RL_146 m_im_X11_least m_se_X11_least m_ii_RX11 (by decide +kernel) h1 h2
theorem kV_RL_149 {R : Room} {s : State} {args : Array Value} {d mc ms : Nat} (hts : ∀ w ∈ zT, w.before args s = true) (h1 : d + 1 ≤ R.frames) (h2 : 8 + (4 + 11) + 40 * d ≤ R.locals) : CallW R s args RL RX12 149 yX12_least cX12_least 4 (some .int) (zW yX12_least cX12_least 4 (some .int)) (zR d mc ms) mc ms 3 := z_cwV hts m_co_X12_least m_ml_RL_149 m_im_X12_least m_se_X12_least m_ii_RX12 (by decide +kernel) h1 h2
theorem kV_RL_150 {R : Room} {s : State} {args : Array Value} {d mc ms : Nat} (hts : ∀ w ∈ zT, w.before args s = true) (h1 : d + 1 ≤ R.frames) (h2 : 8 + (2 + 11) + 40 * d ≤ R.locals) : CallW R s args RL RX11 150 yX11_count cX11_count 2 (some .int) (zW yX11_count cX11_count 2 (some .int)) (zR d mc ms) mc ms 1 := z_cwV hts m_co_X11_count m_ml_RL_150 m_im_X11_count m_se_X11_count m_ii_RX11 (by decide +kernel) h1 h2
theorem kV_RL_153 {R : Room} {s : State} {args : Array Value} {d mc ms : Nat} (hts : ∀ w ∈ zT, w.before args s = true) (h1 : d + 1 ≤ R.frames) (h2 : 8 + (2 + 11) + 40 * d ≤ R.locals) : CallW R s args RL RX12 153 yX12_count cX12_count 2 (some .int) (zW yX12_count cX12_count 2 (some .int)) (zR d mc ms) mc ms 1 := z_cwV hts m_co_X12_count m_ml_RL_153 m_im_X12_count m_se_X12_count m_ii_RX12 (by decide +kernel) h1 h2
theorem dL_law_1517 : decode cL_law 1517 = .ok (.aload_n 1, 1) := by decide +kernel
theorem dL_law_1518 : decode cL_law 1518 = .ok (.aload_n 0, 1) := by decide +kernel
theorem dL_law_1519 : decode cL_law 1519 = .ok (.iload_n 3, 1) := by decide +kernel
theorem dL_law_1520 : decode cL_law 1520 = .ok (.iconst 1, 1) := by decide +kernel
theorem dL_law_1521 : decode cL_law 1521 = .ok (.iadd, 1) := by decide +kernel
theorem dL_law_1522 : decode cL_law 1522 = .ok (.iaload, 1) := by decide +kernel
theorem dL_law_1523 : decode cL_law 1523 = .ok (.aload_n 0, 1) := by decide +kernel
theorem dL_law_1524 : decode cL_law 1524 = .ok (.iload_n 3, 1) := by decide +kernel
theorem dL_law_1525 : decode cL_law 1525 = .ok (.iconst 2, 1) := by decide +kernel
theorem dL_law_1526 : decode cL_law 1526 = .ok (.iadd, 1) := by decide +kernel
theorem dL_law_1527 : decode cL_law 1527 = .ok (.iaload, 1) := by decide +kernel
theorem dL_law_1528 : decode cL_law 1528 = .ok (.aload_n 0, 1) := by decide +kernel
theorem dL_law_1529 : decode cL_law 1529 = .ok (.iload_n 3, 1) := by decide +kernel
theorem dL_law_1530 : decode cL_law 1530 = .ok (.iconst 3, 1) := by decide +kernel
theorem dL_law_1531 : decode cL_law 1531 = .ok (.iadd, 1) := by decide +kernel
theorem dL_law_1532 : decode cL_law 1532 = .ok (.iaload, 1) := by decide +kernel
theorem dL_law_1533 : decode cL_law 1533 = .ok (.invokevirtual 137, 3) := by decide +kernel
theorem dL_law_1536 : decode cL_law 1536 = .ok (.pop, 1) := by decide +kernel
theorem dL_law_1537 : decode cL_law 1537 = .ok (.aload_n 2, 1) := by decide +kernel
theorem dL_law_1538 : decode cL_law 1538 = .ok (.aload_n 0, 1) := by decide +kernel
theorem dL_law_1539 : decode cL_law 1539 = .ok (.iload_n 3, 1) := by decide +kernel
theorem dL_law_1540 : decode cL_law 1540 = .ok (.iconst 1, 1) := by decide +kernel
theorem dL_law_1541 : decode cL_law 1541 = .ok (.iadd, 1) := by decide +kernel
theorem dL_law_1542 : decode cL_law 1542 = .ok (.iaload, 1) := by decide +kernel
theorem dL_law_1543 : decode cL_law 1543 = .ok (.aload_n 0, 1) := by decide +kernel
theorem dL_law_1544 : decode cL_law 1544 = .ok (.iload_n 3, 1) := by decide +kernel
theorem dL_law_1545 : decode cL_law 1545 = .ok (.iconst 2, 1) := by decide +kernel
theorem dL_law_1546 : decode cL_law 1546 = .ok (.iadd, 1) := by decide +kernel
theorem dL_law_1547 : decode cL_law 1547 = .ok (.iaload, 1) := by decide +kernel
theorem dL_law_1548 : decode cL_law 1548 = .ok (.aload_n 0, 1) := by decide +kernel
theorem dL_law_1549 : decode cL_law 1549 = .ok (.iload_n 3, 1) := by decide +kernel
theorem dL_law_1550 : decode cL_law 1550 = .ok (.iconst 3, 1) := by decide +kernel
theorem dL_law_1551 : decode cL_law 1551 = .ok (.iadd, 1) := by decide +kernel
theorem dL_law_1552 : decode cL_law 1552 = .ok (.iaload, 1) := by decide +kernel
theorem dL_law_1553 : decode cL_law 1553 = .ok (.invokevirtual 140, 3) := by decide +kernel
theorem dL_law_1556 : decode cL_law 1556 = .ok (.pop, 1) := by decide +kernel
theorem dL_law_1557 : decode cL_law 1557 = .ok (.goto 210, 3) := by decide +kernel
theorem dL_law_1560 : decode cL_law 1560 = .ok (.aload_n 1, 1) := by decide +kernel
theorem dL_law_1561 : decode cL_law 1561 = .ok (.aload_n 0, 1) := by decide +kernel
theorem dL_law_1562 : decode cL_law 1562 = .ok (.iload_n 3, 1) := by decide +kernel
theorem dL_law_1563 : decode cL_law 1563 = .ok (.iconst 1, 1) := by decide +kernel
theorem dL_law_1564 : decode cL_law 1564 = .ok (.iadd, 1) := by decide +kernel
theorem dL_law_1565 : decode cL_law 1565 = .ok (.iaload, 1) := by decide +kernel
theorem dL_law_1566 : decode cL_law 1566 = .ok (.aload_n 0, 1) := by decide +kernel
theorem dL_law_1567 : decode cL_law 1567 = .ok (.iload_n 3, 1) := by decide +kernel
theorem dL_law_1568 : decode cL_law 1568 = .ok (.iconst 2, 1) := by decide +kernel
theorem dL_law_1569 : decode cL_law 1569 = .ok (.iadd, 1) := by decide +kernel
theorem dL_law_1570 : decode cL_law 1570 = .ok (.iaload, 1) := by decide +kernel
theorem dL_law_1571 : decode cL_law 1571 = .ok (.aload_n 0, 1) := by decide +kernel
theorem dL_law_1572 : decode cL_law 1572 = .ok (.iload_n 3, 1) := by decide +kernel
theorem dL_law_1573 : decode cL_law 1573 = .ok (.iconst 3, 1) := by decide +kernel
theorem dL_law_1574 : decode cL_law 1574 = .ok (.iadd, 1) := by decide +kernel
theorem dL_law_1575 : decode cL_law 1575 = .ok (.iaload, 1) := by decide +kernel
theorem dL_law_1576 : decode cL_law 1576 = .ok (.aload_n 0, 1) := by decide +kernel
theorem dL_law_1577 : decode cL_law 1577 = .ok (.iload_n 3, 1) := by decide +kernel
theorem dL_law_1578 : decode cL_law 1578 = .ok (.iconst 4, 1) := by decide +kernel
theorem dL_law_1579 : decode cL_law 1579 = .ok (.iadd, 1) := by decide +kernel
theorem dL_law_1580 : decode cL_law 1580 = .ok (.iaload, 1) := by decide +kernel
theorem dL_law_1581 : decode cL_law 1581 = .ok (.aload_n 0, 1) := by decide +kernel
theorem dL_law_1582 : decode cL_law 1582 = .ok (.iload_n 3, 1) := by decide +kernel
theorem dL_law_1583 : decode cL_law 1583 = .ok (.iconst 5, 1) := by decide +kernel
theorem dL_law_1584 : decode cL_law 1584 = .ok (.iadd, 1) := by decide +kernel
theorem dL_law_1585 : decode cL_law 1585 = .ok (.iaload, 1) := by decide +kernel
theorem dL_law_1586 : decode cL_law 1586 = .ok (.ifCond .eq 7, 3) := by decide +kernel
theorem dL_law_1589 : decode cL_law 1589 = .ok (.iconst 1, 1) := by decide +kernel
theorem dL_law_1590 : decode cL_law 1590 = .ok (.goto 4, 3) := by decide +kernel
theorem dL_law_1593 : decode cL_law 1593 = .ok (.iconst 0, 1) := by decide +kernel
theorem dL_law_1594 : decode cL_law 1594 = .ok (.invokevirtual 141, 3) := by decide +kernel
theorem dL_law_1597 : decode cL_law 1597 = .ok (.pop, 1) := by decide +kernel
theorem dL_law_1598 : decode cL_law 1598 = .ok (.aload_n 2, 1) := by decide +kernel
theorem dL_law_1599 : decode cL_law 1599 = .ok (.aload_n 0, 1) := by decide +kernel
theorem dL_law_1600 : decode cL_law 1600 = .ok (.iload_n 3, 1) := by decide +kernel
theorem dL_law_1601 : decode cL_law 1601 = .ok (.iconst 1, 1) := by decide +kernel
theorem dL_law_1602 : decode cL_law 1602 = .ok (.iadd, 1) := by decide +kernel
theorem dL_law_1603 : decode cL_law 1603 = .ok (.iaload, 1) := by decide +kernel
theorem dL_law_1604 : decode cL_law 1604 = .ok (.aload_n 0, 1) := by decide +kernel
theorem dL_law_1605 : decode cL_law 1605 = .ok (.iload_n 3, 1) := by decide +kernel
theorem dL_law_1606 : decode cL_law 1606 = .ok (.iconst 2, 1) := by decide +kernel
theorem dL_law_1607 : decode cL_law 1607 = .ok (.iadd, 1) := by decide +kernel
theorem dL_law_1608 : decode cL_law 1608 = .ok (.iaload, 1) := by decide +kernel
theorem dL_law_1609 : decode cL_law 1609 = .ok (.aload_n 0, 1) := by decide +kernel
theorem dL_law_1610 : decode cL_law 1610 = .ok (.iload_n 3, 1) := by decide +kernel
theorem dL_law_1611 : decode cL_law 1611 = .ok (.iconst 3, 1) := by decide +kernel
theorem dL_law_1612 : decode cL_law 1612 = .ok (.iadd, 1) := by decide +kernel
theorem dL_law_1613 : decode cL_law 1613 = .ok (.iaload, 1) := by decide +kernel
theorem dL_law_1614 : decode cL_law 1614 = .ok (.aload_n 0, 1) := by decide +kernel
theorem dL_law_1615 : decode cL_law 1615 = .ok (.iload_n 3, 1) := by decide +kernel
theorem dL_law_1616 : decode cL_law 1616 = .ok (.iconst 4, 1) := by decide +kernel
theorem dL_law_1617 : decode cL_law 1617 = .ok (.iadd, 1) := by decide +kernel
theorem dL_law_1618 : decode cL_law 1618 = .ok (.iaload, 1) := by decide +kernel
theorem dL_law_1619 : decode cL_law 1619 = .ok (.aload_n 0, 1) := by decide +kernel
theorem dL_law_1620 : decode cL_law 1620 = .ok (.iload_n 3, 1) := by decide +kernel
theorem dL_law_1621 : decode cL_law 1621 = .ok (.iconst 5, 1) := by decide +kernel
theorem dL_law_1622 : decode cL_law 1622 = .ok (.iadd, 1) := by decide +kernel
theorem dL_law_1623 : decode cL_law 1623 = .ok (.iaload, 1) := by decide +kernel
theorem dL_law_1624 : decode cL_law 1624 = .ok (.ifCond .eq 7, 3) := by decide +kernel
theorem dL_law_1627 : decode cL_law 1627 = .ok (.iconst 1, 1) := by decide +kernel
theorem dL_law_1628 : decode cL_law 1628 = .ok (.goto 4, 3) := by decide +kernel
theorem dL_law_1631 : decode cL_law 1631 = .ok (.iconst 0, 1) := by decide +kernel
theorem dL_law_1632 : decode cL_law 1632 = .ok (.invokevirtual 145, 3) := by decide +kernel
theorem dL_law_1635 : decode cL_law 1635 = .ok (.pop, 1) := by decide +kernel
theorem dL_law_1636 : decode cL_law 1636 = .ok (.goto 131, 3) := by decide +kernel
theorem dL_law_1639 : decode cL_law 1639 = .ok (.aload_n 1, 1) := by decide +kernel
theorem dL_law_1640 : decode cL_law 1640 = .ok (.aload_n 0, 1) := by decide +kernel
theorem dL_law_1641 : decode cL_law 1641 = .ok (.iload_n 3, 1) := by decide +kernel
theorem dL_law_1642 : decode cL_law 1642 = .ok (.iconst 1, 1) := by decide +kernel
theorem dL_law_1643 : decode cL_law 1643 = .ok (.iadd, 1) := by decide +kernel
theorem dL_law_1644 : decode cL_law 1644 = .ok (.iaload, 1) := by decide +kernel
theorem dL_law_1645 : decode cL_law 1645 = .ok (.aload_n 0, 1) := by decide +kernel
theorem dL_law_1646 : decode cL_law 1646 = .ok (.iload_n 3, 1) := by decide +kernel
theorem dL_law_1647 : decode cL_law 1647 = .ok (.iconst 2, 1) := by decide +kernel
theorem dL_law_1648 : decode cL_law 1648 = .ok (.iadd, 1) := by decide +kernel
theorem dL_law_1649 : decode cL_law 1649 = .ok (.iaload, 1) := by decide +kernel
theorem dL_law_1650 : decode cL_law 1650 = .ok (.aload_n 0, 1) := by decide +kernel
theorem dL_law_1651 : decode cL_law 1651 = .ok (.iload_n 3, 1) := by decide +kernel
theorem dL_law_1652 : decode cL_law 1652 = .ok (.iconst 3, 1) := by decide +kernel
theorem dL_law_1653 : decode cL_law 1653 = .ok (.iadd, 1) := by decide +kernel
theorem dL_law_1654 : decode cL_law 1654 = .ok (.iaload, 1) := by decide +kernel
theorem dL_law_1655 : decode cL_law 1655 = .ok (.ifCond .eq 7, 3) := by decide +kernel
theorem dL_law_1658 : decode cL_law 1658 = .ok (.iconst 1, 1) := by decide +kernel
theorem dL_law_1659 : decode cL_law 1659 = .ok (.goto 4, 3) := by decide +kernel
theorem dL_law_1662 : decode cL_law 1662 = .ok (.iconst 0, 1) := by decide +kernel
theorem dL_law_1663 : decode cL_law 1663 = .ok (.invokevirtual 146, 3) := by decide +kernel
theorem dL_law_1666 : decode cL_law 1666 = .ok (.pop, 1) := by decide +kernel
theorem dL_law_1667 : decode cL_law 1667 = .ok (.aload_n 2, 1) := by decide +kernel
theorem dL_law_1668 : decode cL_law 1668 = .ok (.aload_n 0, 1) := by decide +kernel
theorem dL_law_1669 : decode cL_law 1669 = .ok (.iload_n 3, 1) := by decide +kernel
theorem dL_law_1670 : decode cL_law 1670 = .ok (.iconst 1, 1) := by decide +kernel
theorem dL_law_1671 : decode cL_law 1671 = .ok (.iadd, 1) := by decide +kernel
theorem dL_law_1672 : decode cL_law 1672 = .ok (.iaload, 1) := by decide +kernel
theorem dL_law_1673 : decode cL_law 1673 = .ok (.aload_n 0, 1) := by decide +kernel
theorem dL_law_1674 : decode cL_law 1674 = .ok (.iload_n 3, 1) := by decide +kernel
theorem dL_law_1675 : decode cL_law 1675 = .ok (.iconst 2, 1) := by decide +kernel
theorem dL_law_1676 : decode cL_law 1676 = .ok (.iadd, 1) := by decide +kernel
theorem dL_law_1677 : decode cL_law 1677 = .ok (.iaload, 1) := by decide +kernel
theorem dL_law_1678 : decode cL_law 1678 = .ok (.aload_n 0, 1) := by decide +kernel
theorem dL_law_1679 : decode cL_law 1679 = .ok (.iload_n 3, 1) := by decide +kernel
theorem dL_law_1680 : decode cL_law 1680 = .ok (.iconst 3, 1) := by decide +kernel
theorem dL_law_1681 : decode cL_law 1681 = .ok (.iadd, 1) := by decide +kernel
theorem dL_law_1682 : decode cL_law 1682 = .ok (.iaload, 1) := by decide +kernel
theorem dL_law_1683 : decode cL_law 1683 = .ok (.ifCond .eq 7, 3) := by decide +kernel
theorem dL_law_1686 : decode cL_law 1686 = .ok (.iconst 1, 1) := by decide +kernel
theorem dL_law_1687 : decode cL_law 1687 = .ok (.goto 4, 3) := by decide +kernel
theorem dL_law_1690 : decode cL_law 1690 = .ok (.iconst 0, 1) := by decide +kernel
theorem dL_law_1691 : decode cL_law 1691 = .ok (.invokevirtual 149, 3) := by decide +kernel
theorem dL_law_1694 : decode cL_law 1694 = .ok (.pop, 1) := by decide +kernel
theorem dL_law_1695 : decode cL_law 1695 = .ok (.goto 72, 3) := by decide +kernel
theorem dL_law_1698 : decode cL_law 1698 = .ok (.aload_n 1, 1) := by decide +kernel
theorem dL_law_1699 : decode cL_law 1699 = .ok (.aload_n 0, 1) := by decide +kernel
theorem dL_law_1700 : decode cL_law 1700 = .ok (.iload_n 3, 1) := by decide +kernel
theorem dL_law_1701 : decode cL_law 1701 = .ok (.iconst 1, 1) := by decide +kernel
theorem dL_law_1702 : decode cL_law 1702 = .ok (.iadd, 1) := by decide +kernel
theorem dL_law_1703 : decode cL_law 1703 = .ok (.iaload, 1) := by decide +kernel
theorem dL_law_1704 : decode cL_law 1704 = .ok (.invokevirtual 150, 3) := by decide +kernel
theorem dL_law_1707 : decode cL_law 1707 = .ok (.pop, 1) := by decide +kernel
theorem dL_law_1708 : decode cL_law 1708 = .ok (.aload_n 2, 1) := by decide +kernel
theorem dL_law_1709 : decode cL_law 1709 = .ok (.aload_n 0, 1) := by decide +kernel
theorem dL_law_1710 : decode cL_law 1710 = .ok (.iload_n 3, 1) := by decide +kernel
theorem dL_law_1711 : decode cL_law 1711 = .ok (.iconst 1, 1) := by decide +kernel
theorem dL_law_1712 : decode cL_law 1712 = .ok (.iadd, 1) := by decide +kernel
theorem dL_law_1713 : decode cL_law 1713 = .ok (.iaload, 1) := by decide +kernel
theorem dL_law_1714 : decode cL_law 1714 = .ok (.invokevirtual 153, 3) := by decide +kernel
theorem dL_law_1717 : decode cL_law 1717 = .ok (.pop, 1) := by decide +kernel
theorem dL_law_1718 : decode cL_law 1718 = .ok (.goto 49, 3) := by decide +kernel

