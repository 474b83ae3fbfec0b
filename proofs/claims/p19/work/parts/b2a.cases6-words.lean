theorem m_co_X11_after : Cond.code yX11_after cX11_after 6 (some .int) ∈ zT := zmem1 zsub_4 94 rfl rfl
theorem m_ml_RL_137 : Cond.methodLink RL 137 yX11_after ∈ zT := zmem1 zsub_4 91 rfl rfl
theorem m_im_X11_after : Cond.instanceMethod yX11_after ∈ zT := zmem1 zsub_4 92 rfl rfl
theorem m_se_X11_after : Cond.selects RX11 yX11_after yX11_after ∈ zT := zmem1 zsub_4 93 rfl rfl
theorem m_co_X12_after : Cond.code yX12_after cX12_after 4 (some .int) ∈ zT := zmem1 zsub_8 20 rfl rfl
theorem m_ml_RL_140 : Cond.methodLink RL 140 yX12_after ∈ zT := zmem1 zsub_8 17 rfl rfl
theorem m_im_X12_after : Cond.instanceMethod yX12_after ∈ zT := zmem1 zsub_8 18 rfl rfl
theorem m_se_X12_after : Cond.selects RX12 yX12_after yX12_after ∈ zT := zmem1 zsub_8 19 rfl rfl
theorem m_co_X11_odds : Cond.code yX11_odds cX11_odds 8 (some .int) ∈ zT := zmem1 zsub_5 161 rfl rfl
theorem m_ml_RL_141 : Cond.methodLink RL 141 yX11_odds ∈ zT := zmem1 zsub_5 158 rfl rfl
theorem m_im_X11_odds : Cond.instanceMethod yX11_odds ∈ zT := zmem1 zsub_5 159 rfl rfl
theorem m_se_X11_odds : Cond.selects RX11 yX11_odds yX11_odds ∈ zT := zmem1 zsub_5 160 rfl rfl
theorem m_co_X12_odds : Cond.code yX12_odds cX12_odds 6 (some .int) ∈ zT := zmem1 zsub_8 65 rfl rfl
theorem m_ml_RL_145 : Cond.methodLink RL 145 yX12_odds ∈ zT := zmem1 zsub_8 62 rfl rfl
theorem m_im_X12_odds : Cond.instanceMethod yX12_odds ∈ zT := zmem1 zsub_8 63 rfl rfl
theorem m_se_X12_odds : Cond.selects RX12 yX12_odds yX12_odds ∈ zT := zmem1 zsub_8 64 rfl rfl
theorem m_co_X11_least : Cond.code yX11_least cX11_least 4 (some .int) ∈ zT := zmem1 zsub_5 166 rfl rfl
theorem m_ml_RL_146 : Cond.methodLink RL 146 yX11_least ∈ zT := zmem1 zsub_5 163 rfl rfl
theorem m_im_X11_least : Cond.instanceMethod yX11_least ∈ zT := zmem1 zsub_5 164 rfl rfl
theorem m_se_X11_least : Cond.selects RX11 yX11_least yX11_least ∈ zT := zmem1 zsub_5 165 rfl rfl
theorem m_co_X12_least : Cond.code yX12_least cX12_least 4 (some .int) ∈ zT := zmem1 zsub_8 69 rfl rfl
theorem m_ml_RL_149 : Cond.methodLink RL 149 yX12_least ∈ zT := zmem1 zsub_8 66 rfl rfl
theorem m_im_X12_least : Cond.instanceMethod yX12_least ∈ zT := zmem1 zsub_8 67 rfl rfl
theorem m_se_X12_least : Cond.selects RX12 yX12_least yX12_least ∈ zT := zmem1 zsub_8 68 rfl rfl
theorem m_co_X11_count : Cond.code yX11_count cX11_count 2 (some .int) ∈ zT := zmem1 zsub_3 176 rfl rfl
theorem m_ml_RL_150 : Cond.methodLink RL 150 yX11_count ∈ zT := zmem1 zsub_3 173 rfl rfl
theorem m_im_X11_count : Cond.instanceMethod yX11_count ∈ zT := zmem1 zsub_3 174 rfl rfl
theorem m_se_X11_count : Cond.selects RX11 yX11_count yX11_count ∈ zT := zmem1 zsub_3 175 rfl rfl
theorem m_co_X12_count : Cond.code yX12_count cX12_count 2 (some .int) ∈ zT := zmem1 zsub_8 86 rfl rfl
theorem m_ml_RL_153 : Cond.methodLink RL 153 yX12_count ∈ zT := zmem1 zsub_8 83 rfl rfl
theorem m_im_X12_count : Cond.instanceMethod yX12_count ∈ zT := zmem1 zsub_8 84 rfl rfl
theorem m_se_X12_count : Cond.selects RX12 yX12_count yX12_count ∈ zT := zmem1 zsub_8 85 rfl rfl
theorem kV_RL_137 {R : Room} {s : State} {args : Array Value} {d mc ms : Nat} (hts : ∀ w ∈ zT, w.before args s = true) (h1 : d + 1 ≤ R.frames) (h2 : 8 + (6 + 11) + 40 * d ≤ R.locals) : CallW R s args RL RX11 137 yX11_after cX11_after 6 (some .int) (zW yX11_after cX11_after 6 (some .int)) (zR d mc ms) mc ms 3 := z_cwV hts m_co_X11_after m_ml_RL_137 m_im_X11_after m_se_X11_after m_ii_RX11 (by decide +kernel) h1 h2
theorem kV_RL_140 {R : Room} {s : State} {args : Array Value} {d mc ms : Nat} (hts : ∀ w ∈ zT, w.before args s = true) (h1 : d + 1 ≤ R.frames) (h2 : 8 + (4 + 11) + 40 * d ≤ R.locals) : CallW R s args RL RX12 140 yX12_after cX12_after 4 (some .int) (zW yX12_after cX12_after 4 (some .int)) (zR d mc ms) mc ms 3 := z_cwV hts m_co_X12_after m_ml_RL_140 m_im_X12_after m_se_X12_after m_ii_RX12 (by decide +kernel) h1 h2
theorem kV_RL_141 {R : Room} {s : State} {args : Array Value} {d mc ms : Nat} (hts : ∀ w ∈ zT, w.before args s = true) (h1 : d + 1 ≤ R.frames) (h2 : 8 + (8 + 11) + 40 * d ≤ R.locals) : CallW R s args RL RX11 141 yX11_odds cX11_odds 8 (some .int) (zW yX11_odds cX11_odds 8 (some .int)) (zR d mc ms) mc ms 5 := z_cwV hts m_co_X11_odds m_ml_RL_141 m_im_X11_odds m_se_X11_odds m_ii_RX11 (by decide +kernel) h1 h2
theorem kV_RL_145 {R : Room} {s : State} {args : Array Value} {d mc ms : Nat} (hts : ∀ w ∈ zT, w.before args s = true) (h1 : d + 1 ≤ R.frames) (h2 : 8 + (6 + 11) + 40 * d ≤ R.locals) : CallW R s args RL RX12 145 yX12_odds cX12_odds 6 (some .int) (zW yX12_odds cX12_odds 6 (some .int)) (zR d mc ms) mc ms 5 := z_cwV hts m_co_X12_odds m_ml_RL_145 m_im_X12_odds m_se_X12_odds m_ii_RX12 (by decide +kernel) h1 h2
theorem kV_RL_146 {R : Room} {s : State} {args : Array Value} {d mc ms : Nat} (hts : ∀ w ∈ zT, w.before args s = true) (h1 : d + 1 ≤ R.frames) (h2 : 8 + (4 + 11) + 40 * d ≤ R.locals) : CallW R s args RL RX11 146 yX11_least cX11_least 4 (some .int) (zW yX11_least cX11_least 4 (some .int)) (zR d mc ms) mc ms 3 := z_cwV hts m_co_X11_least m_ml_RL_146 m_im_X11_least m_se_X11_least m_ii_RX11 (by decide +kernel) h1 h2
theorem kV_RL_149 {R : Room} {s : State} {args : Array Value} {d mc ms : Nat} (hts : ∀ w ∈ zT, w.before args s = true) (h1 : d + 1 ≤ R.frames) (h2 : 8 + (4 + 11) + 40 * d ≤ R.locals) : CallW R s args RL RX12 149 yX12_least cX12_least 4 (some .int) (zW yX12_least cX12_least 4 (some .int)) (zR d mc ms) mc ms 3 := z_cwV hts m_co_X12_least m_ml_RL_149 m_im_X12_least m_se_X12_least m_ii_RX12 (by decide +kernel) h1 h2
theorem kV_RL_150 {R : Room} {s : State} {args : Array Value} {d mc ms : Nat} (hts : ∀ w ∈ zT, w.before args s = true) (h1 : d + 1 ≤ R.frames) (h2 : 8 + (2 + 11) + 40 * d ≤ R.locals) : CallW R s args RL RX11 150 yX11_count cX11_count 2 (some .int) (zW yX11_count cX11_count 2 (some .int)) (zR d mc ms) mc ms 1 := z_cwV hts m_co_X11_count m_ml_RL_150 m_im_X11_count m_se_X11_count m_ii_RX11 (by decide +kernel) h1 h2
theorem kV_RL_153 {R : Room} {s : State} {args : Array Value} {d mc ms : Nat} (hts : ∀ w ∈ zT, w.before args s = true) (h1 : d + 1 ≤ R.frames) (h2 : 8 + (2 + 11) + 40 * d ≤ R.locals) : CallW R s args RL RX12 153 yX12_count cX12_count 2 (some .int) (zW yX12_count cX12_count 2 (some .int)) (zR d mc ms) mc ms 1 := z_cwV hts m_co_X12_count m_ml_RL_153 m_im_X12_count m_se_X12_count m_ii_RX12 (by decide +kernel) h1 h2
theorem dL_law_1517 : decode cL_law 1517 = .ok (.aload_n 1, 1) := zo_43 (zT0 (a := 1000) (p := 517) zLt0_e (by decide +kernel))
theorem dL_law_1518 : decode cL_law 1518 = .ok (.aload_n 0, 1) := zo_42 (zT0 (a := 1000) (p := 518) zLt0_e (by decide +kernel))
theorem dL_law_1519 : decode cL_law 1519 = .ok (.iload_n 3, 1) := zo_29 (zT0 (a := 1000) (p := 519) zLt0_e (by decide +kernel))
theorem dL_law_1520 : decode cL_law 1520 = .ok (.iconst 1, 1) := zo_4 (zT0 (a := 1000) (p := 520) zLt0_e (by decide +kernel))
theorem dL_law_1521 : decode cL_law 1521 = .ok (.iadd, 1) := zo_96 (zT0 (a := 1000) (p := 521) zLt0_e (by decide +kernel))
theorem dL_law_1522 : decode cL_law 1522 = .ok (.iaload, 1) := zo_46 (zT0 (a := 1000) (p := 522) zLt0_e (by decide +kernel))
theorem dL_law_1523 : decode cL_law 1523 = .ok (.aload_n 0, 1) := zo_42 (zT0 (a := 1000) (p := 523) zLt0_e (by decide +kernel))
theorem dL_law_1524 : decode cL_law 1524 = .ok (.iload_n 3, 1) := zo_29 (zT0 (a := 1000) (p := 524) zLt0_e (by decide +kernel))
theorem dL_law_1525 : decode cL_law 1525 = .ok (.iconst 2, 1) := zo_5 (zT0 (a := 1000) (p := 525) zLt0_e (by decide +kernel))
theorem dL_law_1526 : decode cL_law 1526 = .ok (.iadd, 1) := zo_96 (zT0 (a := 1000) (p := 526) zLt0_e (by decide +kernel))
theorem dL_law_1527 : decode cL_law 1527 = .ok (.iaload, 1) := zo_46 (zT0 (a := 1000) (p := 527) zLt0_e (by decide +kernel))
theorem dL_law_1528 : decode cL_law 1528 = .ok (.aload_n 0, 1) := zo_42 (zT0 (a := 1000) (p := 528) zLt0_e (by decide +kernel))
theorem dL_law_1529 : decode cL_law 1529 = .ok (.iload_n 3, 1) := zo_29 (zT0 (a := 1000) (p := 529) zLt0_e (by decide +kernel))
theorem dL_law_1530 : decode cL_law 1530 = .ok (.iconst 3, 1) := zo_6 (zT0 (a := 1000) (p := 530) zLt0_e (by decide +kernel))
theorem dL_law_1531 : decode cL_law 1531 = .ok (.iadd, 1) := zo_96 (zT0 (a := 1000) (p := 531) zLt0_e (by decide +kernel))
theorem dL_law_1532 : decode cL_law 1532 = .ok (.iaload, 1) := zo_46 (zT0 (a := 1000) (p := 532) zLt0_e (by decide +kernel))
theorem dL_law_1533 : decode cL_law 1533 = .ok (.invokevirtual 137, 3) := zo_182 (zT2 (a := 1000) (p := 533) zLt0_e (by decide +kernel))
theorem dL_law_1536 : decode cL_law 1536 = .ok (.pop, 1) := zo_87 (zT0 (a := 1000) (p := 536) zLt0_e (by decide +kernel))
theorem dL_law_1537 : decode cL_law 1537 = .ok (.aload_n 2, 1) := zo_44 (zT0 (a := 1000) (p := 537) zLt0_e (by decide +kernel))
theorem dL_law_1538 : decode cL_law 1538 = .ok (.aload_n 0, 1) := zo_42 (zT0 (a := 1000) (p := 538) zLt0_e (by decide +kernel))
theorem dL_law_1539 : decode cL_law 1539 = .ok (.iload_n 3, 1) := zo_29 (zT0 (a := 1000) (p := 539) zLt0_e (by decide +kernel))
theorem dL_law_1540 : decode cL_law 1540 = .ok (.iconst 1, 1) := zo_4 (zT0 (a := 1000) (p := 540) zLt0_e (by decide +kernel))
theorem dL_law_1541 : decode cL_law 1541 = .ok (.iadd, 1) := zo_96 (zT0 (a := 1000) (p := 541) zLt0_e (by decide +kernel))
theorem dL_law_1542 : decode cL_law 1542 = .ok (.iaload, 1) := zo_46 (zT0 (a := 1000) (p := 542) zLt0_e (by decide +kernel))
theorem dL_law_1543 : decode cL_law 1543 = .ok (.aload_n 0, 1) := zo_42 (zT0 (a := 1000) (p := 543) zLt0_e (by decide +kernel))
theorem dL_law_1544 : decode cL_law 1544 = .ok (.iload_n 3, 1) := zo_29 (zT0 (a := 1000) (p := 544) zLt0_e (by decide +kernel))
theorem dL_law_1545 : decode cL_law 1545 = .ok (.iconst 2, 1) := zo_5 (zT0 (a := 1000) (p := 545) zLt0_e (by decide +kernel))
theorem dL_law_1546 : decode cL_law 1546 = .ok (.iadd, 1) := zo_96 (zT0 (a := 1000) (p := 546) zLt0_e (by decide +kernel))
theorem dL_law_1547 : decode cL_law 1547 = .ok (.iaload, 1) := zo_46 (zT0 (a := 1000) (p := 547) zLt0_e (by decide +kernel))
theorem dL_law_1548 : decode cL_law 1548 = .ok (.aload_n 0, 1) := zo_42 (zT0 (a := 1000) (p := 548) zLt0_e (by decide +kernel))
theorem dL_law_1549 : decode cL_law 1549 = .ok (.iload_n 3, 1) := zo_29 (zT0 (a := 1000) (p := 549) zLt0_e (by decide +kernel))
theorem dL_law_1550 : decode cL_law 1550 = .ok (.iconst 3, 1) := zo_6 (zT0 (a := 1000) (p := 550) zLt0_e (by decide +kernel))
theorem dL_law_1551 : decode cL_law 1551 = .ok (.iadd, 1) := zo_96 (zT0 (a := 1000) (p := 551) zLt0_e (by decide +kernel))
theorem dL_law_1552 : decode cL_law 1552 = .ok (.iaload, 1) := zo_46 (zT0 (a := 1000) (p := 552) zLt0_e (by decide +kernel))
theorem dL_law_1553 : decode cL_law 1553 = .ok (.invokevirtual 140, 3) := zo_182 (zT2 (a := 1000) (p := 553) zLt0_e (by decide +kernel))
theorem dL_law_1556 : decode cL_law 1556 = .ok (.pop, 1) := zo_87 (zT0 (a := 1000) (p := 556) zLt0_e (by decide +kernel))
theorem dL_law_1557 : decode cL_law 1557 = .ok (.goto 210, 3) := zo_167 (zTs2 (a := 1000) (p := 557) zLt0_e (by decide +kernel))
theorem dL_law_1560 : decode cL_law 1560 = .ok (.aload_n 1, 1) := zo_43 (zT0 (a := 1000) (p := 560) zLt0_e (by decide +kernel))
theorem dL_law_1561 : decode cL_law 1561 = .ok (.aload_n 0, 1) := zo_42 (zT0 (a := 1000) (p := 561) zLt0_e (by decide +kernel))
theorem dL_law_1562 : decode cL_law 1562 = .ok (.iload_n 3, 1) := zo_29 (zT0 (a := 1000) (p := 562) zLt0_e (by decide +kernel))
theorem dL_law_1563 : decode cL_law 1563 = .ok (.iconst 1, 1) := zo_4 (zT0 (a := 1000) (p := 563) zLt0_e (by decide +kernel))
theorem dL_law_1564 : decode cL_law 1564 = .ok (.iadd, 1) := zo_96 (zT0 (a := 1000) (p := 564) zLt0_e (by decide +kernel))
theorem dL_law_1565 : decode cL_law 1565 = .ok (.iaload, 1) := zo_46 (zT0 (a := 1000) (p := 565) zLt0_e (by decide +kernel))
theorem dL_law_1566 : decode cL_law 1566 = .ok (.aload_n 0, 1) := zo_42 (zT0 (a := 1000) (p := 566) zLt0_e (by decide +kernel))
theorem dL_law_1567 : decode cL_law 1567 = .ok (.iload_n 3, 1) := zo_29 (zT0 (a := 1000) (p := 567) zLt0_e (by decide +kernel))
theorem dL_law_1568 : decode cL_law 1568 = .ok (.iconst 2, 1) := zo_5 (zT0 (a := 1000) (p := 568) zLt0_e (by decide +kernel))
theorem dL_law_1569 : decode cL_law 1569 = .ok (.iadd, 1) := zo_96 (zT0 (a := 1000) (p := 569) zLt0_e (by decide +kernel))
theorem dL_law_1570 : decode cL_law 1570 = .ok (.iaload, 1) := zo_46 (zT0 (a := 1000) (p := 570) zLt0_e (by decide +kernel))
theorem dL_law_1571 : decode cL_law 1571 = .ok (.aload_n 0, 1) := zo_42 (zT0 (a := 1000) (p := 571) zLt0_e (by decide +kernel))
theorem dL_law_1572 : decode cL_law 1572 = .ok (.iload_n 3, 1) := zo_29 (zT0 (a := 1000) (p := 572) zLt0_e (by decide +kernel))
theorem dL_law_1573 : decode cL_law 1573 = .ok (.iconst 3, 1) := zo_6 (zT0 (a := 1000) (p := 573) zLt0_e (by decide +kernel))
theorem dL_law_1574 : decode cL_law 1574 = .ok (.iadd, 1) := zo_96 (zT0 (a := 1000) (p := 574) zLt0_e (by decide +kernel))
theorem dL_law_1575 : decode cL_law 1575 = .ok (.iaload, 1) := zo_46 (zT0 (a := 1000) (p := 575) zLt0_e (by decide +kernel))
theorem dL_law_1576 : decode cL_law 1576 = .ok (.aload_n 0, 1) := zo_42 (zT0 (a := 1000) (p := 576) zLt0_e (by decide +kernel))
theorem dL_law_1577 : decode cL_law 1577 = .ok (.iload_n 3, 1) := zo_29 (zT0 (a := 1000) (p := 577) zLt0_e (by decide +kernel))
theorem dL_law_1578 : decode cL_law 1578 = .ok (.iconst 4, 1) := zo_7 (zT0 (a := 1000) (p := 578) zLt0_e (by decide +kernel))
theorem dL_law_1579 : decode cL_law 1579 = .ok (.iadd, 1) := zo_96 (zT0 (a := 1000) (p := 579) zLt0_e (by decide +kernel))
theorem dL_law_1580 : decode cL_law 1580 = .ok (.iaload, 1) := zo_46 (zT0 (a := 1000) (p := 580) zLt0_e (by decide +kernel))
theorem dL_law_1581 : decode cL_law 1581 = .ok (.aload_n 0, 1) := zo_42 (zT0 (a := 1000) (p := 581) zLt0_e (by decide +kernel))
theorem dL_law_1582 : decode cL_law 1582 = .ok (.iload_n 3, 1) := zo_29 (zT0 (a := 1000) (p := 582) zLt0_e (by decide +kernel))
theorem dL_law_1583 : decode cL_law 1583 = .ok (.iconst 5, 1) := zo_8 (zT0 (a := 1000) (p := 583) zLt0_e (by decide +kernel))
theorem dL_law_1584 : decode cL_law 1584 = .ok (.iadd, 1) := zo_96 (zT0 (a := 1000) (p := 584) zLt0_e (by decide +kernel))
theorem dL_law_1585 : decode cL_law 1585 = .ok (.iaload, 1) := zo_46 (zT0 (a := 1000) (p := 585) zLt0_e (by decide +kernel))
theorem dL_law_1586 : decode cL_law 1586 = .ok (.ifCond .eq 7, 3) := zo_153 (zTs2 (a := 1000) (p := 586) zLt0_e (by decide +kernel))
theorem dL_law_1589 : decode cL_law 1589 = .ok (.iconst 1, 1) := zo_4 (zT0 (a := 1000) (p := 589) zLt0_e (by decide +kernel))
theorem dL_law_1590 : decode cL_law 1590 = .ok (.goto 4, 3) := zo_167 (zTs2 (a := 1000) (p := 590) zLt0_e (by decide +kernel))
theorem dL_law_1593 : decode cL_law 1593 = .ok (.iconst 0, 1) := zo_3 (zT0 (a := 1000) (p := 593) zLt0_e (by decide +kernel))
theorem dL_law_1594 : decode cL_law 1594 = .ok (.invokevirtual 141, 3) := zo_182 (zT2 (a := 1000) (p := 594) zLt0_e (by decide +kernel))
theorem dL_law_1597 : decode cL_law 1597 = .ok (.pop, 1) := zo_87 (zT0 (a := 1000) (p := 597) zLt0_e (by decide +kernel))
theorem dL_law_1598 : decode cL_law 1598 = .ok (.aload_n 2, 1) := zo_44 (zT0 (a := 1000) (p := 598) zLt0_e (by decide +kernel))
theorem dL_law_1599 : decode cL_law 1599 = .ok (.aload_n 0, 1) := zo_42 (zT0 (a := 1000) (p := 599) zLt0_e (by decide +kernel))
theorem dL_law_1600 : decode cL_law 1600 = .ok (.iload_n 3, 1) := zo_29 (zT0 (a := 1000) (p := 600) zLt0_e (by decide +kernel))
theorem dL_law_1601 : decode cL_law 1601 = .ok (.iconst 1, 1) := zo_4 (zT0 (a := 1000) (p := 601) zLt0_e (by decide +kernel))
theorem dL_law_1602 : decode cL_law 1602 = .ok (.iadd, 1) := zo_96 (zT0 (a := 1000) (p := 602) zLt0_e (by decide +kernel))
theorem dL_law_1603 : decode cL_law 1603 = .ok (.iaload, 1) := zo_46 (zT0 (a := 1000) (p := 603) zLt0_e (by decide +kernel))
theorem dL_law_1604 : decode cL_law 1604 = .ok (.aload_n 0, 1) := zo_42 (zT0 (a := 1000) (p := 604) zLt0_e (by decide +kernel))
theorem dL_law_1605 : decode cL_law 1605 = .ok (.iload_n 3, 1) := zo_29 (zT0 (a := 1000) (p := 605) zLt0_e (by decide +kernel))
theorem dL_law_1606 : decode cL_law 1606 = .ok (.iconst 2, 1) := zo_5 (zT0 (a := 1000) (p := 606) zLt0_e (by decide +kernel))
theorem dL_law_1607 : decode cL_law 1607 = .ok (.iadd, 1) := zo_96 (zT0 (a := 1000) (p := 607) zLt0_e (by decide +kernel))
theorem dL_law_1608 : decode cL_law 1608 = .ok (.iaload, 1) := zo_46 (zT0 (a := 1000) (p := 608) zLt0_e (by decide +kernel))
theorem dL_law_1609 : decode cL_law 1609 = .ok (.aload_n 0, 1) := zo_42 (zT0 (a := 1000) (p := 609) zLt0_e (by decide +kernel))
theorem dL_law_1610 : decode cL_law 1610 = .ok (.iload_n 3, 1) := zo_29 (zT0 (a := 1000) (p := 610) zLt0_e (by decide +kernel))
theorem dL_law_1611 : decode cL_law 1611 = .ok (.iconst 3, 1) := zo_6 (zT0 (a := 1000) (p := 611) zLt0_e (by decide +kernel))
theorem dL_law_1612 : decode cL_law 1612 = .ok (.iadd, 1) := zo_96 (zT0 (a := 1000) (p := 612) zLt0_e (by decide +kernel))
theorem dL_law_1613 : decode cL_law 1613 = .ok (.iaload, 1) := zo_46 (zT0 (a := 1000) (p := 613) zLt0_e (by decide +kernel))
theorem dL_law_1614 : decode cL_law 1614 = .ok (.aload_n 0, 1) := zo_42 (zT0 (a := 1000) (p := 614) zLt0_e (by decide +kernel))
theorem dL_law_1615 : decode cL_law 1615 = .ok (.iload_n 3, 1) := zo_29 (zT0 (a := 1000) (p := 615) zLt0_e (by decide +kernel))
theorem dL_law_1616 : decode cL_law 1616 = .ok (.iconst 4, 1) := zo_7 (zT0 (a := 1000) (p := 616) zLt0_e (by decide +kernel))
theorem dL_law_1617 : decode cL_law 1617 = .ok (.iadd, 1) := zo_96 (zT0 (a := 1000) (p := 617) zLt0_e (by decide +kernel))
theorem dL_law_1618 : decode cL_law 1618 = .ok (.iaload, 1) := zo_46 (zT0 (a := 1000) (p := 618) zLt0_e (by decide +kernel))
theorem dL_law_1619 : decode cL_law 1619 = .ok (.aload_n 0, 1) := zo_42 (zT0 (a := 1000) (p := 619) zLt0_e (by decide +kernel))
theorem dL_law_1620 : decode cL_law 1620 = .ok (.iload_n 3, 1) := zo_29 (zT0 (a := 1000) (p := 620) zLt0_e (by decide +kernel))
theorem dL_law_1621 : decode cL_law 1621 = .ok (.iconst 5, 1) := zo_8 (zT0 (a := 1000) (p := 621) zLt0_e (by decide +kernel))
theorem dL_law_1622 : decode cL_law 1622 = .ok (.iadd, 1) := zo_96 (zT0 (a := 1000) (p := 622) zLt0_e (by decide +kernel))
theorem dL_law_1623 : decode cL_law 1623 = .ok (.iaload, 1) := zo_46 (zT0 (a := 1000) (p := 623) zLt0_e (by decide +kernel))
theorem dL_law_1624 : decode cL_law 1624 = .ok (.ifCond .eq 7, 3) := zo_153 (zTs2 (a := 1000) (p := 624) zLt0_e (by decide +kernel))
theorem dL_law_1627 : decode cL_law 1627 = .ok (.iconst 1, 1) := zo_4 (zT0 (a := 1000) (p := 627) zLt0_e (by decide +kernel))
theorem dL_law_1628 : decode cL_law 1628 = .ok (.goto 4, 3) := zo_167 (zTs2 (a := 1000) (p := 628) zLt0_e (by decide +kernel))
theorem dL_law_1631 : decode cL_law 1631 = .ok (.iconst 0, 1) := zo_3 (zT0 (a := 1000) (p := 631) zLt0_e (by decide +kernel))
theorem dL_law_1632 : decode cL_law 1632 = .ok (.invokevirtual 145, 3) := zo_182 (zT2 (a := 1000) (p := 632) zLt0_e (by decide +kernel))
theorem dL_law_1635 : decode cL_law 1635 = .ok (.pop, 1) := zo_87 (zT0 (a := 1000) (p := 635) zLt0_e (by decide +kernel))
theorem dL_law_1636 : decode cL_law 1636 = .ok (.goto 131, 3) := zo_167 (zTs2 (a := 1000) (p := 636) zLt0_e (by decide +kernel))
theorem dL_law_1639 : decode cL_law 1639 = .ok (.aload_n 1, 1) := zo_43 (zT0 (a := 1000) (p := 639) zLt0_e (by decide +kernel))
theorem dL_law_1640 : decode cL_law 1640 = .ok (.aload_n 0, 1) := zo_42 (zT0 (a := 1000) (p := 640) zLt0_e (by decide +kernel))
theorem dL_law_1641 : decode cL_law 1641 = .ok (.iload_n 3, 1) := zo_29 (zT0 (a := 1000) (p := 641) zLt0_e (by decide +kernel))
theorem dL_law_1642 : decode cL_law 1642 = .ok (.iconst 1, 1) := zo_4 (zT0 (a := 1000) (p := 642) zLt0_e (by decide +kernel))
theorem dL_law_1643 : decode cL_law 1643 = .ok (.iadd, 1) := zo_96 (zT0 (a := 1000) (p := 643) zLt0_e (by decide +kernel))
theorem dL_law_1644 : decode cL_law 1644 = .ok (.iaload, 1) := zo_46 (zT0 (a := 1000) (p := 644) zLt0_e (by decide +kernel))
theorem dL_law_1645 : decode cL_law 1645 = .ok (.aload_n 0, 1) := zo_42 (zT0 (a := 1000) (p := 645) zLt0_e (by decide +kernel))
theorem dL_law_1646 : decode cL_law 1646 = .ok (.iload_n 3, 1) := zo_29 (zT0 (a := 1000) (p := 646) zLt0_e (by decide +kernel))
theorem dL_law_1647 : decode cL_law 1647 = .ok (.iconst 2, 1) := zo_5 (zT0 (a := 1000) (p := 647) zLt0_e (by decide +kernel))
theorem dL_law_1648 : decode cL_law 1648 = .ok (.iadd, 1) := zo_96 (zT0 (a := 1000) (p := 648) zLt0_e (by decide +kernel))
theorem dL_law_1649 : decode cL_law 1649 = .ok (.iaload, 1) := zo_46 (zT0 (a := 1000) (p := 649) zLt0_e (by decide +kernel))
theorem dL_law_1650 : decode cL_law 1650 = .ok (.aload_n 0, 1) := zo_42 (zT0 (a := 1000) (p := 650) zLt0_e (by decide +kernel))
theorem dL_law_1651 : decode cL_law 1651 = .ok (.iload_n 3, 1) := zo_29 (zT0 (a := 1000) (p := 651) zLt0_e (by decide +kernel))
theorem dL_law_1652 : decode cL_law 1652 = .ok (.iconst 3, 1) := zo_6 (zT0 (a := 1000) (p := 652) zLt0_e (by decide +kernel))
theorem dL_law_1653 : decode cL_law 1653 = .ok (.iadd, 1) := zo_96 (zT0 (a := 1000) (p := 653) zLt0_e (by decide +kernel))
theorem dL_law_1654 : decode cL_law 1654 = .ok (.iaload, 1) := zo_46 (zT0 (a := 1000) (p := 654) zLt0_e (by decide +kernel))
theorem dL_law_1655 : decode cL_law 1655 = .ok (.ifCond .eq 7, 3) := zo_153 (zTs2 (a := 1000) (p := 655) zLt0_e (by decide +kernel))
theorem dL_law_1658 : decode cL_law 1658 = .ok (.iconst 1, 1) := zo_4 (zT0 (a := 1000) (p := 658) zLt0_e (by decide +kernel))
theorem dL_law_1659 : decode cL_law 1659 = .ok (.goto 4, 3) := zo_167 (zTs2 (a := 1000) (p := 659) zLt0_e (by decide +kernel))
theorem dL_law_1662 : decode cL_law 1662 = .ok (.iconst 0, 1) := zo_3 (zT0 (a := 1000) (p := 662) zLt0_e (by decide +kernel))
theorem dL_law_1663 : decode cL_law 1663 = .ok (.invokevirtual 146, 3) := zo_182 (zT2 (a := 1000) (p := 663) zLt0_e (by decide +kernel))
theorem dL_law_1666 : decode cL_law 1666 = .ok (.pop, 1) := zo_87 (zT0 (a := 1000) (p := 666) zLt0_e (by decide +kernel))
theorem dL_law_1667 : decode cL_law 1667 = .ok (.aload_n 2, 1) := zo_44 (zT0 (a := 1000) (p := 667) zLt0_e (by decide +kernel))
theorem dL_law_1668 : decode cL_law 1668 = .ok (.aload_n 0, 1) := zo_42 (zT0 (a := 1000) (p := 668) zLt0_e (by decide +kernel))
theorem dL_law_1669 : decode cL_law 1669 = .ok (.iload_n 3, 1) := zo_29 (zT0 (a := 1000) (p := 669) zLt0_e (by decide +kernel))
theorem dL_law_1670 : decode cL_law 1670 = .ok (.iconst 1, 1) := zo_4 (zT0 (a := 1000) (p := 670) zLt0_e (by decide +kernel))
theorem dL_law_1671 : decode cL_law 1671 = .ok (.iadd, 1) := zo_96 (zT0 (a := 1000) (p := 671) zLt0_e (by decide +kernel))
theorem dL_law_1672 : decode cL_law 1672 = .ok (.iaload, 1) := zo_46 (zT0 (a := 1000) (p := 672) zLt0_e (by decide +kernel))
theorem dL_law_1673 : decode cL_law 1673 = .ok (.aload_n 0, 1) := zo_42 (zT0 (a := 1000) (p := 673) zLt0_e (by decide +kernel))
theorem dL_law_1674 : decode cL_law 1674 = .ok (.iload_n 3, 1) := zo_29 (zT0 (a := 1000) (p := 674) zLt0_e (by decide +kernel))
theorem dL_law_1675 : decode cL_law 1675 = .ok (.iconst 2, 1) := zo_5 (zT0 (a := 1000) (p := 675) zLt0_e (by decide +kernel))
theorem dL_law_1676 : decode cL_law 1676 = .ok (.iadd, 1) := zo_96 (zT0 (a := 1000) (p := 676) zLt0_e (by decide +kernel))
theorem dL_law_1677 : decode cL_law 1677 = .ok (.iaload, 1) := zo_46 (zT0 (a := 1000) (p := 677) zLt0_e (by decide +kernel))
theorem dL_law_1678 : decode cL_law 1678 = .ok (.aload_n 0, 1) := zo_42 (zT0 (a := 1000) (p := 678) zLt0_e (by decide +kernel))
theorem dL_law_1679 : decode cL_law 1679 = .ok (.iload_n 3, 1) := zo_29 (zT0 (a := 1000) (p := 679) zLt0_e (by decide +kernel))
theorem dL_law_1680 : decode cL_law 1680 = .ok (.iconst 3, 1) := zo_6 (zT0 (a := 1000) (p := 680) zLt0_e (by decide +kernel))
theorem dL_law_1681 : decode cL_law 1681 = .ok (.iadd, 1) := zo_96 (zT0 (a := 1000) (p := 681) zLt0_e (by decide +kernel))
theorem dL_law_1682 : decode cL_law 1682 = .ok (.iaload, 1) := zo_46 (zT0 (a := 1000) (p := 682) zLt0_e (by decide +kernel))
theorem dL_law_1683 : decode cL_law 1683 = .ok (.ifCond .eq 7, 3) := zo_153 (zTs2 (a := 1000) (p := 683) zLt0_e (by decide +kernel))
theorem dL_law_1686 : decode cL_law 1686 = .ok (.iconst 1, 1) := zo_4 (zT0 (a := 1000) (p := 686) zLt0_e (by decide +kernel))
theorem dL_law_1687 : decode cL_law 1687 = .ok (.goto 4, 3) := zo_167 (zTs2 (a := 1000) (p := 687) zLt0_e (by decide +kernel))
theorem dL_law_1690 : decode cL_law 1690 = .ok (.iconst 0, 1) := zo_3 (zT0 (a := 1000) (p := 690) zLt0_e (by decide +kernel))
theorem dL_law_1691 : decode cL_law 1691 = .ok (.invokevirtual 149, 3) := zo_182 (zT2 (a := 1000) (p := 691) zLt0_e (by decide +kernel))
theorem dL_law_1694 : decode cL_law 1694 = .ok (.pop, 1) := zo_87 (zT0 (a := 1000) (p := 694) zLt0_e (by decide +kernel))
theorem dL_law_1695 : decode cL_law 1695 = .ok (.goto 72, 3) := zo_167 (zTs2 (a := 1000) (p := 695) zLt0_e (by decide +kernel))
theorem dL_law_1698 : decode cL_law 1698 = .ok (.aload_n 1, 1) := zo_43 (zT0 (a := 1000) (p := 698) zLt0_e (by decide +kernel))
theorem dL_law_1699 : decode cL_law 1699 = .ok (.aload_n 0, 1) := zo_42 (zT0 (a := 1000) (p := 699) zLt0_e (by decide +kernel))
theorem dL_law_1700 : decode cL_law 1700 = .ok (.iload_n 3, 1) := zo_29 (zT0 (a := 1000) (p := 700) zLt0_e (by decide +kernel))
theorem dL_law_1701 : decode cL_law 1701 = .ok (.iconst 1, 1) := zo_4 (zT0 (a := 1000) (p := 701) zLt0_e (by decide +kernel))
theorem dL_law_1702 : decode cL_law 1702 = .ok (.iadd, 1) := zo_96 (zT0 (a := 1000) (p := 702) zLt0_e (by decide +kernel))
theorem dL_law_1703 : decode cL_law 1703 = .ok (.iaload, 1) := zo_46 (zT0 (a := 1000) (p := 703) zLt0_e (by decide +kernel))
theorem dL_law_1704 : decode cL_law 1704 = .ok (.invokevirtual 150, 3) := zo_182 (zT2 (a := 1000) (p := 704) zLt0_e (by decide +kernel))
theorem dL_law_1707 : decode cL_law 1707 = .ok (.pop, 1) := zo_87 (zT0 (a := 1000) (p := 707) zLt0_e (by decide +kernel))
theorem dL_law_1708 : decode cL_law 1708 = .ok (.aload_n 2, 1) := zo_44 (zT0 (a := 1000) (p := 708) zLt0_e (by decide +kernel))
theorem dL_law_1709 : decode cL_law 1709 = .ok (.aload_n 0, 1) := zo_42 (zT0 (a := 1000) (p := 709) zLt0_e (by decide +kernel))
theorem dL_law_1710 : decode cL_law 1710 = .ok (.iload_n 3, 1) := zo_29 (zT0 (a := 1000) (p := 710) zLt0_e (by decide +kernel))
theorem dL_law_1711 : decode cL_law 1711 = .ok (.iconst 1, 1) := zo_4 (zT0 (a := 1000) (p := 711) zLt0_e (by decide +kernel))
theorem dL_law_1712 : decode cL_law 1712 = .ok (.iadd, 1) := zo_96 (zT0 (a := 1000) (p := 712) zLt0_e (by decide +kernel))
theorem dL_law_1713 : decode cL_law 1713 = .ok (.iaload, 1) := zo_46 (zT0 (a := 1000) (p := 713) zLt0_e (by decide +kernel))
theorem dL_law_1714 : decode cL_law 1714 = .ok (.invokevirtual 153, 3) := zo_182 (zT2 (a := 1000) (p := 714) zLt0_e (by decide +kernel))
theorem dL_law_1717 : decode cL_law 1717 = .ok (.pop, 1) := zo_87 (zT0 (a := 1000) (p := 717) zLt0_e (by decide +kernel))
theorem dL_law_1718 : decode cL_law 1718 = .ok (.goto 49, 3) := zo_167 (zTs2 (a := 1000) (p := 718) zLt0_e (by decide +kernel))

