theorem dL_law_1518 : decode cL_law 1518 = .ok (.aload_n 1, 1) := by decide +kernel
theorem dL_law_1519 : decode cL_law 1519 = .ok (.aload_n 0, 1) := by decide +kernel
theorem dL_law_1520 : decode cL_law 1520 = .ok (.iload_n 3, 1) := by decide +kernel
theorem dL_law_1521 : decode cL_law 1521 = .ok (.iconst 1, 1) := by decide +kernel
theorem dL_law_1522 : decode cL_law 1522 = .ok (.iadd, 1) := by decide +kernel
theorem dL_law_1523 : decode cL_law 1523 = .ok (.iaload, 1) := by decide +kernel
theorem dL_law_1524 : decode cL_law 1524 = .ok (.aload_n 0, 1) := by decide +kernel
theorem dL_law_1525 : decode cL_law 1525 = .ok (.iload_n 3, 1) := by decide +kernel
theorem dL_law_1526 : decode cL_law 1526 = .ok (.iconst 2, 1) := by decide +kernel
theorem dL_law_1527 : decode cL_law 1527 = .ok (.iadd, 1) := by decide +kernel
theorem dL_law_1528 : decode cL_law 1528 = .ok (.iaload, 1) := by decide +kernel
theorem dL_law_1529 : decode cL_law 1529 = .ok (.invokevirtual 168, 3) := by decide +kernel
theorem dL_law_1532 : decode cL_law 1532 = .ok (.aload_n 2, 1) := by decide +kernel
theorem dL_law_1533 : decode cL_law 1533 = .ok (.aload_n 0, 1) := by decide +kernel
theorem dL_law_1534 : decode cL_law 1534 = .ok (.iload_n 3, 1) := by decide +kernel
theorem dL_law_1535 : decode cL_law 1535 = .ok (.iconst 1, 1) := by decide +kernel
theorem dL_law_1536 : decode cL_law 1536 = .ok (.iadd, 1) := by decide +kernel
theorem dL_law_1537 : decode cL_law 1537 = .ok (.iaload, 1) := by decide +kernel
theorem dL_law_1538 : decode cL_law 1538 = .ok (.aload_n 0, 1) := by decide +kernel
theorem dL_law_1539 : decode cL_law 1539 = .ok (.iload_n 3, 1) := by decide +kernel
theorem dL_law_1540 : decode cL_law 1540 = .ok (.iconst 2, 1) := by decide +kernel
theorem dL_law_1541 : decode cL_law 1541 = .ok (.iadd, 1) := by decide +kernel
theorem dL_law_1542 : decode cL_law 1542 = .ok (.iaload, 1) := by decide +kernel
theorem dL_law_1543 : decode cL_law 1543 = .ok (.invokevirtual 171, 3) := by decide +kernel
theorem dL_law_1546 : decode cL_law 1546 = .ok (.if_icmp .eq 97, 3) := by decide +kernel
theorem dL_law_1549 : decode cL_law 1549 = .ok (.iconst 0, 1) := by decide +kernel
theorem dL_law_1550 : decode cL_law 1550 = .ok (.ireturn, 1) := by decide +kernel
set_option maxRecDepth 20000 in
set_option maxHeartbeats 4000000 in
theorem C_law_37 {nm : String} (K : xK) (L : xL) (k : Int32 → xH → Option (Int32 × xH)) (a0 a1 a2 : Nat) (hk : ∀ (a3 : Int32) (h : xH), Sim K L cL_law RL nm 4 8 (fun q : Int32 × xH => q.2) (xRz cL_law) 1643 [(0, .ref a0), (1, .ref a1), (2, .ref a2), (3, .int a3)] [] h (k a3 h)) (a3 : Int32) (h : xH) : Sim K L cL_law RL nm 4 8 (fun q : Int32 × xH => q.2) (xRz cL_law) 1518 [(0, .ref a0), (1, .ref a1), (2, .ref a2), (3, .int a3)] [] h (f_law_c37 k a0 a1 a2 a3 h) := by
  unfold f_law_c37
  refine S_aload_n (pc := 1518) 1 rfl dL_law_1518 rfl ?_
  refine S_aload_n (pc := 1519) 0 rfl dL_law_1519 rfl ?_
  refine S_iload_n (pc := 1520) 3 rfl dL_law_1520 rfl ?_
  refine S_iconst (pc := 1521) dL_law_1521 ic_1 ?_
  refine S_iadd (pc := 1522) dL_law_1522 ?_
  refine S_aI (pc := 1523) dL_law_1523 (fun v1 => ?_)
  refine S_aload_n (pc := 1524) 0 rfl dL_law_1524 rfl ?_
  refine S_iload_n (pc := 1525) 3 rfl dL_law_1525 rfl ?_
  refine S_iconst (pc := 1526) dL_law_1526 ic_2 ?_
  refine S_iadd (pc := 1527) dL_law_1527 ?_
  refine S_aI (pc := 1528) dL_law_1528 (fun v2 => ?_)
  refine S_call_i (pc := 1529) (rest := []) (fun q hq => (x_if hq).elim (fun z => R_V (av := [.int v1, .int v2]) (q := (RX11, TX11, 12)) (M_X11_as _ a1 v1 v2 h z.2) z.1 rfl wd_713 wd_710 wd_711 wd_44 wd_712 ⟨rfl, hd_X11_as⟩ ⟨Nat.le_of_ble_eq_true rfl, Nat.le_of_ble_eq_true rfl⟩ rfl (Nat.le_of_ble_eq_true rfl) dL_law_1529) (fun hq => (by cases hq))) (fun _ h => absurd h List.not_mem_nil) (fun q3 => ?_)
  refine S_aload_n (pc := 1532) 2 rfl dL_law_1532 rfl ?_
  refine S_aload_n (pc := 1533) 0 rfl dL_law_1533 rfl ?_
  refine S_iload_n (pc := 1534) 3 rfl dL_law_1534 rfl ?_
  refine S_iconst (pc := 1535) dL_law_1535 ic_1 ?_
  refine S_iadd (pc := 1536) dL_law_1536 ?_
  refine S_aI (pc := 1537) dL_law_1537 (fun v4 => ?_)
  refine S_aload_n (pc := 1538) 0 rfl dL_law_1538 rfl ?_
  refine S_iload_n (pc := 1539) 3 rfl dL_law_1539 rfl ?_
  refine S_iconst (pc := 1540) dL_law_1540 ic_2 ?_
  refine S_iadd (pc := 1541) dL_law_1541 ?_
  refine S_aI (pc := 1542) dL_law_1542 (fun v5 => ?_)
  refine S_call_i (pc := 1543) (rest := [.int q3.1]) (fun q hq => (x_if hq).elim (fun z => R_V (av := [.int v4, .int v5]) (q := (RX12, TX12, 28)) (M_X12_as _ a2 v4 v5 q3.2 z.2) z.1 rfl wd_1188 wd_1185 wd_1186 wd_50 wd_1187 ⟨rfl, hd_X12_as⟩ ⟨Nat.le_of_ble_eq_true rfl, Nat.le_of_ble_eq_true rfl⟩ rfl (Nat.le_of_ble_eq_true rfl) dL_law_1543) (fun hq => (by cases hq))) (fun _ h => List.mem_cons_of_mem _ (List.mem_cons_of_mem _ (List.mem_cons_of_mem _ (h)))) (fun q6 => ?_)
  refine S_icmp_eq (pc := 1546) (tgt := 1643) dL_law_1546 (by decide) ?_ ?_
  · refine S_sub [0, 1, 2, 3] rfl ?_
    exact hk a3 q6.2
  · refine S_iconst (pc := 1549) dL_law_1549 ic_0 ?_
    exact Sim.fin ⟨dL_law_1550, rfl, rfl, x_nar (Or.inl rfl)⟩ rfl
theorem dL_law_1551 : decode cL_law 1551 = .ok (.aload_n 1, 1) := by decide +kernel
theorem dL_law_1552 : decode cL_law 1552 = .ok (.aload_n 0, 1) := by decide +kernel
theorem dL_law_1553 : decode cL_law 1553 = .ok (.iload_n 3, 1) := by decide +kernel
theorem dL_law_1554 : decode cL_law 1554 = .ok (.iconst 1, 1) := by decide +kernel
theorem dL_law_1555 : decode cL_law 1555 = .ok (.iadd, 1) := by decide +kernel
theorem dL_law_1556 : decode cL_law 1556 = .ok (.iaload, 1) := by decide +kernel
theorem dL_law_1557 : decode cL_law 1557 = .ok (.aload_n 0, 1) := by decide +kernel
theorem dL_law_1558 : decode cL_law 1558 = .ok (.iload_n 3, 1) := by decide +kernel
theorem dL_law_1559 : decode cL_law 1559 = .ok (.iconst 2, 1) := by decide +kernel
theorem dL_law_1560 : decode cL_law 1560 = .ok (.iadd, 1) := by decide +kernel
theorem dL_law_1561 : decode cL_law 1561 = .ok (.iaload, 1) := by decide +kernel
theorem dL_law_1562 : decode cL_law 1562 = .ok (.invokevirtual 172, 3) := by decide +kernel
theorem dL_law_1565 : decode cL_law 1565 = .ok (.aload_n 2, 1) := by decide +kernel
theorem dL_law_1566 : decode cL_law 1566 = .ok (.aload_n 0, 1) := by decide +kernel
theorem dL_law_1567 : decode cL_law 1567 = .ok (.iload_n 3, 1) := by decide +kernel
theorem dL_law_1568 : decode cL_law 1568 = .ok (.iconst 1, 1) := by decide +kernel
theorem dL_law_1569 : decode cL_law 1569 = .ok (.iadd, 1) := by decide +kernel
theorem dL_law_1570 : decode cL_law 1570 = .ok (.iaload, 1) := by decide +kernel
theorem dL_law_1571 : decode cL_law 1571 = .ok (.aload_n 0, 1) := by decide +kernel
theorem dL_law_1572 : decode cL_law 1572 = .ok (.iload_n 3, 1) := by decide +kernel
theorem dL_law_1573 : decode cL_law 1573 = .ok (.iconst 2, 1) := by decide +kernel
theorem dL_law_1574 : decode cL_law 1574 = .ok (.iadd, 1) := by decide +kernel
theorem dL_law_1575 : decode cL_law 1575 = .ok (.iaload, 1) := by decide +kernel
theorem dL_law_1576 : decode cL_law 1576 = .ok (.invokevirtual 175, 3) := by decide +kernel
theorem dL_law_1579 : decode cL_law 1579 = .ok (.if_icmp .eq 64, 3) := by decide +kernel
theorem dL_law_1582 : decode cL_law 1582 = .ok (.iconst 0, 1) := by decide +kernel
theorem dL_law_1583 : decode cL_law 1583 = .ok (.ireturn, 1) := by decide +kernel
set_option maxRecDepth 20000 in
set_option maxHeartbeats 4000000 in
theorem C_law_38 {nm : String} (K : xK) (L : xL) (k : Int32 → xH → Option (Int32 × xH)) (a0 a1 a2 : Nat) (hk : ∀ (a3 : Int32) (h : xH), Sim K L cL_law RL nm 4 8 (fun q : Int32 × xH => q.2) (xRz cL_law) 1643 [(0, .ref a0), (1, .ref a1), (2, .ref a2), (3, .int a3)] [] h (k a3 h)) (a3 : Int32) (h : xH) : Sim K L cL_law RL nm 4 8 (fun q : Int32 × xH => q.2) (xRz cL_law) 1551 [(0, .ref a0), (1, .ref a1), (2, .ref a2), (3, .int a3)] [] h (f_law_c38 k a0 a1 a2 a3 h) := by
  unfold f_law_c38
  refine S_aload_n (pc := 1551) 1 rfl dL_law_1551 rfl ?_
  refine S_aload_n (pc := 1552) 0 rfl dL_law_1552 rfl ?_
  refine S_iload_n (pc := 1553) 3 rfl dL_law_1553 rfl ?_
  refine S_iconst (pc := 1554) dL_law_1554 ic_1 ?_
  refine S_iadd (pc := 1555) dL_law_1555 ?_
  refine S_aI (pc := 1556) dL_law_1556 (fun v1 => ?_)
  refine S_aload_n (pc := 1557) 0 rfl dL_law_1557 rfl ?_
  refine S_iload_n (pc := 1558) 3 rfl dL_law_1558 rfl ?_
  refine S_iconst (pc := 1559) dL_law_1559 ic_2 ?_
  refine S_iadd (pc := 1560) dL_law_1560 ?_
  refine S_aI (pc := 1561) dL_law_1561 (fun v2 => ?_)
  refine S_call_i (pc := 1562) (rest := []) (fun q hq => (x_if hq).elim (fun z => R_V (av := [.int v1, .int v2]) (q := (RX11, TX11, 12)) (M_X11_ask _ a1 v1 v2 h z.2) z.1 rfl wd_720 wd_717 wd_718 wd_44 wd_719 ⟨rfl, hd_X11_ask⟩ ⟨Nat.le_of_ble_eq_true rfl, Nat.le_of_ble_eq_true rfl⟩ rfl (Nat.le_of_ble_eq_true rfl) dL_law_1562) (fun hq => (by cases hq))) (fun _ h => absurd h List.not_mem_nil) (fun q3 => ?_)
  refine S_aload_n (pc := 1565) 2 rfl dL_law_1565 rfl ?_
  refine S_aload_n (pc := 1566) 0 rfl dL_law_1566 rfl ?_
  refine S_iload_n (pc := 1567) 3 rfl dL_law_1567 rfl ?_
  refine S_iconst (pc := 1568) dL_law_1568 ic_1 ?_
  refine S_iadd (pc := 1569) dL_law_1569 ?_
  refine S_aI (pc := 1570) dL_law_1570 (fun v4 => ?_)
  refine S_aload_n (pc := 1571) 0 rfl dL_law_1571 rfl ?_
  refine S_iload_n (pc := 1572) 3 rfl dL_law_1572 rfl ?_
  refine S_iconst (pc := 1573) dL_law_1573 ic_2 ?_
  refine S_iadd (pc := 1574) dL_law_1574 ?_
  refine S_aI (pc := 1575) dL_law_1575 (fun v5 => ?_)
  refine S_call_i (pc := 1576) (rest := [.int q3.1]) (fun q hq => (x_if hq).elim (fun z => R_V (av := [.int v4, .int v5]) (q := (RX12, TX12, 28)) (M_X12_ask _ a2 v4 v5 q3.2 z.2) z.1 rfl wd_1192 wd_1189 wd_1190 wd_50 wd_1191 ⟨rfl, hd_X12_ask⟩ ⟨Nat.le_of_ble_eq_true rfl, Nat.le_of_ble_eq_true rfl⟩ rfl (Nat.le_of_ble_eq_true rfl) dL_law_1576) (fun hq => (by cases hq))) (fun _ h => List.mem_cons_of_mem _ (List.mem_cons_of_mem _ (List.mem_cons_of_mem _ (h)))) (fun q6 => ?_)
  refine S_icmp_eq (pc := 1579) (tgt := 1643) dL_law_1579 (by decide) ?_ ?_
  · refine S_sub [0, 1, 2, 3] rfl ?_
    exact hk a3 q6.2
  · refine S_iconst (pc := 1582) dL_law_1582 ic_0 ?_
    exact Sim.fin ⟨dL_law_1583, rfl, rfl, x_nar (Or.inl rfl)⟩ rfl
theorem dL_law_1584 : decode cL_law 1584 = .ok (.aload_n 1, 1) := by decide +kernel
theorem dL_law_1585 : decode cL_law 1585 = .ok (.aload_n 0, 1) := by decide +kernel
theorem dL_law_1586 : decode cL_law 1586 = .ok (.iload_n 3, 1) := by decide +kernel
theorem dL_law_1587 : decode cL_law 1587 = .ok (.iconst 1, 1) := by decide +kernel
theorem dL_law_1588 : decode cL_law 1588 = .ok (.iadd, 1) := by decide +kernel
theorem dL_law_1589 : decode cL_law 1589 = .ok (.iaload, 1) := by decide +kernel
theorem dL_law_1590 : decode cL_law 1590 = .ok (.invokevirtual 176, 3) := by decide +kernel
theorem dL_law_1593 : decode cL_law 1593 = .ok (.aload_n 2, 1) := by decide +kernel
theorem dL_law_1594 : decode cL_law 1594 = .ok (.aload_n 0, 1) := by decide +kernel
theorem dL_law_1595 : decode cL_law 1595 = .ok (.iload_n 3, 1) := by decide +kernel
theorem dL_law_1596 : decode cL_law 1596 = .ok (.iconst 1, 1) := by decide +kernel
theorem dL_law_1597 : decode cL_law 1597 = .ok (.iadd, 1) := by decide +kernel
theorem dL_law_1598 : decode cL_law 1598 = .ok (.iaload, 1) := by decide +kernel
theorem dL_law_1599 : decode cL_law 1599 = .ok (.invokevirtual 179, 3) := by decide +kernel
theorem dL_law_1602 : decode cL_law 1602 = .ok (.if_icmp .eq 41, 3) := by decide +kernel
theorem dL_law_1605 : decode cL_law 1605 = .ok (.iconst 0, 1) := by decide +kernel
theorem dL_law_1606 : decode cL_law 1606 = .ok (.ireturn, 1) := by decide +kernel
set_option maxRecDepth 20000 in
set_option maxHeartbeats 4000000 in
theorem C_law_39 {nm : String} (K : xK) (L : xL) (k : Int32 → xH → Option (Int32 × xH)) (a0 a1 a2 : Nat) (hk : ∀ (a3 : Int32) (h : xH), Sim K L cL_law RL nm 4 8 (fun q : Int32 × xH => q.2) (xRz cL_law) 1643 [(0, .ref a0), (1, .ref a1), (2, .ref a2), (3, .int a3)] [] h (k a3 h)) (a3 : Int32) (h : xH) : Sim K L cL_law RL nm 4 8 (fun q : Int32 × xH => q.2) (xRz cL_law) 1584 [(0, .ref a0), (1, .ref a1), (2, .ref a2), (3, .int a3)] [] h (f_law_c39 k a0 a1 a2 a3 h) := by
  unfold f_law_c39
  refine S_aload_n (pc := 1584) 1 rfl dL_law_1584 rfl ?_
  refine S_aload_n (pc := 1585) 0 rfl dL_law_1585 rfl ?_
  refine S_iload_n (pc := 1586) 3 rfl dL_law_1586 rfl ?_
  refine S_iconst (pc := 1587) dL_law_1587 ic_1 ?_
  refine S_iadd (pc := 1588) dL_law_1588 ?_
  refine S_aI (pc := 1589) dL_law_1589 (fun v1 => ?_)
  refine S_call_i (pc := 1590) (rest := []) (fun q hq => (x_if hq).elim (fun z => R_V (av := [.int v1]) (q := (RX11, TX11, 12)) (M_X11_trace _ a1 v1 h z.2) z.1 rfl wd_784 wd_781 wd_782 wd_44 wd_783 ⟨rfl, hd_X11_trace⟩ ⟨Nat.le_of_ble_eq_true rfl, Nat.le_of_ble_eq_true rfl⟩ rfl (Nat.le_of_ble_eq_true rfl) dL_law_1590) (fun hq => (by cases hq))) (fun _ h => absurd h List.not_mem_nil) (fun q2 => ?_)
  refine S_aload_n (pc := 1593) 2 rfl dL_law_1593 rfl ?_
  refine S_aload_n (pc := 1594) 0 rfl dL_law_1594 rfl ?_
  refine S_iload_n (pc := 1595) 3 rfl dL_law_1595 rfl ?_
  refine S_iconst (pc := 1596) dL_law_1596 ic_1 ?_
  refine S_iadd (pc := 1597) dL_law_1597 ?_
  refine S_aI (pc := 1598) dL_law_1598 (fun v3 => ?_)
  refine S_call_i (pc := 1599) (rest := [.int q2.1]) (fun q hq => (x_if hq).elim (fun z => R_V (av := [.int v3]) (q := (RX12, TX12, 28)) (M_X12_trace _ a2 v3 q2.2 z.2) z.1 rfl wd_1220 wd_1217 wd_1218 wd_50 wd_1219 ⟨rfl, hd_X12_trace⟩ ⟨Nat.le_of_ble_eq_true rfl, Nat.le_of_ble_eq_true rfl⟩ rfl (Nat.le_of_ble_eq_true rfl) dL_law_1599) (fun hq => (by cases hq))) (fun _ h => List.mem_cons_of_mem _ (List.mem_cons_of_mem _ (h))) (fun q4 => ?_)
  refine S_icmp_eq (pc := 1602) (tgt := 1643) dL_law_1602 (by decide) ?_ ?_
  · refine S_sub [0, 1, 2, 3] rfl ?_
    exact hk a3 q4.2
  · refine S_iconst (pc := 1605) dL_law_1605 ic_0 ?_
    exact Sim.fin ⟨dL_law_1606, rfl, rfl, x_nar (Or.inl rfl)⟩ rfl
theorem dL_law_1607 : decode cL_law 1607 = .ok (.aload_n 1, 1) := by decide +kernel
theorem dL_law_1608 : decode cL_law 1608 = .ok (.aload_n 0, 1) := by decide +kernel
theorem dL_law_1609 : decode cL_law 1609 = .ok (.iload_n 3, 1) := by decide +kernel
theorem dL_law_1610 : decode cL_law 1610 = .ok (.iconst 1, 1) := by decide +kernel
theorem dL_law_1611 : decode cL_law 1611 = .ok (.iadd, 1) := by decide +kernel
theorem dL_law_1612 : decode cL_law 1612 = .ok (.iaload, 1) := by decide +kernel
theorem dL_law_1613 : decode cL_law 1613 = .ok (.invokevirtual 180, 3) := by decide +kernel
theorem dL_law_1616 : decode cL_law 1616 = .ok (.aload_n 2, 1) := by decide +kernel
theorem dL_law_1617 : decode cL_law 1617 = .ok (.aload_n 0, 1) := by decide +kernel
theorem dL_law_1618 : decode cL_law 1618 = .ok (.iload_n 3, 1) := by decide +kernel
theorem dL_law_1619 : decode cL_law 1619 = .ok (.iconst 1, 1) := by decide +kernel
theorem dL_law_1620 : decode cL_law 1620 = .ok (.iadd, 1) := by decide +kernel
theorem dL_law_1621 : decode cL_law 1621 = .ok (.iaload, 1) := by decide +kernel
theorem dL_law_1622 : decode cL_law 1622 = .ok (.invokevirtual 183, 3) := by decide +kernel
theorem dL_law_1625 : decode cL_law 1625 = .ok (.if_icmp .eq 18, 3) := by decide +kernel
theorem dL_law_1628 : decode cL_law 1628 = .ok (.iconst 0, 1) := by decide +kernel
theorem dL_law_1629 : decode cL_law 1629 = .ok (.ireturn, 1) := by decide +kernel
set_option maxRecDepth 20000 in
set_option maxHeartbeats 4000000 in
theorem C_law_40 {nm : String} (K : xK) (L : xL) (k : Int32 → xH → Option (Int32 × xH)) (a0 a1 a2 : Nat) (hk : ∀ (a3 : Int32) (h : xH), Sim K L cL_law RL nm 4 8 (fun q : Int32 × xH => q.2) (xRz cL_law) 1643 [(0, .ref a0), (1, .ref a1), (2, .ref a2), (3, .int a3)] [] h (k a3 h)) (a3 : Int32) (h : xH) : Sim K L cL_law RL nm 4 8 (fun q : Int32 × xH => q.2) (xRz cL_law) 1607 [(0, .ref a0), (1, .ref a1), (2, .ref a2), (3, .int a3)] [] h (f_law_c40 k a0 a1 a2 a3 h) := by
  unfold f_law_c40
  refine S_aload_n (pc := 1607) 1 rfl dL_law_1607 rfl ?_
  refine S_aload_n (pc := 1608) 0 rfl dL_law_1608 rfl ?_
  refine S_iload_n (pc := 1609) 3 rfl dL_law_1609 rfl ?_
  refine S_iconst (pc := 1610) dL_law_1610 ic_1 ?_
  refine S_iadd (pc := 1611) dL_law_1611 ?_
  refine S_aI (pc := 1612) dL_law_1612 (fun v1 => ?_)
  refine S_call_i (pc := 1613) (rest := []) (fun q hq => (x_if hq).elim (fun z => R_V (av := [.int v1]) (q := (RX11, TX11, 12)) (M_X11_count _ a1 v1 h z.2) z.1 rfl wd_788 wd_785 wd_786 wd_44 wd_787 ⟨rfl, hd_X11_count⟩ ⟨Nat.le_of_ble_eq_true rfl, Nat.le_of_ble_eq_true rfl⟩ rfl (Nat.le_of_ble_eq_true rfl) dL_law_1613) (fun hq => (by cases hq))) (fun _ h => absurd h List.not_mem_nil) (fun q2 => ?_)
  refine S_aload_n (pc := 1616) 2 rfl dL_law_1616 rfl ?_
  refine S_aload_n (pc := 1617) 0 rfl dL_law_1617 rfl ?_
  refine S_iload_n (pc := 1618) 3 rfl dL_law_1618 rfl ?_
  refine S_iconst (pc := 1619) dL_law_1619 ic_1 ?_
  refine S_iadd (pc := 1620) dL_law_1620 ?_
  refine S_aI (pc := 1621) dL_law_1621 (fun v3 => ?_)
  refine S_call_i (pc := 1622) (rest := [.int q2.1]) (fun q hq => (x_if hq).elim (fun z => R_V (av := [.int v3]) (q := (RX12, TX12, 28)) (M_X12_count _ a2 v3 q2.2 z.2) z.1 rfl wd_1224 wd_1221 wd_1222 wd_50 wd_1223 ⟨rfl, hd_X12_count⟩ ⟨Nat.le_of_ble_eq_true rfl, Nat.le_of_ble_eq_true rfl⟩ rfl (Nat.le_of_ble_eq_true rfl) dL_law_1622) (fun hq => (by cases hq))) (fun _ h => List.mem_cons_of_mem _ (List.mem_cons_of_mem _ (h))) (fun q4 => ?_)
  refine S_icmp_eq (pc := 1625) (tgt := 1643) dL_law_1625 (by decide) ?_ ?_
  · refine S_sub [0, 1, 2, 3] rfl ?_
    exact hk a3 q4.2
  · refine S_iconst (pc := 1628) dL_law_1628 ic_0 ?_
    exact Sim.fin ⟨dL_law_1629, rfl, rfl, x_nar (Or.inl rfl)⟩ rfl
theorem dL_law_1630 : decode cL_law 1630 = .ok (.aload_n 1, 1) := by decide +kernel
theorem dL_law_1631 : decode cL_law 1631 = .ok (.invokevirtual 184, 3) := by decide +kernel
theorem dL_law_1634 : decode cL_law 1634 = .ok (.aload_n 2, 1) := by decide +kernel
theorem dL_law_1635 : decode cL_law 1635 = .ok (.invokevirtual 187, 3) := by decide +kernel
theorem dL_law_1638 : decode cL_law 1638 = .ok (.if_icmp .eq 5, 3) := by decide +kernel
theorem dL_law_1641 : decode cL_law 1641 = .ok (.iconst 0, 1) := by decide +kernel
theorem dL_law_1642 : decode cL_law 1642 = .ok (.ireturn, 1) := by decide +kernel
set_option maxRecDepth 20000 in
set_option maxHeartbeats 4000000 in
theorem C_law_41 {nm : String} (K : xK) (L : xL) (k : Int32 → xH → Option (Int32 × xH)) (a0 a1 a2 : Nat) (hk : ∀ (a3 : Int32) (h : xH), Sim K L cL_law RL nm 4 8 (fun q : Int32 × xH => q.2) (xRz cL_law) 1643 [(0, .ref a0), (1, .ref a1), (2, .ref a2), (3, .int a3)] [] h (k a3 h)) (a3 : Int32) (h : xH) : Sim K L cL_law RL nm 4 8 (fun q : Int32 × xH => q.2) (xRz cL_law) 1630 [(0, .ref a0), (1, .ref a1), (2, .ref a2), (3, .int a3)] [] h (f_law_c41 k a0 a1 a2 a3 h) := by
  unfold f_law_c41
  refine S_aload_n (pc := 1630) 1 rfl dL_law_1630 rfl ?_
  refine S_call_i (pc := 1631) (rest := []) (fun q hq => (x_if hq).elim (fun z => R_V (av := []) (q := (RX11, TX11, 12)) (M_X11_status _ a1 h z.2) z.1 rfl wd_800 wd_797 wd_798 wd_44 wd_799 ⟨rfl, hd_X11_status⟩ ⟨Nat.le_of_ble_eq_true rfl, Nat.le_of_ble_eq_true rfl⟩ rfl (Nat.le_of_ble_eq_true rfl) dL_law_1631) (fun hq => (by cases hq))) (fun _ h => absurd h List.not_mem_nil) (fun q1 => ?_)
  refine S_aload_n (pc := 1634) 2 rfl dL_law_1634 rfl ?_
  refine S_call_i (pc := 1635) (rest := [.int q1.1]) (fun q hq => (x_if hq).elim (fun z => R_V (av := []) (q := (RX12, TX12, 28)) (M_X12_status _ a2 q1.2 z.2) z.1 rfl wd_1228 wd_1225 wd_1226 wd_50 wd_1227 ⟨rfl, hd_X12_status⟩ ⟨Nat.le_of_ble_eq_true rfl, Nat.le_of_ble_eq_true rfl⟩ rfl (Nat.le_of_ble_eq_true rfl) dL_law_1635) (fun hq => (by cases hq))) (fun _ h => List.mem_cons_of_mem _ (h)) (fun q2 => ?_)
  refine S_icmp_eq (pc := 1638) (tgt := 1643) dL_law_1638 (by decide) ?_ ?_
  · refine S_sub [0, 1, 2, 3] rfl ?_
    exact hk a3 q2.2
  · refine S_iconst (pc := 1641) dL_law_1641 ic_0 ?_
    exact Sim.fin ⟨dL_law_1642, rfl, rfl, x_nar (Or.inl rfl)⟩ rfl
