theorem dL_law_533 : decode cL_law 533 = .ok (.aload_n 1, 1) := by decide +kernel
theorem dL_law_534 : decode cL_law 534 = .ok (.aload_n 0, 1) := by decide +kernel
theorem dL_law_535 : decode cL_law 535 = .ok (.iload_n 3, 1) := by decide +kernel
theorem dL_law_536 : decode cL_law 536 = .ok (.iconst 1, 1) := by decide +kernel
theorem dL_law_537 : decode cL_law 537 = .ok (.iadd, 1) := by decide +kernel
theorem dL_law_538 : decode cL_law 538 = .ok (.iaload, 1) := by decide +kernel
theorem dL_law_539 : decode cL_law 539 = .ok (.aload_n 0, 1) := by decide +kernel
theorem dL_law_540 : decode cL_law 540 = .ok (.iload_n 3, 1) := by decide +kernel
theorem dL_law_541 : decode cL_law 541 = .ok (.iconst 2, 1) := by decide +kernel
theorem dL_law_542 : decode cL_law 542 = .ok (.iadd, 1) := by decide +kernel
theorem dL_law_543 : decode cL_law 543 = .ok (.iaload, 1) := by decide +kernel
theorem dL_law_544 : decode cL_law 544 = .ok (.invokevirtual 53, 3) := by decide +kernel
theorem dL_law_547 : decode cL_law 547 = .ok (.aload_n 2, 1) := by decide +kernel
theorem dL_law_548 : decode cL_law 548 = .ok (.aload_n 0, 1) := by decide +kernel
theorem dL_law_549 : decode cL_law 549 = .ok (.iload_n 3, 1) := by decide +kernel
theorem dL_law_550 : decode cL_law 550 = .ok (.iconst 1, 1) := by decide +kernel
theorem dL_law_551 : decode cL_law 551 = .ok (.iadd, 1) := by decide +kernel
theorem dL_law_552 : decode cL_law 552 = .ok (.iaload, 1) := by decide +kernel
theorem dL_law_553 : decode cL_law 553 = .ok (.aload_n 0, 1) := by decide +kernel
theorem dL_law_554 : decode cL_law 554 = .ok (.iload_n 3, 1) := by decide +kernel
theorem dL_law_555 : decode cL_law 555 = .ok (.iconst 2, 1) := by decide +kernel
theorem dL_law_556 : decode cL_law 556 = .ok (.iadd, 1) := by decide +kernel
theorem dL_law_557 : decode cL_law 557 = .ok (.iaload, 1) := by decide +kernel
theorem dL_law_558 : decode cL_law 558 = .ok (.invokevirtual 57, 3) := by decide +kernel
theorem dL_law_561 : decode cL_law 561 = .ok (.if_icmp .eq 1082, 3) := by decide +kernel
theorem dL_law_564 : decode cL_law 564 = .ok (.iconst 0, 1) := by decide +kernel
theorem dL_law_565 : decode cL_law 565 = .ok (.ireturn, 1) := by decide +kernel
set_option maxRecDepth 20000 in
set_option maxHeartbeats 4000000 in
theorem C_law_9 {nm : String} (K : xK) (L : xL) (k : Int32 → xH → Option (Int32 × xH)) (a0 a1 a2 : Nat) (hk : ∀ (a3 : Int32) (h : xH), Sim K L cL_law RL nm 4 8 (fun q : Int32 × xH => q.2) (xRz cL_law) 1643 [(0, .ref a0), (1, .ref a1), (2, .ref a2), (3, .int a3)] [] h (k a3 h)) (a3 : Int32) (h : xH) : Sim K L cL_law RL nm 4 8 (fun q : Int32 × xH => q.2) (xRz cL_law) 533 [(0, .ref a0), (1, .ref a1), (2, .ref a2), (3, .int a3)] [] h (f_law_c9 k a0 a1 a2 a3 h) := by
  unfold f_law_c9
  refine S_aload_n (pc := 533) 1 rfl dL_law_533 rfl ?_
  refine S_aload_n (pc := 534) 0 rfl dL_law_534 rfl ?_
  refine S_iload_n (pc := 535) 3 rfl dL_law_535 rfl ?_
  refine S_iconst (pc := 536) dL_law_536 ic_1 ?_
  refine S_iadd (pc := 537) dL_law_537 ?_
  refine S_aI (pc := 538) dL_law_538 (fun v1 => ?_)
  refine S_aload_n (pc := 539) 0 rfl dL_law_539 rfl ?_
  refine S_iload_n (pc := 540) 3 rfl dL_law_540 rfl ?_
  refine S_iconst (pc := 541) dL_law_541 ic_2 ?_
  refine S_iadd (pc := 542) dL_law_542 ?_
  refine S_aI (pc := 543) dL_law_543 (fun v2 => ?_)
  refine S_call_i (pc := 544) (rest := []) (fun q hq => (x_if hq).elim (fun z => R_V (av := [.int v1, .int v2]) (q := (RX11, TX11, 12)) (M_X11_cut _ a1 v1 v2 h z.2) z.1 rfl wd_464 wd_461 wd_462 wd_44 wd_463 ⟨rfl, hd_X11_cut⟩ ⟨Nat.le_of_ble_eq_true rfl, Nat.le_of_ble_eq_true rfl⟩ rfl (Nat.le_of_ble_eq_true rfl) dL_law_544) (fun hq => (by cases hq))) (fun _ h => absurd h List.not_mem_nil) (fun q3 => ?_)
  refine S_aload_n (pc := 547) 2 rfl dL_law_547 rfl ?_
  refine S_aload_n (pc := 548) 0 rfl dL_law_548 rfl ?_
  refine S_iload_n (pc := 549) 3 rfl dL_law_549 rfl ?_
  refine S_iconst (pc := 550) dL_law_550 ic_1 ?_
  refine S_iadd (pc := 551) dL_law_551 ?_
  refine S_aI (pc := 552) dL_law_552 (fun v4 => ?_)
  refine S_aload_n (pc := 553) 0 rfl dL_law_553 rfl ?_
  refine S_iload_n (pc := 554) 3 rfl dL_law_554 rfl ?_
  refine S_iconst (pc := 555) dL_law_555 ic_2 ?_
  refine S_iadd (pc := 556) dL_law_556 ?_
  refine S_aI (pc := 557) dL_law_557 (fun v5 => ?_)
  refine S_call_i (pc := 558) (rest := [.int q3.1]) (fun q hq => (x_if hq).elim (fun z => R_V (av := [.int v4, .int v5]) (q := (RX12, TX12, 28)) (M_X12_cut _ a2 v4 v5 q3.2 z.2) z.1 rfl wd_1026 wd_1023 wd_1024 wd_50 wd_1025 ⟨rfl, hd_X12_cut⟩ ⟨Nat.le_of_ble_eq_true rfl, Nat.le_of_ble_eq_true rfl⟩ rfl (Nat.le_of_ble_eq_true rfl) dL_law_558) (fun hq => (by cases hq))) (fun _ h => List.mem_cons_of_mem _ (List.mem_cons_of_mem _ (List.mem_cons_of_mem _ (h)))) (fun q6 => ?_)
  refine S_icmp_eq (pc := 561) (tgt := 1643) dL_law_561 (by decide) ?_ ?_
  · refine S_sub [0, 1, 2, 3] rfl ?_
    exact hk a3 q6.2
  · refine S_iconst (pc := 564) dL_law_564 ic_0 ?_
    exact Sim.fin ⟨dL_law_565, rfl, rfl, x_nar (Or.inl rfl)⟩ rfl
theorem dL_law_566 : decode cL_law 566 = .ok (.aload_n 1, 1) := by decide +kernel
theorem dL_law_567 : decode cL_law 567 = .ok (.aload_n 0, 1) := by decide +kernel
theorem dL_law_568 : decode cL_law 568 = .ok (.iload_n 3, 1) := by decide +kernel
theorem dL_law_569 : decode cL_law 569 = .ok (.iconst 1, 1) := by decide +kernel
theorem dL_law_570 : decode cL_law 570 = .ok (.iadd, 1) := by decide +kernel
theorem dL_law_571 : decode cL_law 571 = .ok (.iaload, 1) := by decide +kernel
theorem dL_law_572 : decode cL_law 572 = .ok (.aload_n 0, 1) := by decide +kernel
theorem dL_law_573 : decode cL_law 573 = .ok (.iload_n 3, 1) := by decide +kernel
theorem dL_law_574 : decode cL_law 574 = .ok (.iconst 2, 1) := by decide +kernel
theorem dL_law_575 : decode cL_law 575 = .ok (.iadd, 1) := by decide +kernel
theorem dL_law_576 : decode cL_law 576 = .ok (.iaload, 1) := by decide +kernel
theorem dL_law_577 : decode cL_law 577 = .ok (.aload_n 0, 1) := by decide +kernel
theorem dL_law_578 : decode cL_law 578 = .ok (.iload_n 3, 1) := by decide +kernel
theorem dL_law_579 : decode cL_law 579 = .ok (.iconst 3, 1) := by decide +kernel
theorem dL_law_580 : decode cL_law 580 = .ok (.iadd, 1) := by decide +kernel
theorem dL_law_581 : decode cL_law 581 = .ok (.iaload, 1) := by decide +kernel
theorem dL_law_582 : decode cL_law 582 = .ok (.aload_n 0, 1) := by decide +kernel
theorem dL_law_583 : decode cL_law 583 = .ok (.iload_n 3, 1) := by decide +kernel
theorem dL_law_584 : decode cL_law 584 = .ok (.iconst 4, 1) := by decide +kernel
theorem dL_law_585 : decode cL_law 585 = .ok (.iadd, 1) := by decide +kernel
theorem dL_law_586 : decode cL_law 586 = .ok (.iaload, 1) := by decide +kernel
theorem dL_law_587 : decode cL_law 587 = .ok (.invokevirtual 58, 3) := by decide +kernel
theorem dL_law_590 : decode cL_law 590 = .ok (.aload_n 2, 1) := by decide +kernel
theorem dL_law_591 : decode cL_law 591 = .ok (.aload_n 0, 1) := by decide +kernel
theorem dL_law_592 : decode cL_law 592 = .ok (.iload_n 3, 1) := by decide +kernel
theorem dL_law_593 : decode cL_law 593 = .ok (.iconst 1, 1) := by decide +kernel
theorem dL_law_594 : decode cL_law 594 = .ok (.iadd, 1) := by decide +kernel
theorem dL_law_595 : decode cL_law 595 = .ok (.iaload, 1) := by decide +kernel
theorem dL_law_596 : decode cL_law 596 = .ok (.aload_n 0, 1) := by decide +kernel
theorem dL_law_597 : decode cL_law 597 = .ok (.iload_n 3, 1) := by decide +kernel
theorem dL_law_598 : decode cL_law 598 = .ok (.iconst 2, 1) := by decide +kernel
theorem dL_law_599 : decode cL_law 599 = .ok (.iadd, 1) := by decide +kernel
theorem dL_law_600 : decode cL_law 600 = .ok (.iaload, 1) := by decide +kernel
theorem dL_law_601 : decode cL_law 601 = .ok (.aload_n 0, 1) := by decide +kernel
theorem dL_law_602 : decode cL_law 602 = .ok (.iload_n 3, 1) := by decide +kernel
theorem dL_law_603 : decode cL_law 603 = .ok (.iconst 3, 1) := by decide +kernel
theorem dL_law_604 : decode cL_law 604 = .ok (.iadd, 1) := by decide +kernel
theorem dL_law_605 : decode cL_law 605 = .ok (.iaload, 1) := by decide +kernel
theorem dL_law_606 : decode cL_law 606 = .ok (.aload_n 0, 1) := by decide +kernel
theorem dL_law_607 : decode cL_law 607 = .ok (.iload_n 3, 1) := by decide +kernel
theorem dL_law_608 : decode cL_law 608 = .ok (.iconst 4, 1) := by decide +kernel
theorem dL_law_609 : decode cL_law 609 = .ok (.iadd, 1) := by decide +kernel
theorem dL_law_610 : decode cL_law 610 = .ok (.iaload, 1) := by decide +kernel
theorem dL_law_611 : decode cL_law 611 = .ok (.invokevirtual 62, 3) := by decide +kernel
theorem dL_law_614 : decode cL_law 614 = .ok (.if_icmp .eq 1029, 3) := by decide +kernel
theorem dL_law_617 : decode cL_law 617 = .ok (.iconst 0, 1) := by decide +kernel
theorem dL_law_618 : decode cL_law 618 = .ok (.ireturn, 1) := by decide +kernel
set_option maxRecDepth 20000 in
set_option maxHeartbeats 4000000 in
theorem C_law_10 {nm : String} (K : xK) (L : xL) (k : Int32 → xH → Option (Int32 × xH)) (a0 a1 a2 : Nat) (hk : ∀ (a3 : Int32) (h : xH), Sim K L cL_law RL nm 4 8 (fun q : Int32 × xH => q.2) (xRz cL_law) 1643 [(0, .ref a0), (1, .ref a1), (2, .ref a2), (3, .int a3)] [] h (k a3 h)) (a3 : Int32) (h : xH) : Sim K L cL_law RL nm 4 8 (fun q : Int32 × xH => q.2) (xRz cL_law) 566 [(0, .ref a0), (1, .ref a1), (2, .ref a2), (3, .int a3)] [] h (f_law_c10 k a0 a1 a2 a3 h) := by
  unfold f_law_c10
  refine S_aload_n (pc := 566) 1 rfl dL_law_566 rfl ?_
  refine S_aload_n (pc := 567) 0 rfl dL_law_567 rfl ?_
  refine S_iload_n (pc := 568) 3 rfl dL_law_568 rfl ?_
  refine S_iconst (pc := 569) dL_law_569 ic_1 ?_
  refine S_iadd (pc := 570) dL_law_570 ?_
  refine S_aI (pc := 571) dL_law_571 (fun v1 => ?_)
  refine S_aload_n (pc := 572) 0 rfl dL_law_572 rfl ?_
  refine S_iload_n (pc := 573) 3 rfl dL_law_573 rfl ?_
  refine S_iconst (pc := 574) dL_law_574 ic_2 ?_
  refine S_iadd (pc := 575) dL_law_575 ?_
  refine S_aI (pc := 576) dL_law_576 (fun v2 => ?_)
  refine S_aload_n (pc := 577) 0 rfl dL_law_577 rfl ?_
  refine S_iload_n (pc := 578) 3 rfl dL_law_578 rfl ?_
  refine S_iconst (pc := 579) dL_law_579 ic_3 ?_
  refine S_iadd (pc := 580) dL_law_580 ?_
  refine S_aI (pc := 581) dL_law_581 (fun v3 => ?_)
  refine S_aload_n (pc := 582) 0 rfl dL_law_582 rfl ?_
  refine S_iload_n (pc := 583) 3 rfl dL_law_583 rfl ?_
  refine S_iconst (pc := 584) dL_law_584 ic_4 ?_
  refine S_iadd (pc := 585) dL_law_585 ?_
  refine S_aI (pc := 586) dL_law_586 (fun v4 => ?_)
  refine S_call_i (pc := 587) (rest := []) (fun q hq => (x_if hq).elim (fun z => R_V (av := [.int v1, .int v2, .int v3, .int v4]) (q := (RX11, TX11, 12)) (M_X11_join _ a1 v1 v2 v3 v4 h z.2) z.1 rfl wd_481 wd_478 wd_479 wd_44 wd_480 ⟨rfl, hd_X11_join⟩ ⟨Nat.le_of_ble_eq_true rfl, Nat.le_of_ble_eq_true rfl⟩ rfl (Nat.le_of_ble_eq_true rfl) dL_law_587) (fun hq => (by cases hq))) (fun _ h => absurd h List.not_mem_nil) (fun q5 => ?_)
  refine S_aload_n (pc := 590) 2 rfl dL_law_590 rfl ?_
  refine S_aload_n (pc := 591) 0 rfl dL_law_591 rfl ?_
  refine S_iload_n (pc := 592) 3 rfl dL_law_592 rfl ?_
  refine S_iconst (pc := 593) dL_law_593 ic_1 ?_
  refine S_iadd (pc := 594) dL_law_594 ?_
  refine S_aI (pc := 595) dL_law_595 (fun v6 => ?_)
  refine S_aload_n (pc := 596) 0 rfl dL_law_596 rfl ?_
  refine S_iload_n (pc := 597) 3 rfl dL_law_597 rfl ?_
  refine S_iconst (pc := 598) dL_law_598 ic_2 ?_
  refine S_iadd (pc := 599) dL_law_599 ?_
  refine S_aI (pc := 600) dL_law_600 (fun v7 => ?_)
  refine S_aload_n (pc := 601) 0 rfl dL_law_601 rfl ?_
  refine S_iload_n (pc := 602) 3 rfl dL_law_602 rfl ?_
  refine S_iconst (pc := 603) dL_law_603 ic_3 ?_
  refine S_iadd (pc := 604) dL_law_604 ?_
  refine S_aI (pc := 605) dL_law_605 (fun v8 => ?_)
  refine S_aload_n (pc := 606) 0 rfl dL_law_606 rfl ?_
  refine S_iload_n (pc := 607) 3 rfl dL_law_607 rfl ?_
  refine S_iconst (pc := 608) dL_law_608 ic_4 ?_
  refine S_iadd (pc := 609) dL_law_609 ?_
  refine S_aI (pc := 610) dL_law_610 (fun v9 => ?_)
  refine S_call_i (pc := 611) (rest := [.int q5.1]) (fun q hq => (x_if hq).elim (fun z => R_V (av := [.int v6, .int v7, .int v8, .int v9]) (q := (RX12, TX12, 28)) (M_X12_join _ a2 v6 v7 v8 v9 q5.2 z.2) z.1 rfl wd_1030 wd_1027 wd_1028 wd_50 wd_1029 ⟨rfl, hd_X12_join⟩ ⟨Nat.le_of_ble_eq_true rfl, Nat.le_of_ble_eq_true rfl⟩ rfl (Nat.le_of_ble_eq_true rfl) dL_law_611) (fun hq => (by cases hq))) (fun _ h => List.mem_cons_of_mem _ (List.mem_cons_of_mem _ (List.mem_cons_of_mem _ (List.mem_cons_of_mem _ (List.mem_cons_of_mem _ (h)))))) (fun q10 => ?_)
  refine S_icmp_eq (pc := 614) (tgt := 1643) dL_law_614 (by decide) ?_ ?_
  · refine S_sub [0, 1, 2, 3] rfl ?_
    exact hk a3 q10.2
  · refine S_iconst (pc := 617) dL_law_617 ic_0 ?_
    exact Sim.fin ⟨dL_law_618, rfl, rfl, x_nar (Or.inl rfl)⟩ rfl
theorem dL_law_619 : decode cL_law 619 = .ok (.aload_n 1, 1) := by decide +kernel
theorem dL_law_620 : decode cL_law 620 = .ok (.aload_n 0, 1) := by decide +kernel
theorem dL_law_621 : decode cL_law 621 = .ok (.iload_n 3, 1) := by decide +kernel
theorem dL_law_622 : decode cL_law 622 = .ok (.iconst 1, 1) := by decide +kernel
theorem dL_law_623 : decode cL_law 623 = .ok (.iadd, 1) := by decide +kernel
theorem dL_law_624 : decode cL_law 624 = .ok (.iaload, 1) := by decide +kernel
theorem dL_law_625 : decode cL_law 625 = .ok (.invokevirtual 63, 3) := by decide +kernel
theorem dL_law_628 : decode cL_law 628 = .ok (.aload_n 2, 1) := by decide +kernel
theorem dL_law_629 : decode cL_law 629 = .ok (.aload_n 0, 1) := by decide +kernel
theorem dL_law_630 : decode cL_law 630 = .ok (.iload_n 3, 1) := by decide +kernel
theorem dL_law_631 : decode cL_law 631 = .ok (.iconst 1, 1) := by decide +kernel
theorem dL_law_632 : decode cL_law 632 = .ok (.iadd, 1) := by decide +kernel
theorem dL_law_633 : decode cL_law 633 = .ok (.iaload, 1) := by decide +kernel
theorem dL_law_634 : decode cL_law 634 = .ok (.invokevirtual 66, 3) := by decide +kernel
theorem dL_law_637 : decode cL_law 637 = .ok (.if_icmp .eq 1006, 3) := by decide +kernel
theorem dL_law_640 : decode cL_law 640 = .ok (.iconst 0, 1) := by decide +kernel
theorem dL_law_641 : decode cL_law 641 = .ok (.ireturn, 1) := by decide +kernel
set_option maxRecDepth 20000 in
set_option maxHeartbeats 4000000 in
theorem C_law_11 {nm : String} (K : xK) (L : xL) (k : Int32 → xH → Option (Int32 × xH)) (a0 a1 a2 : Nat) (hk : ∀ (a3 : Int32) (h : xH), Sim K L cL_law RL nm 4 8 (fun q : Int32 × xH => q.2) (xRz cL_law) 1643 [(0, .ref a0), (1, .ref a1), (2, .ref a2), (3, .int a3)] [] h (k a3 h)) (a3 : Int32) (h : xH) : Sim K L cL_law RL nm 4 8 (fun q : Int32 × xH => q.2) (xRz cL_law) 619 [(0, .ref a0), (1, .ref a1), (2, .ref a2), (3, .int a3)] [] h (f_law_c11 k a0 a1 a2 a3 h) := by
  unfold f_law_c11
  refine S_aload_n (pc := 619) 1 rfl dL_law_619 rfl ?_
  refine S_aload_n (pc := 620) 0 rfl dL_law_620 rfl ?_
  refine S_iload_n (pc := 621) 3 rfl dL_law_621 rfl ?_
  refine S_iconst (pc := 622) dL_law_622 ic_1 ?_
  refine S_iadd (pc := 623) dL_law_623 ?_
  refine S_aI (pc := 624) dL_law_624 (fun v1 => ?_)
  refine S_call_i (pc := 625) (rest := []) (fun q hq => (x_if hq).elim (fun z => R_V (av := [.int v1]) (q := (RX11, TX11, 12)) (M_X11_turn _ a1 v1 h z.2) z.1 rfl wd_507 wd_504 wd_505 wd_44 wd_506 ⟨rfl, hd_X11_turn⟩ ⟨Nat.le_of_ble_eq_true rfl, Nat.le_of_ble_eq_true rfl⟩ rfl (Nat.le_of_ble_eq_true rfl) dL_law_625) (fun hq => (by cases hq))) (fun _ h => absurd h List.not_mem_nil) (fun q2 => ?_)
  refine S_aload_n (pc := 628) 2 rfl dL_law_628 rfl ?_
  refine S_aload_n (pc := 629) 0 rfl dL_law_629 rfl ?_
  refine S_iload_n (pc := 630) 3 rfl dL_law_630 rfl ?_
  refine S_iconst (pc := 631) dL_law_631 ic_1 ?_
  refine S_iadd (pc := 632) dL_law_632 ?_
  refine S_aI (pc := 633) dL_law_633 (fun v3 => ?_)
  refine S_call_i (pc := 634) (rest := [.int q2.1]) (fun q hq => (x_if hq).elim (fun z => R_V (av := [.int v3]) (q := (RX12, TX12, 28)) (M_X12_turn _ a2 v3 q2.2 z.2) z.1 rfl wd_1041 wd_1038 wd_1039 wd_50 wd_1040 ⟨rfl, hd_X12_turn⟩ ⟨Nat.le_of_ble_eq_true rfl, Nat.le_of_ble_eq_true rfl⟩ rfl (Nat.le_of_ble_eq_true rfl) dL_law_634) (fun hq => (by cases hq))) (fun _ h => List.mem_cons_of_mem _ (List.mem_cons_of_mem _ (h))) (fun q4 => ?_)
  refine S_icmp_eq (pc := 637) (tgt := 1643) dL_law_637 (by decide) ?_ ?_
  · refine S_sub [0, 1, 2, 3] rfl ?_
    exact hk a3 q4.2
  · refine S_iconst (pc := 640) dL_law_640 ic_0 ?_
    exact Sim.fin ⟨dL_law_641, rfl, rfl, x_nar (Or.inl rfl)⟩ rfl
theorem dL_law_642 : decode cL_law 642 = .ok (.aload_n 1, 1) := by decide +kernel
theorem dL_law_643 : decode cL_law 643 = .ok (.aload_n 0, 1) := by decide +kernel
theorem dL_law_644 : decode cL_law 644 = .ok (.iload_n 3, 1) := by decide +kernel
theorem dL_law_645 : decode cL_law 645 = .ok (.iconst 1, 1) := by decide +kernel
theorem dL_law_646 : decode cL_law 646 = .ok (.iadd, 1) := by decide +kernel
theorem dL_law_647 : decode cL_law 647 = .ok (.iaload, 1) := by decide +kernel
theorem dL_law_648 : decode cL_law 648 = .ok (.aload_n 0, 1) := by decide +kernel
theorem dL_law_649 : decode cL_law 649 = .ok (.iload_n 3, 1) := by decide +kernel
theorem dL_law_650 : decode cL_law 650 = .ok (.iconst 2, 1) := by decide +kernel
theorem dL_law_651 : decode cL_law 651 = .ok (.iadd, 1) := by decide +kernel
theorem dL_law_652 : decode cL_law 652 = .ok (.iaload, 1) := by decide +kernel
theorem dL_law_653 : decode cL_law 653 = .ok (.aload_n 0, 1) := by decide +kernel
theorem dL_law_654 : decode cL_law 654 = .ok (.iload_n 3, 1) := by decide +kernel
theorem dL_law_655 : decode cL_law 655 = .ok (.iconst 3, 1) := by decide +kernel
theorem dL_law_656 : decode cL_law 656 = .ok (.iadd, 1) := by decide +kernel
theorem dL_law_657 : decode cL_law 657 = .ok (.iaload, 1) := by decide +kernel
theorem dL_law_658 : decode cL_law 658 = .ok (.aload_n 0, 1) := by decide +kernel
theorem dL_law_659 : decode cL_law 659 = .ok (.iload_n 3, 1) := by decide +kernel
theorem dL_law_660 : decode cL_law 660 = .ok (.iconst 4, 1) := by decide +kernel
theorem dL_law_661 : decode cL_law 661 = .ok (.iadd, 1) := by decide +kernel
theorem dL_law_662 : decode cL_law 662 = .ok (.iaload, 1) := by decide +kernel
theorem dL_law_663 : decode cL_law 663 = .ok (.invokevirtual 67, 3) := by decide +kernel
theorem dL_law_666 : decode cL_law 666 = .ok (.aload_n 2, 1) := by decide +kernel
theorem dL_law_667 : decode cL_law 667 = .ok (.aload_n 0, 1) := by decide +kernel
theorem dL_law_668 : decode cL_law 668 = .ok (.iload_n 3, 1) := by decide +kernel
theorem dL_law_669 : decode cL_law 669 = .ok (.iconst 1, 1) := by decide +kernel
theorem dL_law_670 : decode cL_law 670 = .ok (.iadd, 1) := by decide +kernel
theorem dL_law_671 : decode cL_law 671 = .ok (.iaload, 1) := by decide +kernel
theorem dL_law_672 : decode cL_law 672 = .ok (.aload_n 0, 1) := by decide +kernel
theorem dL_law_673 : decode cL_law 673 = .ok (.iload_n 3, 1) := by decide +kernel
theorem dL_law_674 : decode cL_law 674 = .ok (.iconst 2, 1) := by decide +kernel
theorem dL_law_675 : decode cL_law 675 = .ok (.iadd, 1) := by decide +kernel
theorem dL_law_676 : decode cL_law 676 = .ok (.iaload, 1) := by decide +kernel
theorem dL_law_677 : decode cL_law 677 = .ok (.aload_n 0, 1) := by decide +kernel
theorem dL_law_678 : decode cL_law 678 = .ok (.iload_n 3, 1) := by decide +kernel
theorem dL_law_679 : decode cL_law 679 = .ok (.iconst 3, 1) := by decide +kernel
theorem dL_law_680 : decode cL_law 680 = .ok (.iadd, 1) := by decide +kernel
theorem dL_law_681 : decode cL_law 681 = .ok (.iaload, 1) := by decide +kernel
theorem dL_law_682 : decode cL_law 682 = .ok (.aload_n 0, 1) := by decide +kernel
theorem dL_law_683 : decode cL_law 683 = .ok (.iload_n 3, 1) := by decide +kernel
theorem dL_law_684 : decode cL_law 684 = .ok (.iconst 4, 1) := by decide +kernel
theorem dL_law_685 : decode cL_law 685 = .ok (.iadd, 1) := by decide +kernel
theorem dL_law_686 : decode cL_law 686 = .ok (.iaload, 1) := by decide +kernel
theorem dL_law_687 : decode cL_law 687 = .ok (.invokevirtual 70, 3) := by decide +kernel
theorem dL_law_690 : decode cL_law 690 = .ok (.if_icmp .eq 953, 3) := by decide +kernel
theorem dL_law_693 : decode cL_law 693 = .ok (.iconst 0, 1) := by decide +kernel
theorem dL_law_694 : decode cL_law 694 = .ok (.ireturn, 1) := by decide +kernel
set_option maxRecDepth 20000 in
set_option maxHeartbeats 4000000 in
theorem C_law_12 {nm : String} (K : xK) (L : xL) (k : Int32 → xH → Option (Int32 × xH)) (a0 a1 a2 : Nat) (hk : ∀ (a3 : Int32) (h : xH), Sim K L cL_law RL nm 4 8 (fun q : Int32 × xH => q.2) (xRz cL_law) 1643 [(0, .ref a0), (1, .ref a1), (2, .ref a2), (3, .int a3)] [] h (k a3 h)) (a3 : Int32) (h : xH) : Sim K L cL_law RL nm 4 8 (fun q : Int32 × xH => q.2) (xRz cL_law) 642 [(0, .ref a0), (1, .ref a1), (2, .ref a2), (3, .int a3)] [] h (f_law_c12 k a0 a1 a2 a3 h) := by
  unfold f_law_c12
  refine S_aload_n (pc := 642) 1 rfl dL_law_642 rfl ?_
  refine S_aload_n (pc := 643) 0 rfl dL_law_643 rfl ?_
  refine S_iload_n (pc := 644) 3 rfl dL_law_644 rfl ?_
  refine S_iconst (pc := 645) dL_law_645 ic_1 ?_
  refine S_iadd (pc := 646) dL_law_646 ?_
  refine S_aI (pc := 647) dL_law_647 (fun v1 => ?_)
  refine S_aload_n (pc := 648) 0 rfl dL_law_648 rfl ?_
  refine S_iload_n (pc := 649) 3 rfl dL_law_649 rfl ?_
  refine S_iconst (pc := 650) dL_law_650 ic_2 ?_
  refine S_iadd (pc := 651) dL_law_651 ?_
  refine S_aI (pc := 652) dL_law_652 (fun v2 => ?_)
  refine S_aload_n (pc := 653) 0 rfl dL_law_653 rfl ?_
  refine S_iload_n (pc := 654) 3 rfl dL_law_654 rfl ?_
  refine S_iconst (pc := 655) dL_law_655 ic_3 ?_
  refine S_iadd (pc := 656) dL_law_656 ?_
  refine S_aI (pc := 657) dL_law_657 (fun v3 => ?_)
  refine S_aload_n (pc := 658) 0 rfl dL_law_658 rfl ?_
  refine S_iload_n (pc := 659) 3 rfl dL_law_659 rfl ?_
  refine S_iconst (pc := 660) dL_law_660 ic_4 ?_
  refine S_iadd (pc := 661) dL_law_661 ?_
  refine S_aI (pc := 662) dL_law_662 (fun v4 => ?_)
  refine S_call_i (pc := 663) (rest := []) (fun q hq => (x_if hq).elim (fun z => R_V (av := [.int v1, .int v2, .int v3, .int v4]) (q := (RX11, TX11, 12)) (M_X11_take _ a1 v1 v2 v3 v4 h z.2) z.1 rfl wd_515 wd_512 wd_513 wd_44 wd_514 ⟨rfl, hd_X11_take⟩ ⟨Nat.le_of_ble_eq_true rfl, Nat.le_of_ble_eq_true rfl⟩ rfl (Nat.le_of_ble_eq_true rfl) dL_law_663) (fun hq => (by cases hq))) (fun _ h => absurd h List.not_mem_nil) (fun q5 => ?_)
  refine S_aload_n (pc := 666) 2 rfl dL_law_666 rfl ?_
  refine S_aload_n (pc := 667) 0 rfl dL_law_667 rfl ?_
  refine S_iload_n (pc := 668) 3 rfl dL_law_668 rfl ?_
  refine S_iconst (pc := 669) dL_law_669 ic_1 ?_
  refine S_iadd (pc := 670) dL_law_670 ?_
  refine S_aI (pc := 671) dL_law_671 (fun v6 => ?_)
  refine S_aload_n (pc := 672) 0 rfl dL_law_672 rfl ?_
  refine S_iload_n (pc := 673) 3 rfl dL_law_673 rfl ?_
  refine S_iconst (pc := 674) dL_law_674 ic_2 ?_
  refine S_iadd (pc := 675) dL_law_675 ?_
  refine S_aI (pc := 676) dL_law_676 (fun v7 => ?_)
  refine S_aload_n (pc := 677) 0 rfl dL_law_677 rfl ?_
  refine S_iload_n (pc := 678) 3 rfl dL_law_678 rfl ?_
  refine S_iconst (pc := 679) dL_law_679 ic_3 ?_
  refine S_iadd (pc := 680) dL_law_680 ?_
  refine S_aI (pc := 681) dL_law_681 (fun v8 => ?_)
  refine S_aload_n (pc := 682) 0 rfl dL_law_682 rfl ?_
  refine S_iload_n (pc := 683) 3 rfl dL_law_683 rfl ?_
  refine S_iconst (pc := 684) dL_law_684 ic_4 ?_
  refine S_iadd (pc := 685) dL_law_685 ?_
  refine S_aI (pc := 686) dL_law_686 (fun v9 => ?_)
  refine S_call_i (pc := 687) (rest := [.int q5.1]) (fun q hq => (x_if hq).elim (fun z => R_V (av := [.int v6, .int v7, .int v8, .int v9]) (q := (RX12, TX12, 28)) (M_X12_take _ a2 v6 v7 v8 v9 q5.2 z.2) z.1 rfl wd_1045 wd_1042 wd_1043 wd_50 wd_1044 ⟨rfl, hd_X12_take⟩ ⟨Nat.le_of_ble_eq_true rfl, Nat.le_of_ble_eq_true rfl⟩ rfl (Nat.le_of_ble_eq_true rfl) dL_law_687) (fun hq => (by cases hq))) (fun _ h => List.mem_cons_of_mem _ (List.mem_cons_of_mem _ (List.mem_cons_of_mem _ (List.mem_cons_of_mem _ (List.mem_cons_of_mem _ (h)))))) (fun q10 => ?_)
  refine S_icmp_eq (pc := 690) (tgt := 1643) dL_law_690 (by decide) ?_ ?_
  · refine S_sub [0, 1, 2, 3] rfl ?_
    exact hk a3 q10.2
  · refine S_iconst (pc := 693) dL_law_693 ic_0 ?_
    exact Sim.fin ⟨dL_law_694, rfl, rfl, x_nar (Or.inl rfl)⟩ rfl
theorem dL_law_695 : decode cL_law 695 = .ok (.aload_n 1, 1) := by decide +kernel
theorem dL_law_696 : decode cL_law 696 = .ok (.invokevirtual 71, 3) := by decide +kernel
theorem dL_law_699 : decode cL_law 699 = .ok (.aload_n 2, 1) := by decide +kernel
theorem dL_law_700 : decode cL_law 700 = .ok (.invokevirtual 74, 3) := by decide +kernel
theorem dL_law_703 : decode cL_law 703 = .ok (.if_icmp .eq 940, 3) := by decide +kernel
theorem dL_law_706 : decode cL_law 706 = .ok (.iconst 0, 1) := by decide +kernel
theorem dL_law_707 : decode cL_law 707 = .ok (.ireturn, 1) := by decide +kernel
set_option maxRecDepth 20000 in
set_option maxHeartbeats 4000000 in
theorem C_law_13 {nm : String} (K : xK) (L : xL) (k : Int32 → xH → Option (Int32 × xH)) (a0 a1 a2 : Nat) (hk : ∀ (a3 : Int32) (h : xH), Sim K L cL_law RL nm 4 8 (fun q : Int32 × xH => q.2) (xRz cL_law) 1643 [(0, .ref a0), (1, .ref a1), (2, .ref a2), (3, .int a3)] [] h (k a3 h)) (a3 : Int32) (h : xH) : Sim K L cL_law RL nm 4 8 (fun q : Int32 × xH => q.2) (xRz cL_law) 695 [(0, .ref a0), (1, .ref a1), (2, .ref a2), (3, .int a3)] [] h (f_law_c13 k a0 a1 a2 a3 h) := by
  unfold f_law_c13
  refine S_aload_n (pc := 695) 1 rfl dL_law_695 rfl ?_
  refine S_call_i (pc := 696) (rest := []) (fun q hq => (x_if hq).elim (fun z => R_V (av := []) (q := (RX11, TX11, 12)) (M_X11_undo _ a1 h z.2) z.1 rfl wd_523 wd_520 wd_521 wd_44 wd_522 ⟨rfl, hd_X11_undo⟩ ⟨Nat.le_of_ble_eq_true rfl, Nat.le_of_ble_eq_true rfl⟩ rfl (Nat.le_of_ble_eq_true rfl) dL_law_696) (fun hq => (by cases hq))) (fun _ h => absurd h List.not_mem_nil) (fun q1 => ?_)
  refine S_aload_n (pc := 699) 2 rfl dL_law_699 rfl ?_
  refine S_call_i (pc := 700) (rest := [.int q1.1]) (fun q hq => (x_if hq).elim (fun z => R_V (av := []) (q := (RX12, TX12, 28)) (M_X12_undo _ a2 q1.2 z.2) z.1 rfl wd_1049 wd_1046 wd_1047 wd_50 wd_1048 ⟨rfl, hd_X12_undo⟩ ⟨Nat.le_of_ble_eq_true rfl, Nat.le_of_ble_eq_true rfl⟩ rfl (Nat.le_of_ble_eq_true rfl) dL_law_700) (fun hq => (by cases hq))) (fun _ h => List.mem_cons_of_mem _ (h)) (fun q2 => ?_)
  refine S_icmp_eq (pc := 703) (tgt := 1643) dL_law_703 (by decide) ?_ ?_
  · refine S_sub [0, 1, 2, 3] rfl ?_
    exact hk a3 q2.2
  · refine S_iconst (pc := 706) dL_law_706 ic_0 ?_
    exact Sim.fin ⟨dL_law_707, rfl, rfl, x_nar (Or.inl rfl)⟩ rfl
theorem dL_law_708 : decode cL_law 708 = .ok (.aload_n 1, 1) := by decide +kernel
theorem dL_law_709 : decode cL_law 709 = .ok (.aload_n 0, 1) := by decide +kernel
theorem dL_law_710 : decode cL_law 710 = .ok (.iload_n 3, 1) := by decide +kernel
theorem dL_law_711 : decode cL_law 711 = .ok (.iconst 1, 1) := by decide +kernel
theorem dL_law_712 : decode cL_law 712 = .ok (.iadd, 1) := by decide +kernel
theorem dL_law_713 : decode cL_law 713 = .ok (.iaload, 1) := by decide +kernel
theorem dL_law_714 : decode cL_law 714 = .ok (.invokevirtual 75, 3) := by decide +kernel
theorem dL_law_717 : decode cL_law 717 = .ok (.aload_n 2, 1) := by decide +kernel
theorem dL_law_718 : decode cL_law 718 = .ok (.aload_n 0, 1) := by decide +kernel
theorem dL_law_719 : decode cL_law 719 = .ok (.iload_n 3, 1) := by decide +kernel
theorem dL_law_720 : decode cL_law 720 = .ok (.iconst 1, 1) := by decide +kernel
theorem dL_law_721 : decode cL_law 721 = .ok (.iadd, 1) := by decide +kernel
theorem dL_law_722 : decode cL_law 722 = .ok (.iaload, 1) := by decide +kernel
theorem dL_law_723 : decode cL_law 723 = .ok (.invokevirtual 78, 3) := by decide +kernel
theorem dL_law_726 : decode cL_law 726 = .ok (.if_icmp .eq 917, 3) := by decide +kernel
theorem dL_law_729 : decode cL_law 729 = .ok (.iconst 0, 1) := by decide +kernel
theorem dL_law_730 : decode cL_law 730 = .ok (.ireturn, 1) := by decide +kernel
set_option maxRecDepth 20000 in
set_option maxHeartbeats 4000000 in
theorem C_law_14 {nm : String} (K : xK) (L : xL) (k : Int32 → xH → Option (Int32 × xH)) (a0 a1 a2 : Nat) (hk : ∀ (a3 : Int32) (h : xH), Sim K L cL_law RL nm 4 8 (fun q : Int32 × xH => q.2) (xRz cL_law) 1643 [(0, .ref a0), (1, .ref a1), (2, .ref a2), (3, .int a3)] [] h (k a3 h)) (a3 : Int32) (h : xH) : Sim K L cL_law RL nm 4 8 (fun q : Int32 × xH => q.2) (xRz cL_law) 708 [(0, .ref a0), (1, .ref a1), (2, .ref a2), (3, .int a3)] [] h (f_law_c14 k a0 a1 a2 a3 h) := by
  unfold f_law_c14
  refine S_aload_n (pc := 708) 1 rfl dL_law_708 rfl ?_
  refine S_aload_n (pc := 709) 0 rfl dL_law_709 rfl ?_
  refine S_iload_n (pc := 710) 3 rfl dL_law_710 rfl ?_
  refine S_iconst (pc := 711) dL_law_711 ic_1 ?_
  refine S_iadd (pc := 712) dL_law_712 ?_
  refine S_aI (pc := 713) dL_law_713 (fun v1 => ?_)
  refine S_call_i (pc := 714) (rest := []) (fun q hq => (x_if hq).elim (fun z => R_V (av := [.int v1]) (q := (RX11, TX11, 12)) (M_X11_bits _ a1 v1 h z.2) z.1 rfl wd_532 wd_529 wd_530 wd_44 wd_531 ⟨rfl, hd_X11_bits⟩ ⟨Nat.le_of_ble_eq_true rfl, Nat.le_of_ble_eq_true rfl⟩ rfl (Nat.le_of_ble_eq_true rfl) dL_law_714) (fun hq => (by cases hq))) (fun _ h => absurd h List.not_mem_nil) (fun q2 => ?_)
  refine S_aload_n (pc := 717) 2 rfl dL_law_717 rfl ?_
  refine S_aload_n (pc := 718) 0 rfl dL_law_718 rfl ?_
  refine S_iload_n (pc := 719) 3 rfl dL_law_719 rfl ?_
  refine S_iconst (pc := 720) dL_law_720 ic_1 ?_
  refine S_iadd (pc := 721) dL_law_721 ?_
  refine S_aI (pc := 722) dL_law_722 (fun v3 => ?_)
  refine S_call_i (pc := 723) (rest := [.int q2.1]) (fun q hq => (x_if hq).elim (fun z => R_V (av := [.int v3]) (q := (RX12, TX12, 28)) (M_X12_bits _ a2 v3 q2.2 z.2) z.1 rfl wd_1054 wd_1051 wd_1052 wd_50 wd_1053 ⟨rfl, hd_X12_bits⟩ ⟨Nat.le_of_ble_eq_true rfl, Nat.le_of_ble_eq_true rfl⟩ rfl (Nat.le_of_ble_eq_true rfl) dL_law_723) (fun hq => (by cases hq))) (fun _ h => List.mem_cons_of_mem _ (List.mem_cons_of_mem _ (h))) (fun q4 => ?_)
  refine S_icmp_eq (pc := 726) (tgt := 1643) dL_law_726 (by decide) ?_ ?_
  · refine S_sub [0, 1, 2, 3] rfl ?_
    exact hk a3 q4.2
  · refine S_iconst (pc := 729) dL_law_729 ic_0 ?_
    exact Sim.fin ⟨dL_law_730, rfl, rfl, x_nar (Or.inl rfl)⟩ rfl
theorem dL_law_731 : decode cL_law 731 = .ok (.aload_n 1, 1) := by decide +kernel
theorem dL_law_732 : decode cL_law 732 = .ok (.aload_n 0, 1) := by decide +kernel
theorem dL_law_733 : decode cL_law 733 = .ok (.iload_n 3, 1) := by decide +kernel
theorem dL_law_734 : decode cL_law 734 = .ok (.iconst 1, 1) := by decide +kernel
theorem dL_law_735 : decode cL_law 735 = .ok (.iadd, 1) := by decide +kernel
theorem dL_law_736 : decode cL_law 736 = .ok (.iaload, 1) := by decide +kernel
theorem dL_law_737 : decode cL_law 737 = .ok (.aload_n 0, 1) := by decide +kernel
theorem dL_law_738 : decode cL_law 738 = .ok (.iload_n 3, 1) := by decide +kernel
theorem dL_law_739 : decode cL_law 739 = .ok (.iconst 2, 1) := by decide +kernel
theorem dL_law_740 : decode cL_law 740 = .ok (.iadd, 1) := by decide +kernel
theorem dL_law_741 : decode cL_law 741 = .ok (.iaload, 1) := by decide +kernel
theorem dL_law_742 : decode cL_law 742 = .ok (.invokevirtual 79, 3) := by decide +kernel
theorem dL_law_745 : decode cL_law 745 = .ok (.aload_n 2, 1) := by decide +kernel
theorem dL_law_746 : decode cL_law 746 = .ok (.aload_n 0, 1) := by decide +kernel
theorem dL_law_747 : decode cL_law 747 = .ok (.iload_n 3, 1) := by decide +kernel
theorem dL_law_748 : decode cL_law 748 = .ok (.iconst 1, 1) := by decide +kernel
theorem dL_law_749 : decode cL_law 749 = .ok (.iadd, 1) := by decide +kernel
theorem dL_law_750 : decode cL_law 750 = .ok (.iaload, 1) := by decide +kernel
theorem dL_law_751 : decode cL_law 751 = .ok (.aload_n 0, 1) := by decide +kernel
theorem dL_law_752 : decode cL_law 752 = .ok (.iload_n 3, 1) := by decide +kernel
theorem dL_law_753 : decode cL_law 753 = .ok (.iconst 2, 1) := by decide +kernel
theorem dL_law_754 : decode cL_law 754 = .ok (.iadd, 1) := by decide +kernel
theorem dL_law_755 : decode cL_law 755 = .ok (.iaload, 1) := by decide +kernel
theorem dL_law_756 : decode cL_law 756 = .ok (.invokevirtual 82, 3) := by decide +kernel
theorem dL_law_759 : decode cL_law 759 = .ok (.if_icmp .eq 884, 3) := by decide +kernel
theorem dL_law_762 : decode cL_law 762 = .ok (.iconst 0, 1) := by decide +kernel
theorem dL_law_763 : decode cL_law 763 = .ok (.ireturn, 1) := by decide +kernel
set_option maxRecDepth 20000 in
set_option maxHeartbeats 4000000 in
theorem C_law_15 {nm : String} (K : xK) (L : xL) (k : Int32 → xH → Option (Int32 × xH)) (a0 a1 a2 : Nat) (hk : ∀ (a3 : Int32) (h : xH), Sim K L cL_law RL nm 4 8 (fun q : Int32 × xH => q.2) (xRz cL_law) 1643 [(0, .ref a0), (1, .ref a1), (2, .ref a2), (3, .int a3)] [] h (k a3 h)) (a3 : Int32) (h : xH) : Sim K L cL_law RL nm 4 8 (fun q : Int32 × xH => q.2) (xRz cL_law) 731 [(0, .ref a0), (1, .ref a1), (2, .ref a2), (3, .int a3)] [] h (f_law_c15 k a0 a1 a2 a3 h) := by
  unfold f_law_c15
  refine S_aload_n (pc := 731) 1 rfl dL_law_731 rfl ?_
  refine S_aload_n (pc := 732) 0 rfl dL_law_732 rfl ?_
  refine S_iload_n (pc := 733) 3 rfl dL_law_733 rfl ?_
  refine S_iconst (pc := 734) dL_law_734 ic_1 ?_
  refine S_iadd (pc := 735) dL_law_735 ?_
  refine S_aI (pc := 736) dL_law_736 (fun v1 => ?_)
  refine S_aload_n (pc := 737) 0 rfl dL_law_737 rfl ?_
  refine S_iload_n (pc := 738) 3 rfl dL_law_738 rfl ?_
  refine S_iconst (pc := 739) dL_law_739 ic_2 ?_
  refine S_iadd (pc := 740) dL_law_740 ?_
  refine S_aI (pc := 741) dL_law_741 (fun v2 => ?_)
  refine S_call_i (pc := 742) (rest := []) (fun q hq => (x_if hq).elim (fun z => R_V (av := [.int v1, .int v2]) (q := (RX11, TX11, 12)) (M_X11_get _ a1 v1 v2 h z.2) z.1 rfl wd_536 wd_533 wd_534 wd_44 wd_535 ⟨rfl, hd_X11_get⟩ ⟨Nat.le_of_ble_eq_true rfl, Nat.le_of_ble_eq_true rfl⟩ rfl (Nat.le_of_ble_eq_true rfl) dL_law_742) (fun hq => (by cases hq))) (fun _ h => absurd h List.not_mem_nil) (fun q3 => ?_)
  refine S_aload_n (pc := 745) 2 rfl dL_law_745 rfl ?_
  refine S_aload_n (pc := 746) 0 rfl dL_law_746 rfl ?_
  refine S_iload_n (pc := 747) 3 rfl dL_law_747 rfl ?_
  refine S_iconst (pc := 748) dL_law_748 ic_1 ?_
  refine S_iadd (pc := 749) dL_law_749 ?_
  refine S_aI (pc := 750) dL_law_750 (fun v4 => ?_)
  refine S_aload_n (pc := 751) 0 rfl dL_law_751 rfl ?_
  refine S_iload_n (pc := 752) 3 rfl dL_law_752 rfl ?_
  refine S_iconst (pc := 753) dL_law_753 ic_2 ?_
  refine S_iadd (pc := 754) dL_law_754 ?_
  refine S_aI (pc := 755) dL_law_755 (fun v5 => ?_)
  refine S_call_i (pc := 756) (rest := [.int q3.1]) (fun q hq => (x_if hq).elim (fun z => R_V (av := [.int v4, .int v5]) (q := (RX12, TX12, 28)) (M_X12_get _ a2 v4 v5 q3.2 z.2) z.1 rfl wd_1058 wd_1055 wd_1056 wd_50 wd_1057 ⟨rfl, hd_X12_get⟩ ⟨Nat.le_of_ble_eq_true rfl, Nat.le_of_ble_eq_true rfl⟩ rfl (Nat.le_of_ble_eq_true rfl) dL_law_756) (fun hq => (by cases hq))) (fun _ h => List.mem_cons_of_mem _ (List.mem_cons_of_mem _ (List.mem_cons_of_mem _ (h)))) (fun q6 => ?_)
  refine S_icmp_eq (pc := 759) (tgt := 1643) dL_law_759 (by decide) ?_ ?_
  · refine S_sub [0, 1, 2, 3] rfl ?_
    exact hk a3 q6.2
  · refine S_iconst (pc := 762) dL_law_762 ic_0 ?_
    exact Sim.fin ⟨dL_law_763, rfl, rfl, x_nar (Or.inl rfl)⟩ rfl
theorem dL_law_764 : decode cL_law 764 = .ok (.aload_n 1, 1) := by decide +kernel
theorem dL_law_765 : decode cL_law 765 = .ok (.aload_n 0, 1) := by decide +kernel
theorem dL_law_766 : decode cL_law 766 = .ok (.iload_n 3, 1) := by decide +kernel
theorem dL_law_767 : decode cL_law 767 = .ok (.iconst 1, 1) := by decide +kernel
theorem dL_law_768 : decode cL_law 768 = .ok (.iadd, 1) := by decide +kernel
theorem dL_law_769 : decode cL_law 769 = .ok (.iaload, 1) := by decide +kernel
theorem dL_law_770 : decode cL_law 770 = .ok (.invokevirtual 83, 3) := by decide +kernel
theorem dL_law_773 : decode cL_law 773 = .ok (.aload_n 2, 1) := by decide +kernel
theorem dL_law_774 : decode cL_law 774 = .ok (.aload_n 0, 1) := by decide +kernel
theorem dL_law_775 : decode cL_law 775 = .ok (.iload_n 3, 1) := by decide +kernel
theorem dL_law_776 : decode cL_law 776 = .ok (.iconst 1, 1) := by decide +kernel
theorem dL_law_777 : decode cL_law 777 = .ok (.iadd, 1) := by decide +kernel
theorem dL_law_778 : decode cL_law 778 = .ok (.iaload, 1) := by decide +kernel
theorem dL_law_779 : decode cL_law 779 = .ok (.invokevirtual 86, 3) := by decide +kernel
theorem dL_law_782 : decode cL_law 782 = .ok (.if_icmp .eq 861, 3) := by decide +kernel
theorem dL_law_785 : decode cL_law 785 = .ok (.iconst 0, 1) := by decide +kernel
theorem dL_law_786 : decode cL_law 786 = .ok (.ireturn, 1) := by decide +kernel
set_option maxRecDepth 20000 in
set_option maxHeartbeats 4000000 in
theorem C_law_16 {nm : String} (K : xK) (L : xL) (k : Int32 → xH → Option (Int32 × xH)) (a0 a1 a2 : Nat) (hk : ∀ (a3 : Int32) (h : xH), Sim K L cL_law RL nm 4 8 (fun q : Int32 × xH => q.2) (xRz cL_law) 1643 [(0, .ref a0), (1, .ref a1), (2, .ref a2), (3, .int a3)] [] h (k a3 h)) (a3 : Int32) (h : xH) : Sim K L cL_law RL nm 4 8 (fun q : Int32 × xH => q.2) (xRz cL_law) 764 [(0, .ref a0), (1, .ref a1), (2, .ref a2), (3, .int a3)] [] h (f_law_c16 k a0 a1 a2 a3 h) := by
  unfold f_law_c16
  refine S_aload_n (pc := 764) 1 rfl dL_law_764 rfl ?_
  refine S_aload_n (pc := 765) 0 rfl dL_law_765 rfl ?_
  refine S_iload_n (pc := 766) 3 rfl dL_law_766 rfl ?_
  refine S_iconst (pc := 767) dL_law_767 ic_1 ?_
  refine S_iadd (pc := 768) dL_law_768 ?_
  refine S_aI (pc := 769) dL_law_769 (fun v1 => ?_)
  refine S_call_i (pc := 770) (rest := []) (fun q hq => (x_if hq).elim (fun z => R_V (av := [.int v1]) (q := (RX11, TX11, 12)) (M_X11_ones _ a1 v1 h z.2) z.1 rfl wd_540 wd_537 wd_538 wd_44 wd_539 ⟨rfl, hd_X11_ones⟩ ⟨Nat.le_of_ble_eq_true rfl, Nat.le_of_ble_eq_true rfl⟩ rfl (Nat.le_of_ble_eq_true rfl) dL_law_770) (fun hq => (by cases hq))) (fun _ h => absurd h List.not_mem_nil) (fun q2 => ?_)
  refine S_aload_n (pc := 773) 2 rfl dL_law_773 rfl ?_
  refine S_aload_n (pc := 774) 0 rfl dL_law_774 rfl ?_
  refine S_iload_n (pc := 775) 3 rfl dL_law_775 rfl ?_
  refine S_iconst (pc := 776) dL_law_776 ic_1 ?_
  refine S_iadd (pc := 777) dL_law_777 ?_
  refine S_aI (pc := 778) dL_law_778 (fun v3 => ?_)
  refine S_call_i (pc := 779) (rest := [.int q2.1]) (fun q hq => (x_if hq).elim (fun z => R_V (av := [.int v3]) (q := (RX12, TX12, 28)) (M_X12_ones _ a2 v3 q2.2 z.2) z.1 rfl wd_1062 wd_1059 wd_1060 wd_50 wd_1061 ⟨rfl, hd_X12_ones⟩ ⟨Nat.le_of_ble_eq_true rfl, Nat.le_of_ble_eq_true rfl⟩ rfl (Nat.le_of_ble_eq_true rfl) dL_law_779) (fun hq => (by cases hq))) (fun _ h => List.mem_cons_of_mem _ (List.mem_cons_of_mem _ (h))) (fun q4 => ?_)
  refine S_icmp_eq (pc := 782) (tgt := 1643) dL_law_782 (by decide) ?_ ?_
  · refine S_sub [0, 1, 2, 3] rfl ?_
    exact hk a3 q4.2
  · refine S_iconst (pc := 785) dL_law_785 ic_0 ?_
    exact Sim.fin ⟨dL_law_786, rfl, rfl, x_nar (Or.inl rfl)⟩ rfl
theorem dL_law_787 : decode cL_law 787 = .ok (.aload_n 1, 1) := by decide +kernel
theorem dL_law_788 : decode cL_law 788 = .ok (.aload_n 0, 1) := by decide +kernel
theorem dL_law_789 : decode cL_law 789 = .ok (.iload_n 3, 1) := by decide +kernel
theorem dL_law_790 : decode cL_law 790 = .ok (.iconst 1, 1) := by decide +kernel
theorem dL_law_791 : decode cL_law 791 = .ok (.iadd, 1) := by decide +kernel
theorem dL_law_792 : decode cL_law 792 = .ok (.iaload, 1) := by decide +kernel
theorem dL_law_793 : decode cL_law 793 = .ok (.aload_n 0, 1) := by decide +kernel
theorem dL_law_794 : decode cL_law 794 = .ok (.iload_n 3, 1) := by decide +kernel
theorem dL_law_795 : decode cL_law 795 = .ok (.iconst 2, 1) := by decide +kernel
theorem dL_law_796 : decode cL_law 796 = .ok (.iadd, 1) := by decide +kernel
theorem dL_law_797 : decode cL_law 797 = .ok (.iaload, 1) := by decide +kernel
theorem dL_law_798 : decode cL_law 798 = .ok (.aload_n 0, 1) := by decide +kernel
theorem dL_law_799 : decode cL_law 799 = .ok (.iload_n 3, 1) := by decide +kernel
theorem dL_law_800 : decode cL_law 800 = .ok (.iconst 3, 1) := by decide +kernel
theorem dL_law_801 : decode cL_law 801 = .ok (.iadd, 1) := by decide +kernel
theorem dL_law_802 : decode cL_law 802 = .ok (.iaload, 1) := by decide +kernel
theorem dL_law_803 : decode cL_law 803 = .ok (.invokevirtual 87, 3) := by decide +kernel
theorem dL_law_806 : decode cL_law 806 = .ok (.aload_n 2, 1) := by decide +kernel
theorem dL_law_807 : decode cL_law 807 = .ok (.aload_n 0, 1) := by decide +kernel
theorem dL_law_808 : decode cL_law 808 = .ok (.iload_n 3, 1) := by decide +kernel
theorem dL_law_809 : decode cL_law 809 = .ok (.iconst 1, 1) := by decide +kernel
theorem dL_law_810 : decode cL_law 810 = .ok (.iadd, 1) := by decide +kernel
theorem dL_law_811 : decode cL_law 811 = .ok (.iaload, 1) := by decide +kernel
theorem dL_law_812 : decode cL_law 812 = .ok (.aload_n 0, 1) := by decide +kernel
theorem dL_law_813 : decode cL_law 813 = .ok (.iload_n 3, 1) := by decide +kernel
theorem dL_law_814 : decode cL_law 814 = .ok (.iconst 2, 1) := by decide +kernel
theorem dL_law_815 : decode cL_law 815 = .ok (.iadd, 1) := by decide +kernel
theorem dL_law_816 : decode cL_law 816 = .ok (.iaload, 1) := by decide +kernel
theorem dL_law_817 : decode cL_law 817 = .ok (.aload_n 0, 1) := by decide +kernel
theorem dL_law_818 : decode cL_law 818 = .ok (.iload_n 3, 1) := by decide +kernel
theorem dL_law_819 : decode cL_law 819 = .ok (.iconst 3, 1) := by decide +kernel
theorem dL_law_820 : decode cL_law 820 = .ok (.iadd, 1) := by decide +kernel
theorem dL_law_821 : decode cL_law 821 = .ok (.iaload, 1) := by decide +kernel
theorem dL_law_822 : decode cL_law 822 = .ok (.invokevirtual 90, 3) := by decide +kernel
theorem dL_law_825 : decode cL_law 825 = .ok (.if_icmp .eq 818, 3) := by decide +kernel
theorem dL_law_828 : decode cL_law 828 = .ok (.iconst 0, 1) := by decide +kernel
theorem dL_law_829 : decode cL_law 829 = .ok (.ireturn, 1) := by decide +kernel
set_option maxRecDepth 20000 in
set_option maxHeartbeats 4000000 in
theorem C_law_17 {nm : String} (K : xK) (L : xL) (k : Int32 → xH → Option (Int32 × xH)) (a0 a1 a2 : Nat) (hk : ∀ (a3 : Int32) (h : xH), Sim K L cL_law RL nm 4 8 (fun q : Int32 × xH => q.2) (xRz cL_law) 1643 [(0, .ref a0), (1, .ref a1), (2, .ref a2), (3, .int a3)] [] h (k a3 h)) (a3 : Int32) (h : xH) : Sim K L cL_law RL nm 4 8 (fun q : Int32 × xH => q.2) (xRz cL_law) 787 [(0, .ref a0), (1, .ref a1), (2, .ref a2), (3, .int a3)] [] h (f_law_c17 k a0 a1 a2 a3 h) := by
  unfold f_law_c17
  refine S_aload_n (pc := 787) 1 rfl dL_law_787 rfl ?_
  refine S_aload_n (pc := 788) 0 rfl dL_law_788 rfl ?_
  refine S_iload_n (pc := 789) 3 rfl dL_law_789 rfl ?_
  refine S_iconst (pc := 790) dL_law_790 ic_1 ?_
  refine S_iadd (pc := 791) dL_law_791 ?_
  refine S_aI (pc := 792) dL_law_792 (fun v1 => ?_)
  refine S_aload_n (pc := 793) 0 rfl dL_law_793 rfl ?_
  refine S_iload_n (pc := 794) 3 rfl dL_law_794 rfl ?_
  refine S_iconst (pc := 795) dL_law_795 ic_2 ?_
  refine S_iadd (pc := 796) dL_law_796 ?_
  refine S_aI (pc := 797) dL_law_797 (fun v2 => ?_)
  refine S_aload_n (pc := 798) 0 rfl dL_law_798 rfl ?_
  refine S_iload_n (pc := 799) 3 rfl dL_law_799 rfl ?_
  refine S_iconst (pc := 800) dL_law_800 ic_3 ?_
  refine S_iadd (pc := 801) dL_law_801 ?_
  refine S_aI (pc := 802) dL_law_802 (fun v3 => ?_)
  refine S_call_i (pc := 803) (rest := []) (fun q hq => (x_if hq).elim (fun z => R_V (av := [.int v1, .int v2, .int v3]) (q := (RX11, TX11, 12)) (M_X11_block _ a1 v1 v2 v3 h z.2) z.1 rfl wd_544 wd_541 wd_542 wd_44 wd_543 ⟨rfl, hd_X11_block⟩ ⟨Nat.le_of_ble_eq_true rfl, Nat.le_of_ble_eq_true rfl⟩ rfl (Nat.le_of_ble_eq_true rfl) dL_law_803) (fun hq => (by cases hq))) (fun _ h => absurd h List.not_mem_nil) (fun q4 => ?_)
  refine S_aload_n (pc := 806) 2 rfl dL_law_806 rfl ?_
  refine S_aload_n (pc := 807) 0 rfl dL_law_807 rfl ?_
  refine S_iload_n (pc := 808) 3 rfl dL_law_808 rfl ?_
  refine S_iconst (pc := 809) dL_law_809 ic_1 ?_
  refine S_iadd (pc := 810) dL_law_810 ?_
  refine S_aI (pc := 811) dL_law_811 (fun v5 => ?_)
  refine S_aload_n (pc := 812) 0 rfl dL_law_812 rfl ?_
  refine S_iload_n (pc := 813) 3 rfl dL_law_813 rfl ?_
  refine S_iconst (pc := 814) dL_law_814 ic_2 ?_
  refine S_iadd (pc := 815) dL_law_815 ?_
  refine S_aI (pc := 816) dL_law_816 (fun v6 => ?_)
  refine S_aload_n (pc := 817) 0 rfl dL_law_817 rfl ?_
  refine S_iload_n (pc := 818) 3 rfl dL_law_818 rfl ?_
  refine S_iconst (pc := 819) dL_law_819 ic_3 ?_
  refine S_iadd (pc := 820) dL_law_820 ?_
  refine S_aI (pc := 821) dL_law_821 (fun v7 => ?_)
  refine S_call_i (pc := 822) (rest := [.int q4.1]) (fun q hq => (x_if hq).elim (fun z => R_V (av := [.int v5, .int v6, .int v7]) (q := (RX12, TX12, 28)) (M_X12_block _ a2 v5 v6 v7 q4.2 z.2) z.1 rfl wd_1066 wd_1063 wd_1064 wd_50 wd_1065 ⟨rfl, hd_X12_block⟩ ⟨Nat.le_of_ble_eq_true rfl, Nat.le_of_ble_eq_true rfl⟩ rfl (Nat.le_of_ble_eq_true rfl) dL_law_822) (fun hq => (by cases hq))) (fun _ h => List.mem_cons_of_mem _ (List.mem_cons_of_mem _ (List.mem_cons_of_mem _ (List.mem_cons_of_mem _ (h))))) (fun q8 => ?_)
  refine S_icmp_eq (pc := 825) (tgt := 1643) dL_law_825 (by decide) ?_ ?_
  · refine S_sub [0, 1, 2, 3] rfl ?_
    exact hk a3 q8.2
  · refine S_iconst (pc := 828) dL_law_828 ic_0 ?_
    exact Sim.fin ⟨dL_law_829, rfl, rfl, x_nar (Or.inl rfl)⟩ rfl
theorem dL_law_830 : decode cL_law 830 = .ok (.aload_n 1, 1) := by decide +kernel
theorem dL_law_831 : decode cL_law 831 = .ok (.aload_n 0, 1) := by decide +kernel
theorem dL_law_832 : decode cL_law 832 = .ok (.iload_n 3, 1) := by decide +kernel
theorem dL_law_833 : decode cL_law 833 = .ok (.iconst 1, 1) := by decide +kernel
theorem dL_law_834 : decode cL_law 834 = .ok (.iadd, 1) := by decide +kernel
theorem dL_law_835 : decode cL_law 835 = .ok (.iaload, 1) := by decide +kernel
theorem dL_law_836 : decode cL_law 836 = .ok (.aload_n 0, 1) := by decide +kernel
theorem dL_law_837 : decode cL_law 837 = .ok (.iload_n 3, 1) := by decide +kernel
theorem dL_law_838 : decode cL_law 838 = .ok (.iconst 2, 1) := by decide +kernel
theorem dL_law_839 : decode cL_law 839 = .ok (.iadd, 1) := by decide +kernel
theorem dL_law_840 : decode cL_law 840 = .ok (.iaload, 1) := by decide +kernel
theorem dL_law_841 : decode cL_law 841 = .ok (.aload_n 0, 1) := by decide +kernel
theorem dL_law_842 : decode cL_law 842 = .ok (.iload_n 3, 1) := by decide +kernel
theorem dL_law_843 : decode cL_law 843 = .ok (.iconst 3, 1) := by decide +kernel
theorem dL_law_844 : decode cL_law 844 = .ok (.iadd, 1) := by decide +kernel
theorem dL_law_845 : decode cL_law 845 = .ok (.iaload, 1) := by decide +kernel
theorem dL_law_846 : decode cL_law 846 = .ok (.invokevirtual 91, 3) := by decide +kernel
theorem dL_law_849 : decode cL_law 849 = .ok (.aload_n 2, 1) := by decide +kernel
theorem dL_law_850 : decode cL_law 850 = .ok (.aload_n 0, 1) := by decide +kernel
theorem dL_law_851 : decode cL_law 851 = .ok (.iload_n 3, 1) := by decide +kernel
theorem dL_law_852 : decode cL_law 852 = .ok (.iconst 1, 1) := by decide +kernel
theorem dL_law_853 : decode cL_law 853 = .ok (.iadd, 1) := by decide +kernel
theorem dL_law_854 : decode cL_law 854 = .ok (.iaload, 1) := by decide +kernel
theorem dL_law_855 : decode cL_law 855 = .ok (.aload_n 0, 1) := by decide +kernel
theorem dL_law_856 : decode cL_law 856 = .ok (.iload_n 3, 1) := by decide +kernel
theorem dL_law_857 : decode cL_law 857 = .ok (.iconst 2, 1) := by decide +kernel
theorem dL_law_858 : decode cL_law 858 = .ok (.iadd, 1) := by decide +kernel
theorem dL_law_859 : decode cL_law 859 = .ok (.iaload, 1) := by decide +kernel
theorem dL_law_860 : decode cL_law 860 = .ok (.aload_n 0, 1) := by decide +kernel
theorem dL_law_861 : decode cL_law 861 = .ok (.iload_n 3, 1) := by decide +kernel
theorem dL_law_862 : decode cL_law 862 = .ok (.iconst 3, 1) := by decide +kernel
theorem dL_law_863 : decode cL_law 863 = .ok (.iadd, 1) := by decide +kernel
theorem dL_law_864 : decode cL_law 864 = .ok (.iaload, 1) := by decide +kernel
theorem dL_law_865 : decode cL_law 865 = .ok (.invokevirtual 94, 3) := by decide +kernel
theorem dL_law_868 : decode cL_law 868 = .ok (.if_icmp .eq 775, 3) := by decide +kernel
theorem dL_law_871 : decode cL_law 871 = .ok (.iconst 0, 1) := by decide +kernel
theorem dL_law_872 : decode cL_law 872 = .ok (.ireturn, 1) := by decide +kernel
set_option maxRecDepth 20000 in
set_option maxHeartbeats 4000000 in
theorem C_law_18 {nm : String} (K : xK) (L : xL) (k : Int32 → xH → Option (Int32 × xH)) (a0 a1 a2 : Nat) (hk : ∀ (a3 : Int32) (h : xH), Sim K L cL_law RL nm 4 8 (fun q : Int32 × xH => q.2) (xRz cL_law) 1643 [(0, .ref a0), (1, .ref a1), (2, .ref a2), (3, .int a3)] [] h (k a3 h)) (a3 : Int32) (h : xH) : Sim K L cL_law RL nm 4 8 (fun q : Int32 × xH => q.2) (xRz cL_law) 830 [(0, .ref a0), (1, .ref a1), (2, .ref a2), (3, .int a3)] [] h (f_law_c18 k a0 a1 a2 a3 h) := by
  unfold f_law_c18
  refine S_aload_n (pc := 830) 1 rfl dL_law_830 rfl ?_
  refine S_aload_n (pc := 831) 0 rfl dL_law_831 rfl ?_
  refine S_iload_n (pc := 832) 3 rfl dL_law_832 rfl ?_
  refine S_iconst (pc := 833) dL_law_833 ic_1 ?_
  refine S_iadd (pc := 834) dL_law_834 ?_
  refine S_aI (pc := 835) dL_law_835 (fun v1 => ?_)
  refine S_aload_n (pc := 836) 0 rfl dL_law_836 rfl ?_
  refine S_iload_n (pc := 837) 3 rfl dL_law_837 rfl ?_
  refine S_iconst (pc := 838) dL_law_838 ic_2 ?_
  refine S_iadd (pc := 839) dL_law_839 ?_
  refine S_aI (pc := 840) dL_law_840 (fun v2 => ?_)
  refine S_aload_n (pc := 841) 0 rfl dL_law_841 rfl ?_
  refine S_iload_n (pc := 842) 3 rfl dL_law_842 rfl ?_
  refine S_iconst (pc := 843) dL_law_843 ic_3 ?_
  refine S_iadd (pc := 844) dL_law_844 ?_
  refine S_aI (pc := 845) dL_law_845 (fun v3 => ?_)
  refine S_call_i (pc := 846) (rest := []) (fun q hq => (x_if hq).elim (fun z => R_V (av := [.int v1, .int v2, .int v3]) (q := (RX11, TX11, 12)) (M_X11_entry _ a1 v1 v2 v3 h z.2) z.1 rfl wd_572 wd_569 wd_570 wd_44 wd_571 ⟨rfl, hd_X11_entry⟩ ⟨Nat.le_of_ble_eq_true rfl, Nat.le_of_ble_eq_true rfl⟩ rfl (Nat.le_of_ble_eq_true rfl) dL_law_846) (fun hq => (by cases hq))) (fun _ h => absurd h List.not_mem_nil) (fun q4 => ?_)
  refine S_aload_n (pc := 849) 2 rfl dL_law_849 rfl ?_
  refine S_aload_n (pc := 850) 0 rfl dL_law_850 rfl ?_
  refine S_iload_n (pc := 851) 3 rfl dL_law_851 rfl ?_
  refine S_iconst (pc := 852) dL_law_852 ic_1 ?_
  refine S_iadd (pc := 853) dL_law_853 ?_
  refine S_aI (pc := 854) dL_law_854 (fun v5 => ?_)
  refine S_aload_n (pc := 855) 0 rfl dL_law_855 rfl ?_
  refine S_iload_n (pc := 856) 3 rfl dL_law_856 rfl ?_
  refine S_iconst (pc := 857) dL_law_857 ic_2 ?_
  refine S_iadd (pc := 858) dL_law_858 ?_
  refine S_aI (pc := 859) dL_law_859 (fun v6 => ?_)
  refine S_aload_n (pc := 860) 0 rfl dL_law_860 rfl ?_
  refine S_iload_n (pc := 861) 3 rfl dL_law_861 rfl ?_
  refine S_iconst (pc := 862) dL_law_862 ic_3 ?_
  refine S_iadd (pc := 863) dL_law_863 ?_
  refine S_aI (pc := 864) dL_law_864 (fun v7 => ?_)
  refine S_call_i (pc := 865) (rest := [.int q4.1]) (fun q hq => (x_if hq).elim (fun z => R_V (av := [.int v5, .int v6, .int v7]) (q := (RX12, TX12, 28)) (M_X12_entry _ a2 v5 v6 v7 q4.2 z.2) z.1 rfl wd_1088 wd_1085 wd_1086 wd_50 wd_1087 ⟨rfl, hd_X12_entry⟩ ⟨Nat.le_of_ble_eq_true rfl, Nat.le_of_ble_eq_true rfl⟩ rfl (Nat.le_of_ble_eq_true rfl) dL_law_865) (fun hq => (by cases hq))) (fun _ h => List.mem_cons_of_mem _ (List.mem_cons_of_mem _ (List.mem_cons_of_mem _ (List.mem_cons_of_mem _ (h))))) (fun q8 => ?_)
  refine S_icmp_eq (pc := 868) (tgt := 1643) dL_law_868 (by decide) ?_ ?_
  · refine S_sub [0, 1, 2, 3] rfl ?_
    exact hk a3 q8.2
  · refine S_iconst (pc := 871) dL_law_871 ic_0 ?_
    exact Sim.fin ⟨dL_law_872, rfl, rfl, x_nar (Or.inl rfl)⟩ rfl
