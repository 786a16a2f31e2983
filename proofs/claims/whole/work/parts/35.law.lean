theorem dL_law_0 : decode cL_law 0 = .ok (.new 7, 3) := by decide +kernel
theorem dL_law_3 : decode cL_law 3 = .ok (.dup, 1) := by decide +kernel
theorem dL_law_4 : decode cL_law 4 = .ok (.invokespecial 9, 3) := by decide +kernel
theorem dL_law_7 : decode cL_law 7 = .ok (.astore_n 1, 1) := by decide +kernel
theorem dL_law_8 : decode cL_law 8 = .ok (.new 10, 3) := by decide +kernel
theorem dL_law_11 : decode cL_law 11 = .ok (.dup, 1) := by decide +kernel
theorem dL_law_12 : decode cL_law 12 = .ok (.invokespecial 12, 3) := by decide +kernel
theorem dL_law_15 : decode cL_law 15 = .ok (.astore_n 2, 1) := by decide +kernel
theorem dL_law_16 : decode cL_law 16 = .ok (.iconst 0, 1) := by decide +kernel
theorem dL_law_17 : decode cL_law 17 = .ok (.istore_n 3, 1) := by decide +kernel
theorem dL_law_18 : decode cL_law 18 = .ok (.iload_n 3, 1) := by decide +kernel
theorem dL_law_19 : decode cL_law 19 = .ok (.aload_n 0, 1) := by decide +kernel
theorem dL_law_20 : decode cL_law 20 = .ok (.arraylength, 1) := by decide +kernel
theorem dL_law_21 : decode cL_law 21 = .ok (.bipush 6, 2) := by decide +kernel
theorem dL_law_23 : decode cL_law 23 = .ok (.isub, 1) := by decide +kernel
theorem dL_law_24 : decode cL_law 24 = .ok (.if_icmp .gt 1625, 3) := by decide +kernel
theorem dL_law_27 : decode cL_law 27 = .ok (.aload_n 0, 1) := by decide +kernel
theorem dL_law_28 : decode cL_law 28 = .ok (.iload_n 3, 1) := by decide +kernel
theorem dL_law_29 : decode cL_law 29 = .ok (.iaload, 1) := by decide +kernel
theorem dL_law_30 : decode cL_law 30 = .ok (.bipush 63, 2) := by decide +kernel
theorem dL_law_32 : decode cL_law 32 = .ok (.iand, 1) := by decide +kernel
theorem dL_law_33 : decode cL_law 33 = .ok (.tableswitch 1610 0 41 #[183, 226, 269, 332, 355, 378, 401, 414, 457, 500, 533, 586, 609, 662, 675, 698, 731, 754, 797, 840, 873, 907, 940, 963, 996, 1039, 1082, 1125, 1168, 1191, 1234, 1277, 1310, 1363, 1416, 1439, 1462, 1485, 1518, 1551, 1574, 1597], 183) := by decide +kernel
theorem dL_law_1643 : decode cL_law 1643 = .ok (.iinc 3 6, 3) := by decide +kernel
theorem dL_law_1646 : decode cL_law 1646 = .ok (.goto (-1628), 3) := by decide +kernel
theorem dL_law_1649 : decode cL_law 1649 = .ok (.iconst 1, 1) := by decide +kernel
theorem dL_law_1650 : decode cL_law 1650 = .ok (.ireturn, 1) := by decide +kernel
set_option maxRecDepth 20000 in
set_option maxHeartbeats 4000000 in
theorem L_law_18 {nm : String} (K : xK) (L : xL) : ∀ (n : Nat) (a0 a1 a2 : Nat) (a3 : Int32) (h : xH), Sim K L cL_law RL nm 4 8 (fun q : Int32 × xH => q.2) (xRz cL_law) 18 [(0, .ref a0), (1, .ref a1), (2, .ref a2), (3, .int a3)] [] h (f_law_L18 n a0 a1 a2 a3 h) := by
  intro n
  induction n with
  | zero =>
    intro a0 a1 a2 a3 h
    exact Sim.none
  | succ n ih =>
    intro a0 a1 a2 a3 h
    unfold f_law_L18
    have hk : ∀ (a3 : Int32) (h : xH), Sim K L cL_law RL nm 4 8 (fun q : Int32 × xH => q.2) (xRz cL_law) 1643 [(0, .ref a0), (1, .ref a1), (2, .ref a2), (3, .int a3)] [] h ((fun a3 h => f_law_L18 n a0 a1 a2 (a3 + (6 : Int32)) h) a3 h) := by
      intro a3 h
      refine S_iinc (pc := 1643) (v := a3 + (6 : Int32)) 3 rfl dL_law_1643 (x_inc ic_6) (Nat.le_of_ble_eq_true rfl) rfl ?_
      refine S_goto (pc := 1646) (tgt := 18) dL_law_1646 (by decide) ?_
      refine S_sub [1, 2, 3, 0] rfl ?_
      exact ih a0 a1 a2 (a3 + (6 : Int32)) h
    refine S_iload_n (pc := 18) 3 rfl dL_law_18 rfl ?_
    refine S_aload_n (pc := 19) 0 rfl dL_law_19 rfl ?_
    refine S_aL (pc := 20) dL_law_20 (fun v1 => ?_)
    refine S_bipush (pc := 21) dL_law_21 bi_6 ?_
    refine S_isub (pc := 23) dL_law_23 ?_
    refine S_icmp_gt (pc := 24) (tgt := 1649) dL_law_24 (by decide) ?_ ?_
    · refine S_iconst (pc := 1649) dL_law_1649 ic_1 ?_
      exact Sim.fin ⟨dL_law_1650, rfl, rfl, x_nar (Or.inr rfl)⟩ rfl
    refine S_aload_n (pc := 27) 0 rfl dL_law_27 rfl ?_
    refine S_iload_n (pc := 28) 3 rfl dL_law_28 rfl ?_
    refine S_aI (pc := 29) dL_law_29 (fun v2 => ?_)
    refine S_bipush (pc := 30) dL_law_30 bi_63 ?_
    refine S_iand (pc := 32) dL_law_32 ?_
    refine S_tabIn (pc := 33) (v := 0) (tgt := 216) dL_law_33 (by decide) (by decide) rfl (by decide) ?_ (fun hs0 => ?_)
    · exact C_law_0 K L _ a0 a1 a2 hk a3 h
    refine S_tabIn (pc := 33) (v := 1) (tgt := 259) dL_law_33 (by decide) (by decide) rfl (by decide) ?_ (fun hs1 => ?_)
    · exact C_law_1 K L _ a0 a1 a2 hk a3 h
    refine S_tabIn (pc := 33) (v := 2) (tgt := 302) dL_law_33 (by decide) (by decide) rfl (by decide) ?_ (fun hs2 => ?_)
    · exact C_law_2 K L _ a0 a1 a2 hk a3 h
    refine S_tabIn (pc := 33) (v := 3) (tgt := 365) dL_law_33 (by decide) (by decide) rfl (by decide) ?_ (fun hs3 => ?_)
    · exact C_law_3 K L _ a0 a1 a2 hk a3 h
    refine S_tabIn (pc := 33) (v := 4) (tgt := 388) dL_law_33 (by decide) (by decide) rfl (by decide) ?_ (fun hs4 => ?_)
    · exact C_law_4 K L _ a0 a1 a2 hk a3 h
    refine S_tabIn (pc := 33) (v := 5) (tgt := 411) dL_law_33 (by decide) (by decide) rfl (by decide) ?_ (fun hs5 => ?_)
    · exact C_law_5 K L _ a0 a1 a2 hk a3 h
    refine S_tabIn (pc := 33) (v := 6) (tgt := 434) dL_law_33 (by decide) (by decide) rfl (by decide) ?_ (fun hs6 => ?_)
    · exact C_law_6 K L _ a0 a1 a2 hk a3 h
    refine S_tabIn (pc := 33) (v := 7) (tgt := 447) dL_law_33 (by decide) (by decide) rfl (by decide) ?_ (fun hs7 => ?_)
    · exact C_law_7 K L _ a0 a1 a2 hk a3 h
    refine S_tabIn (pc := 33) (v := 8) (tgt := 490) dL_law_33 (by decide) (by decide) rfl (by decide) ?_ (fun hs8 => ?_)
    · exact C_law_8 K L _ a0 a1 a2 hk a3 h
    refine S_tabIn (pc := 33) (v := 9) (tgt := 533) dL_law_33 (by decide) (by decide) rfl (by decide) ?_ (fun hs9 => ?_)
    · exact C_law_9 K L _ a0 a1 a2 hk a3 h
    refine S_tabIn (pc := 33) (v := 10) (tgt := 566) dL_law_33 (by decide) (by decide) rfl (by decide) ?_ (fun hs10 => ?_)
    · exact C_law_10 K L _ a0 a1 a2 hk a3 h
    refine S_tabIn (pc := 33) (v := 11) (tgt := 619) dL_law_33 (by decide) (by decide) rfl (by decide) ?_ (fun hs11 => ?_)
    · exact C_law_11 K L _ a0 a1 a2 hk a3 h
    refine S_tabIn (pc := 33) (v := 12) (tgt := 642) dL_law_33 (by decide) (by decide) rfl (by decide) ?_ (fun hs12 => ?_)
    · exact C_law_12 K L _ a0 a1 a2 hk a3 h
    refine S_tabIn (pc := 33) (v := 13) (tgt := 695) dL_law_33 (by decide) (by decide) rfl (by decide) ?_ (fun hs13 => ?_)
    · exact C_law_13 K L _ a0 a1 a2 hk a3 h
    refine S_tabIn (pc := 33) (v := 14) (tgt := 708) dL_law_33 (by decide) (by decide) rfl (by decide) ?_ (fun hs14 => ?_)
    · exact C_law_14 K L _ a0 a1 a2 hk a3 h
    refine S_tabIn (pc := 33) (v := 15) (tgt := 731) dL_law_33 (by decide) (by decide) rfl (by decide) ?_ (fun hs15 => ?_)
    · exact C_law_15 K L _ a0 a1 a2 hk a3 h
    refine S_tabIn (pc := 33) (v := 16) (tgt := 764) dL_law_33 (by decide) (by decide) rfl (by decide) ?_ (fun hs16 => ?_)
    · exact C_law_16 K L _ a0 a1 a2 hk a3 h
    refine S_tabIn (pc := 33) (v := 17) (tgt := 787) dL_law_33 (by decide) (by decide) rfl (by decide) ?_ (fun hs17 => ?_)
    · exact C_law_17 K L _ a0 a1 a2 hk a3 h
    refine S_tabIn (pc := 33) (v := 18) (tgt := 830) dL_law_33 (by decide) (by decide) rfl (by decide) ?_ (fun hs18 => ?_)
    · exact C_law_18 K L _ a0 a1 a2 hk a3 h
    refine S_tabIn (pc := 33) (v := 19) (tgt := 873) dL_law_33 (by decide) (by decide) rfl (by decide) ?_ (fun hs19 => ?_)
    · exact C_law_19 K L _ a0 a1 a2 hk a3 h
    refine S_tabIn (pc := 33) (v := 20) (tgt := 906) dL_law_33 (by decide) (by decide) rfl (by decide) ?_ (fun hs20 => ?_)
    · exact C_law_20 K L _ a0 a1 a2 hk a3 h
    refine S_tabIn (pc := 33) (v := 21) (tgt := 940) dL_law_33 (by decide) (by decide) rfl (by decide) ?_ (fun hs21 => ?_)
    · exact C_law_21 K L _ a0 a1 a2 hk a3 h
    refine S_tabIn (pc := 33) (v := 22) (tgt := 973) dL_law_33 (by decide) (by decide) rfl (by decide) ?_ (fun hs22 => ?_)
    · exact C_law_22 K L _ a0 a1 a2 hk a3 h
    refine S_tabIn (pc := 33) (v := 23) (tgt := 996) dL_law_33 (by decide) (by decide) rfl (by decide) ?_ (fun hs23 => ?_)
    · exact C_law_23 K L _ a0 a1 a2 hk a3 h
    refine S_tabIn (pc := 33) (v := 24) (tgt := 1029) dL_law_33 (by decide) (by decide) rfl (by decide) ?_ (fun hs24 => ?_)
    · exact C_law_24 K L _ a0 a1 a2 hk a3 h
    refine S_tabIn (pc := 33) (v := 25) (tgt := 1072) dL_law_33 (by decide) (by decide) rfl (by decide) ?_ (fun hs25 => ?_)
    · exact C_law_25 K L _ a0 a1 a2 hk a3 h
    refine S_tabIn (pc := 33) (v := 26) (tgt := 1115) dL_law_33 (by decide) (by decide) rfl (by decide) ?_ (fun hs26 => ?_)
    · exact C_law_26 K L _ a0 a1 a2 hk a3 h
    refine S_tabIn (pc := 33) (v := 27) (tgt := 1158) dL_law_33 (by decide) (by decide) rfl (by decide) ?_ (fun hs27 => ?_)
    · exact C_law_27 K L _ a0 a1 a2 hk a3 h
    refine S_tabIn (pc := 33) (v := 28) (tgt := 1201) dL_law_33 (by decide) (by decide) rfl (by decide) ?_ (fun hs28 => ?_)
    · exact C_law_28 K L _ a0 a1 a2 hk a3 h
    refine S_tabIn (pc := 33) (v := 29) (tgt := 1224) dL_law_33 (by decide) (by decide) rfl (by decide) ?_ (fun hs29 => ?_)
    · exact C_law_29 K L _ a0 a1 a2 hk a3 h
    refine S_tabIn (pc := 33) (v := 30) (tgt := 1267) dL_law_33 (by decide) (by decide) rfl (by decide) ?_ (fun hs30 => ?_)
    · exact C_law_30 K L _ a0 a1 a2 hk a3 h
    refine S_tabIn (pc := 33) (v := 31) (tgt := 1310) dL_law_33 (by decide) (by decide) rfl (by decide) ?_ (fun hs31 => ?_)
    · exact C_law_31 K L _ a0 a1 a2 hk a3 h
    refine S_tabIn (pc := 33) (v := 32) (tgt := 1343) dL_law_33 (by decide) (by decide) rfl (by decide) ?_ (fun hs32 => ?_)
    · exact C_law_32 K L _ a0 a1 a2 hk a3 h
    refine S_tabIn (pc := 33) (v := 33) (tgt := 1396) dL_law_33 (by decide) (by decide) rfl (by decide) ?_ (fun hs33 => ?_)
    · exact C_law_33 K L _ a0 a1 a2 hk a3 h
    refine S_tabIn (pc := 33) (v := 34) (tgt := 1449) dL_law_33 (by decide) (by decide) rfl (by decide) ?_ (fun hs34 => ?_)
    · exact C_law_34 K L _ a0 a1 a2 hk a3 h
    refine S_tabIn (pc := 33) (v := 35) (tgt := 1472) dL_law_33 (by decide) (by decide) rfl (by decide) ?_ (fun hs35 => ?_)
    · exact C_law_35 K L _ a0 a1 a2 hk a3 h
    refine S_tabIn (pc := 33) (v := 36) (tgt := 1495) dL_law_33 (by decide) (by decide) rfl (by decide) ?_ (fun hs36 => ?_)
    · exact C_law_36 K L _ a0 a1 a2 hk a3 h
    refine S_tabIn (pc := 33) (v := 37) (tgt := 1518) dL_law_33 (by decide) (by decide) rfl (by decide) ?_ (fun hs37 => ?_)
    · exact C_law_37 K L _ a0 a1 a2 hk a3 h
    refine S_tabIn (pc := 33) (v := 38) (tgt := 1551) dL_law_33 (by decide) (by decide) rfl (by decide) ?_ (fun hs38 => ?_)
    · exact C_law_38 K L _ a0 a1 a2 hk a3 h
    refine S_tabIn (pc := 33) (v := 39) (tgt := 1584) dL_law_33 (by decide) (by decide) rfl (by decide) ?_ (fun hs39 => ?_)
    · exact C_law_39 K L _ a0 a1 a2 hk a3 h
    refine S_tabIn (pc := 33) (v := 40) (tgt := 1607) dL_law_33 (by decide) (by decide) rfl (by decide) ?_ (fun hs40 => ?_)
    · exact C_law_40 K L _ a0 a1 a2 hk a3 h
    refine S_tabIn (pc := 33) (v := 41) (tgt := 1630) dL_law_33 (by decide) (by decide) rfl (by decide) ?_ (fun hs41 => ?_)
    · exact C_law_41 K L _ a0 a1 a2 hk a3 h
    refine S_tabOut (pc := 33) (tgt := 1643) dL_law_33 (by have := lv_neT hs0 (show (0 : Int32).toInt = 0 from by decide); have := lv_neT hs1 (show (1 : Int32).toInt = 1 from by decide); have := lv_neT hs2 (show (2 : Int32).toInt = 2 from by decide); have := lv_neT hs3 (show (3 : Int32).toInt = 3 from by decide); have := lv_neT hs4 (show (4 : Int32).toInt = 4 from by decide); have := lv_neT hs5 (show (5 : Int32).toInt = 5 from by decide); have := lv_neT hs6 (show (6 : Int32).toInt = 6 from by decide); have := lv_neT hs7 (show (7 : Int32).toInt = 7 from by decide); have := lv_neT hs8 (show (8 : Int32).toInt = 8 from by decide); have := lv_neT hs9 (show (9 : Int32).toInt = 9 from by decide); have := lv_neT hs10 (show (10 : Int32).toInt = 10 from by decide); have := lv_neT hs11 (show (11 : Int32).toInt = 11 from by decide); have := lv_neT hs12 (show (12 : Int32).toInt = 12 from by decide); have := lv_neT hs13 (show (13 : Int32).toInt = 13 from by decide); have := lv_neT hs14 (show (14 : Int32).toInt = 14 from by decide); have := lv_neT hs15 (show (15 : Int32).toInt = 15 from by decide); have := lv_neT hs16 (show (16 : Int32).toInt = 16 from by decide); have := lv_neT hs17 (show (17 : Int32).toInt = 17 from by decide); have := lv_neT hs18 (show (18 : Int32).toInt = 18 from by decide); have := lv_neT hs19 (show (19 : Int32).toInt = 19 from by decide); have := lv_neT hs20 (show (20 : Int32).toInt = 20 from by decide); have := lv_neT hs21 (show (21 : Int32).toInt = 21 from by decide); have := lv_neT hs22 (show (22 : Int32).toInt = 22 from by decide); have := lv_neT hs23 (show (23 : Int32).toInt = 23 from by decide); have := lv_neT hs24 (show (24 : Int32).toInt = 24 from by decide); have := lv_neT hs25 (show (25 : Int32).toInt = 25 from by decide); have := lv_neT hs26 (show (26 : Int32).toInt = 26 from by decide); have := lv_neT hs27 (show (27 : Int32).toInt = 27 from by decide); have := lv_neT hs28 (show (28 : Int32).toInt = 28 from by decide); have := lv_neT hs29 (show (29 : Int32).toInt = 29 from by decide); have := lv_neT hs30 (show (30 : Int32).toInt = 30 from by decide); have := lv_neT hs31 (show (31 : Int32).toInt = 31 from by decide); have := lv_neT hs32 (show (32 : Int32).toInt = 32 from by decide); have := lv_neT hs33 (show (33 : Int32).toInt = 33 from by decide); have := lv_neT hs34 (show (34 : Int32).toInt = 34 from by decide); have := lv_neT hs35 (show (35 : Int32).toInt = 35 from by decide); have := lv_neT hs36 (show (36 : Int32).toInt = 36 from by decide); have := lv_neT hs37 (show (37 : Int32).toInt = 37 from by decide); have := lv_neT hs38 (show (38 : Int32).toInt = 38 from by decide); have := lv_neT hs39 (show (39 : Int32).toInt = 39 from by decide); have := lv_neT hs40 (show (40 : Int32).toInt = 40 from by decide); have := lv_neT hs41 (show (41 : Int32).toInt = 41 from by decide); omega) (by decide) ?_
    exact hk a3 h
set_option maxRecDepth 20000 in
set_option maxHeartbeats 4000000 in
theorem W_law {nm : String} (K : xK) (L : xL) (a0 : Nat) (h : xH) : Sim K L cL_law RL nm 4 8 (fun q : Int32 × xH => q.2) (xRz cL_law) 0 [(0, .ref a0)] [] h (f_law a0 h) := by
  unfold f_law
  refine S_new (pc := 0) (ci := 10) (fs := [.null, .null, .null, .null, .null, .null, .null, .null, .null, .int 0, .int 0, .int 0]) rfl inG11 tyX11_ok wd_61 wd_62 wd_44 nf_10 rfl (fun _ => rfl) nc_10 dL_law_0 ?_
  refine S_dup (pc := 3) rfl dL_law_3 ?_
  refine S_call_v (pc := 4) (rest := [.ref h.length]) (fun q hq => R_I (av := []) (M_X11_init _ h.length (h ++ [.inr (10, [.null, .null, .null, .null, .null, .null, .null, .null, .null, .int 0, .int 0, .int 0])]) hq) wd_65 wd_63 wd_64 wd_44 rfl hd_X11_init ⟨Nat.le_of_ble_eq_true rfl, Nat.le_of_ble_eq_true rfl⟩ rfl (Nat.le_of_ble_eq_true rfl) dL_law_4) (fun _ h => List.mem_cons_of_mem _ (h)) (fun q1 => ?_)
  refine S_astore_n (pc := 7) dL_law_7 rfl (Nat.le_of_ble_eq_true rfl) rfl ?_
  refine S_new (pc := 8) (ci := 11) (fs := [.null, .null, .null, .null, .int 0, .null, .int 0, .int 0, .int 0, .int 0, .int 0, .int 0, .int 0, .null, .null, .null, .int 0, .null, .null, .int 0, .null, .null, .int 0, .null, .null, .null, .null, .int 0]) rfl inG12 tyX12_ok wd_801 wd_802 wd_50 nf_11 rfl (fun _ => rfl) nc_11 dL_law_8 ?_
  refine S_dup (pc := 11) rfl dL_law_11 ?_
  refine S_call_v (pc := 12) (rest := [.ref q1.length]) (fun q hq => R_I (av := []) (M_X12_init _ q1.length (q1 ++ [.inr (11, [.null, .null, .null, .null, .int 0, .null, .int 0, .int 0, .int 0, .int 0, .int 0, .int 0, .int 0, .null, .null, .null, .int 0, .null, .null, .int 0, .null, .null, .int 0, .null, .null, .null, .null, .int 0])]) hq) wd_805 wd_803 wd_804 wd_50 rfl hd_X12_init ⟨Nat.le_of_ble_eq_true rfl, Nat.le_of_ble_eq_true rfl⟩ rfl (Nat.le_of_ble_eq_true rfl) dL_law_12) (fun _ h => List.mem_cons_of_mem _ (h)) (fun q2 => ?_)
  refine S_astore_n (pc := 15) dL_law_15 rfl (Nat.le_of_ble_eq_true rfl) rfl ?_
  refine S_iconst (pc := 16) dL_law_16 ic_0 ?_
  refine S_istore_n (pc := 17) dL_law_17 rfl (Nat.le_of_ble_eq_true rfl) rfl ?_
  refine S_sub [3, 2, 1, 0] rfl ?_
  exact L_law_18 K L xN a0 h.length q1.length (0 : Int32) q2
