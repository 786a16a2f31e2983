theorem dX11_longest_0 : decode cX11_longest 0 = .ok (.iload_n 1, 1) := by decide +kernel
theorem dX11_longest_1 : decode cX11_longest 1 = .ok (.invokestatic 113, 3) := by decide +kernel
theorem dX11_longest_4 : decode cX11_longest 4 = .ok (.ifCond .eq 19, 3) := by decide +kernel
theorem dX11_longest_7 : decode cX11_longest 7 = .ok (.iload_n 2, 1) := by decide +kernel
theorem dX11_longest_8 : decode cX11_longest 8 = .ok (.invokestatic 149, 3) := by decide +kernel
theorem dX11_longest_11 : decode cX11_longest 11 = .ok (.ifCond .eq 12, 3) := by decide +kernel
theorem dX11_longest_14 : decode cX11_longest 14 = .ok (.iload_n 3, 1) := by decide +kernel
theorem dX11_longest_15 : decode cX11_longest 15 = .ok (.ifCond .lt 8, 3) := by decide +kernel
theorem dX11_longest_18 : decode cX11_longest 18 = .ok (.iload_n 3, 1) := by decide +kernel
theorem dX11_longest_19 : decode cX11_longest 19 = .ok (.iconst 1, 1) := by decide +kernel
theorem dX11_longest_20 : decode cX11_longest 20 = .ok (.if_icmp .le 6, 3) := by decide +kernel
theorem dX11_longest_23 : decode cX11_longest 23 = .ok (.ldc 65, 2) := by decide +kernel
theorem dX11_longest_25 : decode cX11_longest 25 = .ok (.ireturn, 1) := by decide +kernel
theorem dX11_longest_26 : decode cX11_longest 26 = .ok (.aload_n 0, 1) := by decide +kernel
theorem dX11_longest_27 : decode cX11_longest 27 = .ok (.getfield 17, 3) := by decide +kernel
theorem dX11_longest_30 : decode cX11_longest 30 = .ok (.iload_n 1, 1) := by decide +kernel
theorem dX11_longest_31 : decode cX11_longest 31 = .ok (.aaload, 1) := by decide +kernel
theorem dX11_longest_32 : decode cX11_longest 32 = .ok (.astore 4, 2) := by decide +kernel
theorem dX11_longest_34 : decode cX11_longest 34 = .ok (.iconst 0, 1) := by decide +kernel
theorem dX11_longest_35 : decode cX11_longest 35 = .ok (.istore 5, 2) := by decide +kernel
theorem dX11_longest_37 : decode cX11_longest 37 = .ok (.ldc 227, 2) := by decide +kernel
theorem dX11_longest_39 : decode cX11_longest 39 = .ok (.istore 6, 2) := by decide +kernel
theorem dX11_longest_41 : decode cX11_longest 41 = .ok (.iconst 0, 1) := by decide +kernel
theorem dX11_longest_42 : decode cX11_longest 42 = .ok (.istore 7, 2) := by decide +kernel
theorem dX11_longest_44 : decode cX11_longest 44 = .ok (.iconst 0, 1) := by decide +kernel
theorem dX11_longest_45 : decode cX11_longest 45 = .ok (.istore 8, 2) := by decide +kernel
theorem dX11_longest_47 : decode cX11_longest 47 = .ok (.iload 8, 2) := by decide +kernel
theorem dX11_longest_49 : decode cX11_longest 49 = .ok (.aload 4, 2) := by decide +kernel
theorem dX11_longest_51 : decode cX11_longest 51 = .ok (.getfield 148, 3) := by decide +kernel
theorem dX11_longest_54 : decode cX11_longest 54 = .ok (.if_icmp .ge 50, 3) := by decide +kernel
theorem dX11_longest_57 : decode cX11_longest 57 = .ok (.aload 4, 2) := by decide +kernel
theorem dX11_longest_59 : decode cX11_longest 59 = .ok (.iload 8, 2) := by decide +kernel
theorem dX11_longest_61 : decode cX11_longest 61 = .ok (.invokevirtual 152, 3) := by decide +kernel
theorem dX11_longest_64 : decode cX11_longest 64 = .ok (.iload_n 2, 1) := by decide +kernel
theorem dX11_longest_65 : decode cX11_longest 65 = .ok (.if_icmp .ne 10, 3) := by decide +kernel
theorem dX11_longest_68 : decode cX11_longest 68 = .ok (.iload 7, 2) := by decide +kernel
theorem dX11_longest_70 : decode cX11_longest 70 = .ok (.iconst 1, 1) := by decide +kernel
theorem dX11_longest_71 : decode cX11_longest 71 = .ok (.iadd, 1) := by decide +kernel
theorem dX11_longest_72 : decode cX11_longest 72 = .ok (.goto 4, 3) := by decide +kernel
theorem dX11_longest_75 : decode cX11_longest 75 = .ok (.iconst 0, 1) := by decide +kernel
theorem dX11_longest_76 : decode cX11_longest 76 = .ok (.istore 7, 2) := by decide +kernel
theorem dX11_longest_78 : decode cX11_longest 78 = .ok (.iload 7, 2) := by decide +kernel
theorem dX11_longest_80 : decode cX11_longest 80 = .ok (.iload 5, 2) := by decide +kernel
theorem dX11_longest_82 : decode cX11_longest 82 = .ok (.if_icmp .le 16, 3) := by decide +kernel
theorem dX11_longest_85 : decode cX11_longest 85 = .ok (.iload 7, 2) := by decide +kernel
theorem dX11_longest_87 : decode cX11_longest 87 = .ok (.istore 5, 2) := by decide +kernel
theorem dX11_longest_89 : decode cX11_longest 89 = .ok (.iload 8, 2) := by decide +kernel
theorem dX11_longest_91 : decode cX11_longest 91 = .ok (.iconst 1, 1) := by decide +kernel
theorem dX11_longest_92 : decode cX11_longest 92 = .ok (.iadd, 1) := by decide +kernel
theorem dX11_longest_93 : decode cX11_longest 93 = .ok (.iload 7, 2) := by decide +kernel
theorem dX11_longest_95 : decode cX11_longest 95 = .ok (.isub, 1) := by decide +kernel
theorem dX11_longest_96 : decode cX11_longest 96 = .ok (.istore 6, 2) := by decide +kernel
theorem dX11_longest_98 : decode cX11_longest 98 = .ok (.iinc 8 1, 3) := by decide +kernel
theorem dX11_longest_101 : decode cX11_longest 101 = .ok (.goto (-54), 3) := by decide +kernel
theorem dX11_longest_104 : decode cX11_longest 104 = .ok (.iload_n 3, 1) := by decide +kernel
theorem dX11_longest_105 : decode cX11_longest 105 = .ok (.ifCond .ne 8, 3) := by decide +kernel
theorem dX11_longest_108 : decode cX11_longest 108 = .ok (.iload 5, 2) := by decide +kernel
theorem dX11_longest_110 : decode cX11_longest 110 = .ok (.goto 5, 3) := by decide +kernel
theorem dX11_longest_113 : decode cX11_longest 113 = .ok (.iload 6, 2) := by decide +kernel
theorem dX11_longest_115 : decode cX11_longest 115 = .ok (.ireturn, 1) := by decide +kernel
set_option maxRecDepth 20000 in
set_option maxHeartbeats 4000000 in
theorem L_X11_longest_47 (K : xK) (L : xL) : ∀ (n : Nat) (a2 : Int32) (a3 : Int32) (a4 : Nat) (a5 : Int32) (a6 : Int32) (a7 : Int32) (a8 : Int32) (h : xH), Sim K L cX11_longest RX11 "longest" 9 1 (fun q : Int32 × Int32 × Int32 × Int32 × xH => q.2.2.2.2) (fun q pc' ls' st' h' => pc' = 104 ∧ ls' = [(2, .int a2), (3, .int a3), (4, .ref a4), (5, .int q.1), (6, .int q.2.1), (7, .int q.2.2.1), (8, .int q.2.2.2.1)] ∧ st' = [] ∧ h' = q.2.2.2.2) 47 [(2, .int a2), (3, .int a3), (4, .ref a4), (5, .int a5), (6, .int a6), (7, .int a7), (8, .int a8)] [] h (f_X11_longest_L47 n a2 a3 a4 a5 a6 a7 a8 h) := by
  intro n
  induction n with
  | zero =>
    intro a2 a3 a4 a5 a6 a7 a8 h
    exact Sim.none
  | succ n ih =>
    intro a2 a3 a4 a5 a6 a7 a8 h
    unfold f_X11_longest_L47
    refine S_iload (pc := 47) 6 rfl dX11_longest_47 ?_
    refine S_aload (pc := 49) 2 rfl dX11_longest_49 ?_
    refine S_getI (pc := 51) fd_X1_length wd_81 dX11_longest_51 (fun v5 => ?_)
    refine S_icmp_ge (pc := 54) (tgt := 104) dX11_longest_54 (by decide) ?_ ?_
    · refine S_sub [0, 1, 2, 3, 4, 5, 6] rfl ?_
      exact Sim.fin ⟨rfl, rfl, rfl, rfl⟩ rfl
    · refine S_aload (pc := 57) 2 rfl dX11_longest_57 ?_
      refine S_iload (pc := 59) 6 rfl dX11_longest_59 ?_
      refine S_call_i (pc := 61) (rest := []) (fun q hq => (x_if hq).elim (fun z => R_V (av := [.int a8]) (q := (RX1, TX1, 2)) (M_X1_bitAt _ a4 a8 h z.2) z.1 rfl wd_454 wd_451 wd_452 wd_45 wd_453 ⟨rfl, hd_X1_bitAt⟩ ⟨Nat.le_of_ble_eq_true rfl, Nat.le_of_ble_eq_true rfl⟩ rfl (Nat.le_of_ble_eq_true rfl) dX11_longest_61) (fun hq => (by cases hq))) (fun _ h => absurd h List.not_mem_nil) (fun q6 => ?_)
      refine S_iload_n (pc := 64) 0 rfl dX11_longest_64 rfl ?_
      refine Sim.cut (pc' := 76) (st' := [.int (if q6.1 = a2 then a7 + (1 : Int32) else (0 : Int32))]) ?_ (fun kc => ?_)
      · refine S_istore (pc := 76) dX11_longest_76 (Nat.le_of_ble_eq_true rfl) rfl ?_
        refine S_iload (pc := 78) 0 rfl dX11_longest_78 ?_
        refine S_iload (pc := 80) 4 rfl dX11_longest_80 ?_
        refine S_icmp_le (pc := 82) (tgt := 98) dX11_longest_82 (by decide) ?_ ?_
        · refine S_iinc (pc := 98) (v := a8 + (1 : Int32)) 6 rfl dX11_longest_98 (x_inc ic_1) (Nat.le_of_ble_eq_true rfl) rfl ?_
          refine S_goto (pc := 101) (tgt := 47) dX11_longest_101 (by decide) ?_
          refine S_sub [2, 3, 4, 5, 6, 1, 0] rfl ?_
          exact ih a2 a3 a4 a5 a6 (if q6.1 = a2 then a7 + (1 : Int32) else (0 : Int32)) (a8 + (1 : Int32)) q6.2
        · refine S_iload (pc := 85) 0 rfl dX11_longest_85 ?_
          refine S_istore (pc := 87) dX11_longest_87 (Nat.le_of_ble_eq_true rfl) rfl ?_
          refine S_iload (pc := 89) 6 rfl dX11_longest_89 ?_
          refine S_iconst (pc := 91) dX11_longest_91 ic_1 ?_
          refine S_iadd (pc := 92) dX11_longest_92 ?_
          refine S_iload (pc := 93) 1 rfl dX11_longest_93 ?_
          refine S_isub (pc := 95) dX11_longest_95 ?_
          refine S_istore (pc := 96) dX11_longest_96 (Nat.le_of_ble_eq_true rfl) rfl ?_
          refine S_iinc (pc := 98) (v := a8 + (1 : Int32)) 6 rfl dX11_longest_98 (x_inc ic_1) (Nat.le_of_ble_eq_true rfl) rfl ?_
          refine S_goto (pc := 101) (tgt := 47) dX11_longest_101 (by decide) ?_
          refine S_sub [4, 5, 6, 2, 1, 3, 0] rfl ?_
          exact ih a2 a3 a4 (if q6.1 = a2 then a7 + (1 : Int32) else (0 : Int32)) ((a8 + (1 : Int32)) - (if q6.1 = a2 then a7 + (1 : Int32) else (0 : Int32))) (if q6.1 = a2 then a7 + (1 : Int32) else (0 : Int32)) (a8 + (1 : Int32)) q6.2
      · refine D_icmp_ne (pc := 65) (tgt := 75) dX11_longest_65 (by decide) (fun c7 => ?_) (fun c7 => ?_)
        · refine S_iload (pc := 68) 5 rfl dX11_longest_68 ?_
          refine S_iconst (pc := 70) dX11_longest_70 ic_1 ?_
          refine S_iadd (pc := 71) dX11_longest_71 ?_
          refine S_goto (pc := 72) (tgt := 76) dX11_longest_72 (by decide) ?_
          exact x_st (by rw [if_pos c7]) kc
        · refine S_iconst (pc := 75) dX11_longest_75 ic_0 ?_
          exact x_st (by rw [if_neg c7]) kc
set_option maxRecDepth 20000 in
set_option maxHeartbeats 4000000 in
theorem W_X11_longest (K : xK) (L : xL) (a0 : Nat) (a1 : Int32) (a2 : Int32) (a3 : Int32) (h : xH) : Sim K L cX11_longest RX11 "longest" 9 1 (fun q : Int32 × xH => q.2) (xRi cX11_longest) 0 [(0, .ref a0), (1, .int a1), (2, .int a2), (3, .int a3)] [] h (f_X11_longest a0 a1 a2 a3 h) := by
  unfold f_X11_longest
  refine S_iload_n (pc := 0) 1 rfl dX11_longest_0 rfl ?_
  refine S_call_i (pc := 1) (rest := []) (fun q hq => R_S (av := [.int a1]) (M_X11_isVector _ a1 h hq) wd_293 wd_291 wd_292 wd_44 hd_X11_isVector ⟨Nat.le_of_ble_eq_true rfl, Nat.le_of_ble_eq_true rfl⟩ rfl (Nat.le_of_ble_eq_true rfl) dX11_longest_1) (fun _ h => absurd h List.not_mem_nil) (fun q1 => ?_)
  refine S_if_eq (pc := 4) (tgt := 23) dX11_longest_4 (by decide) ?_ ?_
  · refine S_ldc (pc := 23) wd_233 dX11_longest_23 ?_
    exact Sim.fin ⟨dX11_longest_25, rfl, rfl⟩ rfl
  · refine S_iload_n (pc := 7) 2 rfl dX11_longest_7 rfl ?_
    refine S_call_i (pc := 8) (rest := []) (fun q hq => R_S (av := [.int a2]) (M_X11_isValue _ a2 q1.2 hq) wd_450 wd_448 wd_449 wd_44 hd_X11_isValue ⟨Nat.le_of_ble_eq_true rfl, Nat.le_of_ble_eq_true rfl⟩ rfl (Nat.le_of_ble_eq_true rfl) dX11_longest_8) (fun _ h => absurd h List.not_mem_nil) (fun q2 => ?_)
    refine S_if_eq (pc := 11) (tgt := 23) dX11_longest_11 (by decide) ?_ ?_
    · refine S_ldc (pc := 23) wd_233 dX11_longest_23 ?_
      exact Sim.fin ⟨dX11_longest_25, rfl, rfl⟩ rfl
    · refine S_iload_n (pc := 14) 3 rfl dX11_longest_14 rfl ?_
      refine S_if_lt (pc := 15) (tgt := 23) dX11_longest_15 (by decide) ?_ ?_
      · refine S_ldc (pc := 23) wd_233 dX11_longest_23 ?_
        exact Sim.fin ⟨dX11_longest_25, rfl, rfl⟩ rfl
      · refine S_iload_n (pc := 18) 3 rfl dX11_longest_18 rfl ?_
        refine S_iconst (pc := 19) dX11_longest_19 ic_1 ?_
        refine S_icmp_le (pc := 20) (tgt := 26) dX11_longest_20 (by decide) ?_ ?_
        · refine S_aload_n (pc := 26) 0 rfl dX11_longest_26 rfl ?_
          refine S_getR (pc := 27) fd_X11_vectors wd_190 dX11_longest_27 (fun v3 => ?_)
          refine S_iload_n (pc := 30) 1 rfl dX11_longest_30 rfl ?_
          refine S_aR (pc := 31) (fun _ => rfl) dX11_longest_31 (fun v4 => ?_)
          refine S_astore (pc := 32) dX11_longest_32 (Nat.le_of_ble_eq_true rfl) rfl ?_
          refine S_iconst (pc := 34) dX11_longest_34 ic_0 ?_
          refine S_istore (pc := 35) dX11_longest_35 (Nat.le_of_ble_eq_true rfl) rfl ?_
          refine S_ldc (pc := 37) wd_625 dX11_longest_37 ?_
          refine S_istore (pc := 39) dX11_longest_39 (Nat.le_of_ble_eq_true rfl) rfl ?_
          refine S_iconst (pc := 41) dX11_longest_41 ic_0 ?_
          refine S_istore (pc := 42) dX11_longest_42 (Nat.le_of_ble_eq_true rfl) rfl ?_
          refine S_iconst (pc := 44) dX11_longest_44 ic_0 ?_
          refine S_istore (pc := 45) dX11_longest_45 (Nat.le_of_ble_eq_true rfl) rfl ?_
          refine S_sub [7, 8, 4, 3, 2, 1, 0] rfl ?_
          refine Sim.bind (hs := fun q8 : Int32 × Int32 × Int32 × Int32 × xH => q8.2.2.2.2) (px := 104) (lsx := fun q8 => [(2, .int a2), (3, .int a3), (4, .ref v4), (5, .int q8.1), (6, .int q8.2.1), (7, .int q8.2.2.1), (8, .int q8.2.2.2.1)]) (L_X11_longest_47 K L xN a2 a3 v4 (0 : Int32) (-1000000 : Int32) (0 : Int32) (0 : Int32) q2.2) (fun q8 => ?_)
          refine S_iload_n (pc := 104) 1 rfl dX11_longest_104 rfl ?_
          refine S_if_ne (pc := 105) (tgt := 113) dX11_longest_105 (by decide) ?_ ?_
          · refine S_iload (pc := 108) 3 rfl dX11_longest_108 ?_
            refine S_goto (pc := 110) (tgt := 115) dX11_longest_110 (by decide) ?_
            exact Sim.fin ⟨dX11_longest_115, rfl, rfl⟩ rfl
          · refine S_iload (pc := 113) 4 rfl dX11_longest_113 ?_
            exact Sim.fin ⟨dX11_longest_115, rfl, rfl⟩ rfl
        · refine S_ldc (pc := 23) wd_233 dX11_longest_23 ?_
          exact Sim.fin ⟨dX11_longest_25, rfl, rfl⟩ rfl
theorem M_X11_longest (l : Launch) (a0 : Nat) (a1 : Int32) (a2 : Int32) (a3 : Int32) (h : xH) {q : Int32 × xH} (hq : f_X11_longest a0 a1 a2 a3 h = some q) : xM l yX11_longest cX11_longest 9 (some .int) 1 [.ref a0, .int a1, .int a2, .int a3] h (some (.int q.1)) q.2 := xM_i (by decide +kernel) (Nat.le_of_ble_eq_true rfl) (fun K L => W_X11_longest K L a0 a1 a2 a3 h) hq
theorem dX11_maskOf_0 : decode cX11_maskOf 0 = .ok (.iconst 0, 1) := by decide +kernel
theorem dX11_maskOf_1 : decode cX11_maskOf 1 = .ok (.istore_n 2, 1) := by decide +kernel
theorem dX11_maskOf_2 : decode cX11_maskOf 2 = .ok (.iload_n 0, 1) := by decide +kernel
theorem dX11_maskOf_3 : decode cX11_maskOf 3 = .ok (.istore_n 3, 1) := by decide +kernel
theorem dX11_maskOf_4 : decode cX11_maskOf 4 = .ok (.iload_n 1, 1) := by decide +kernel
theorem dX11_maskOf_5 : decode cX11_maskOf 5 = .ok (.istore 4, 2) := by decide +kernel
theorem dX11_maskOf_7 : decode cX11_maskOf 7 = .ok (.bipush 14, 2) := by decide +kernel
theorem dX11_maskOf_9 : decode cX11_maskOf 9 = .ok (.istore 5, 2) := by decide +kernel
theorem dX11_maskOf_11 : decode cX11_maskOf 11 = .ok (.iload 5, 2) := by decide +kernel
theorem dX11_maskOf_13 : decode cX11_maskOf 13 = .ok (.ifCond .lt 45, 3) := by decide +kernel
theorem dX11_maskOf_16 : decode cX11_maskOf 16 = .ok (.iload_n 3, 1) := by decide +kernel
theorem dX11_maskOf_17 : decode cX11_maskOf 17 = .ok (.ifCond .le 35, 3) := by decide +kernel
theorem dX11_maskOf_20 : decode cX11_maskOf 20 = .ok (.iload 4, 2) := by decide +kernel
theorem dX11_maskOf_22 : decode cX11_maskOf 22 = .ok (.iload 5, 2) := by decide +kernel
theorem dX11_maskOf_24 : decode cX11_maskOf 24 = .ok (.iload_n 3, 1) := by decide +kernel
theorem dX11_maskOf_25 : decode cX11_maskOf 25 = .ok (.invokestatic 217, 3) := by decide +kernel
theorem dX11_maskOf_28 : decode cX11_maskOf 28 = .ok (.if_icmp .lt 24, 3) := by decide +kernel
theorem dX11_maskOf_31 : decode cX11_maskOf 31 = .ok (.iload 4, 2) := by decide +kernel
theorem dX11_maskOf_33 : decode cX11_maskOf 33 = .ok (.iload 5, 2) := by decide +kernel
theorem dX11_maskOf_35 : decode cX11_maskOf 35 = .ok (.iload_n 3, 1) := by decide +kernel
theorem dX11_maskOf_36 : decode cX11_maskOf 36 = .ok (.invokestatic 217, 3) := by decide +kernel
theorem dX11_maskOf_39 : decode cX11_maskOf 39 = .ok (.isub, 1) := by decide +kernel
theorem dX11_maskOf_40 : decode cX11_maskOf 40 = .ok (.istore 4, 2) := by decide +kernel
theorem dX11_maskOf_42 : decode cX11_maskOf 42 = .ok (.iinc 3 (-1), 3) := by decide +kernel
theorem dX11_maskOf_45 : decode cX11_maskOf 45 = .ok (.iload_n 2, 1) := by decide +kernel
theorem dX11_maskOf_46 : decode cX11_maskOf 46 = .ok (.iconst 1, 1) := by decide +kernel
theorem dX11_maskOf_47 : decode cX11_maskOf 47 = .ok (.iload 5, 2) := by decide +kernel
theorem dX11_maskOf_49 : decode cX11_maskOf 49 = .ok (.ishl, 1) := by decide +kernel
theorem dX11_maskOf_50 : decode cX11_maskOf 50 = .ok (.ior, 1) := by decide +kernel
theorem dX11_maskOf_51 : decode cX11_maskOf 51 = .ok (.istore_n 2, 1) := by decide +kernel
theorem dX11_maskOf_52 : decode cX11_maskOf 52 = .ok (.iinc 5 (-1), 3) := by decide +kernel
theorem dX11_maskOf_55 : decode cX11_maskOf 55 = .ok (.goto (-44), 3) := by decide +kernel
theorem dX11_maskOf_58 : decode cX11_maskOf 58 = .ok (.iload_n 2, 1) := by decide +kernel
theorem dX11_maskOf_59 : decode cX11_maskOf 59 = .ok (.ireturn, 1) := by decide +kernel
set_option maxRecDepth 20000 in
set_option maxHeartbeats 4000000 in
theorem L_X11_maskOf_11 (K : xK) (L : xL) : ∀ (n : Nat) (a2 : Int32) (a3 : Int32) (a4 : Int32) (a5 : Int32) (h : xH), Sim K L cX11_maskOf RX11 "maskOf" 6 1 (fun q : Int32 × Int32 × Int32 × Int32 × xH => q.2.2.2.2) (fun q pc' ls' st' h' => pc' = 58 ∧ ls' = [(2, .int q.1), (3, .int q.2.1), (4, .int q.2.2.1), (5, .int q.2.2.2.1)] ∧ st' = [] ∧ h' = q.2.2.2.2) 11 [(2, .int a2), (3, .int a3), (4, .int a4), (5, .int a5)] [] h (f_X11_maskOf_L11 n a2 a3 a4 a5 h) := by
  intro n
  induction n with
  | zero =>
    intro a2 a3 a4 a5 h
    exact Sim.none
  | succ n ih =>
    intro a2 a3 a4 a5 h
    unfold f_X11_maskOf_L11
    refine S_iload (pc := 11) 3 rfl dX11_maskOf_11 ?_
    refine S_if_lt (pc := 13) (tgt := 58) dX11_maskOf_13 (by decide) ?_ ?_
    · refine S_sub [0, 1, 2, 3] rfl ?_
      exact Sim.fin ⟨rfl, rfl, rfl, rfl⟩ rfl
    · refine S_iload_n (pc := 16) 1 rfl dX11_maskOf_16 rfl ?_
      refine S_if_le (pc := 17) (tgt := 52) dX11_maskOf_17 (by decide) ?_ ?_
      · refine S_iinc (pc := 52) (v := a5 + (-1 : Int32)) 3 rfl dX11_maskOf_52 (x_inc ic_m1) (Nat.le_of_ble_eq_true rfl) rfl ?_
        refine S_goto (pc := 55) (tgt := 11) dX11_maskOf_55 (by decide) ?_
        refine S_sub [1, 2, 3, 0] rfl ?_
        exact ih a2 a3 a4 (a5 + (-1 : Int32)) h
      · refine S_iload (pc := 20) 2 rfl dX11_maskOf_20 ?_
        refine S_iload (pc := 22) 3 rfl dX11_maskOf_22 ?_
        refine S_iload_n (pc := 24) 1 rfl dX11_maskOf_24 rfl ?_
        refine S_call_i (pc := 25) (rest := [.int a4]) (fun q hq => R_S (av := [.int a5, .int a3]) (M_X11_choices _ a5 a3 h hq) wd_558 wd_556 wd_557 wd_44 hd_X11_choices ⟨Nat.le_of_ble_eq_true rfl, Nat.le_of_ble_eq_true rfl⟩ rfl (Nat.le_of_ble_eq_true rfl) dX11_maskOf_25) (fun _ h => List.mem_cons_of_mem _ (List.mem_cons_of_mem _ (h))) (fun q1 => ?_)
        refine S_icmp_lt (pc := 28) (tgt := 52) dX11_maskOf_28 (by decide) ?_ ?_
        · refine S_iinc (pc := 52) (v := a5 + (-1 : Int32)) 3 rfl dX11_maskOf_52 (x_inc ic_m1) (Nat.le_of_ble_eq_true rfl) rfl ?_
          refine S_goto (pc := 55) (tgt := 11) dX11_maskOf_55 (by decide) ?_
          refine S_sub [1, 2, 3, 0] rfl ?_
          exact ih a2 a3 a4 (a5 + (-1 : Int32)) q1.2
        · refine S_iload (pc := 31) 2 rfl dX11_maskOf_31 ?_
          refine S_iload (pc := 33) 3 rfl dX11_maskOf_33 ?_
          refine S_iload_n (pc := 35) 1 rfl dX11_maskOf_35 rfl ?_
          refine S_call_i (pc := 36) (rest := [.int a4]) (fun q hq => R_S (av := [.int a5, .int a3]) (M_X11_choices _ a5 a3 q1.2 hq) wd_558 wd_556 wd_557 wd_44 hd_X11_choices ⟨Nat.le_of_ble_eq_true rfl, Nat.le_of_ble_eq_true rfl⟩ rfl (Nat.le_of_ble_eq_true rfl) dX11_maskOf_36) (fun _ h => List.mem_cons_of_mem _ (List.mem_cons_of_mem _ (h))) (fun q2 => ?_)
          refine S_isub (pc := 39) dX11_maskOf_39 ?_
          refine S_istore (pc := 40) dX11_maskOf_40 (Nat.le_of_ble_eq_true rfl) rfl ?_
          refine S_iinc (pc := 42) (v := a3 + (-1 : Int32)) 2 rfl dX11_maskOf_42 (x_inc ic_m1) (Nat.le_of_ble_eq_true rfl) rfl ?_
          refine S_iload_n (pc := 45) 2 rfl dX11_maskOf_45 rfl ?_
          refine S_iconst (pc := 46) dX11_maskOf_46 ic_1 ?_
          refine S_iload (pc := 47) 3 rfl dX11_maskOf_47 ?_
          refine S_ishl (pc := 49) dX11_maskOf_49 ?_
          refine S_ior (pc := 50) dX11_maskOf_50 ?_
          refine S_istore_n (pc := 51) dX11_maskOf_51 rfl (Nat.le_of_ble_eq_true rfl) rfl ?_
          refine S_iinc (pc := 52) (v := a5 + (-1 : Int32)) 3 rfl dX11_maskOf_52 (x_inc ic_m1) (Nat.le_of_ble_eq_true rfl) rfl ?_
          refine S_goto (pc := 55) (tgt := 11) dX11_maskOf_55 (by decide) ?_
          refine S_sub [1, 2, 3, 0] rfl ?_
          exact ih (a2 ||| ((1 : Int32) <<< (a5 &&& 31))) (a3 + (-1 : Int32)) (a4 - q2.1) (a5 + (-1 : Int32)) q2.2
set_option maxRecDepth 20000 in
set_option maxHeartbeats 4000000 in
theorem W_X11_maskOf (K : xK) (L : xL) (a0 : Int32) (a1 : Int32) (h : xH) : Sim K L cX11_maskOf RX11 "maskOf" 6 1 (fun q : Int32 × xH => q.2) (xRi cX11_maskOf) 0 [(0, .int a0), (1, .int a1)] [] h (f_X11_maskOf a0 a1 h) := by
  unfold f_X11_maskOf
  refine S_iconst (pc := 0) dX11_maskOf_0 ic_0 ?_
  refine S_istore_n (pc := 1) dX11_maskOf_1 rfl (Nat.le_of_ble_eq_true rfl) rfl ?_
  refine S_iload_n (pc := 2) 1 rfl dX11_maskOf_2 rfl ?_
  refine S_istore_n (pc := 3) dX11_maskOf_3 rfl (Nat.le_of_ble_eq_true rfl) rfl ?_
  refine S_iload_n (pc := 4) 3 rfl dX11_maskOf_4 rfl ?_
  refine S_istore (pc := 5) dX11_maskOf_5 (Nat.le_of_ble_eq_true rfl) rfl ?_
  refine S_bipush (pc := 7) dX11_maskOf_7 bi_14 ?_
  refine S_istore (pc := 9) dX11_maskOf_9 (Nat.le_of_ble_eq_true rfl) rfl ?_
  refine S_sub [3, 2, 1, 0] rfl ?_
  refine Sim.bind (hs := fun q3 : Int32 × Int32 × Int32 × Int32 × xH => q3.2.2.2.2) (px := 58) (lsx := fun q3 => [(2, .int q3.1), (3, .int q3.2.1), (4, .int q3.2.2.1), (5, .int q3.2.2.2.1)]) (L_X11_maskOf_11 K L xN (0 : Int32) a0 a1 (14 : Int32) h) (fun q3 => ?_)
  refine S_iload_n (pc := 58) 0 rfl dX11_maskOf_58 rfl ?_
  exact Sim.fin ⟨dX11_maskOf_59, rfl, rfl⟩ rfl
theorem M_X11_maskOf (l : Launch) (a0 : Int32) (a1 : Int32) (h : xH) {q : Int32 × xH} (hq : f_X11_maskOf a0 a1 h = some q) : xM l yX11_maskOf cX11_maskOf 6 (some .int) 1 [.int a0, .int a1] h (some (.int q.1)) q.2 := xM_i (by decide +kernel) (Nat.le_of_ble_eq_true rfl) (fun K L => W_X11_maskOf K L a0 a1 h) hq
theorem dX11_mask_0 : decode cX11_mask 0 = .ok (.iload_n 1, 1) := by decide +kernel
theorem dX11_mask_1 : decode cX11_mask 1 = .ok (.ifCond .lt 23, 3) := by decide +kernel
theorem dX11_mask_4 : decode cX11_mask 4 = .ok (.iload_n 1, 1) := by decide +kernel
theorem dX11_mask_5 : decode cX11_mask 5 = .ok (.bipush 15, 2) := by decide +kernel
theorem dX11_mask_7 : decode cX11_mask 7 = .ok (.if_icmp .gt 17, 3) := by decide +kernel
theorem dX11_mask_10 : decode cX11_mask 10 = .ok (.iload_n 2, 1) := by decide +kernel
theorem dX11_mask_11 : decode cX11_mask 11 = .ok (.ifCond .lt 13, 3) := by decide +kernel
theorem dX11_mask_14 : decode cX11_mask 14 = .ok (.iload_n 2, 1) := by decide +kernel
theorem dX11_mask_15 : decode cX11_mask 15 = .ok (.bipush 15, 2) := by decide +kernel
theorem dX11_mask_17 : decode cX11_mask 17 = .ok (.iload_n 1, 1) := by decide +kernel
theorem dX11_mask_18 : decode cX11_mask 18 = .ok (.invokestatic 217, 3) := by decide +kernel
theorem dX11_mask_21 : decode cX11_mask 21 = .ok (.if_icmp .lt 6, 3) := by decide +kernel
theorem dX11_mask_24 : decode cX11_mask 24 = .ok (.ldc 65, 2) := by decide +kernel
theorem dX11_mask_26 : decode cX11_mask 26 = .ok (.ireturn, 1) := by decide +kernel
theorem dX11_mask_27 : decode cX11_mask 27 = .ok (.iload_n 1, 1) := by decide +kernel
theorem dX11_mask_28 : decode cX11_mask 28 = .ok (.iload_n 2, 1) := by decide +kernel
theorem dX11_mask_29 : decode cX11_mask 29 = .ok (.invokestatic 221, 3) := by decide +kernel
theorem dX11_mask_32 : decode cX11_mask 32 = .ok (.ireturn, 1) := by decide +kernel
set_option maxRecDepth 20000 in
set_option maxHeartbeats 4000000 in
theorem W_X11_mask (K : xK) (L : xL) (a0 : Nat) (a1 : Int32) (a2 : Int32) (h : xH) : Sim K L cX11_mask RX11 "mask" 3 2 (fun q : Int32 × xH => q.2) (xRi cX11_mask) 0 [(0, .ref a0), (1, .int a1), (2, .int a2)] [] h (f_X11_mask a0 a1 a2 h) := by
  unfold f_X11_mask
  refine S_iload_n (pc := 0) 1 rfl dX11_mask_0 rfl ?_
  refine S_if_lt (pc := 1) (tgt := 24) dX11_mask_1 (by decide) ?_ ?_
  · refine S_ldc (pc := 24) wd_233 dX11_mask_24 ?_
    exact Sim.fin ⟨dX11_mask_26, rfl, rfl⟩ rfl
  · refine S_iload_n (pc := 4) 1 rfl dX11_mask_4 rfl ?_
    refine S_bipush (pc := 5) dX11_mask_5 bi_15 ?_
    refine S_icmp_gt (pc := 7) (tgt := 24) dX11_mask_7 (by decide) ?_ ?_
    · refine S_ldc (pc := 24) wd_233 dX11_mask_24 ?_
      exact Sim.fin ⟨dX11_mask_26, rfl, rfl⟩ rfl
    · refine S_iload_n (pc := 10) 2 rfl dX11_mask_10 rfl ?_
      refine S_if_lt (pc := 11) (tgt := 24) dX11_mask_11 (by decide) ?_ ?_
      · refine S_ldc (pc := 24) wd_233 dX11_mask_24 ?_
        exact Sim.fin ⟨dX11_mask_26, rfl, rfl⟩ rfl
      · refine S_iload_n (pc := 14) 2 rfl dX11_mask_14 rfl ?_
        refine S_bipush (pc := 15) dX11_mask_15 bi_15 ?_
        refine S_iload_n (pc := 17) 1 rfl dX11_mask_17 rfl ?_
        refine S_call_i (pc := 18) (rest := [.int a2]) (fun q hq => R_S (av := [.int (15 : Int32), .int a1]) (M_X11_choices _ (15 : Int32) a1 h hq) wd_558 wd_556 wd_557 wd_44 hd_X11_choices ⟨Nat.le_of_ble_eq_true rfl, Nat.le_of_ble_eq_true rfl⟩ rfl (Nat.le_of_ble_eq_true rfl) dX11_mask_18) (fun _ h => List.mem_cons_of_mem _ (List.mem_cons_of_mem _ (h))) (fun q1 => ?_)
        refine S_icmp_lt (pc := 21) (tgt := 27) dX11_mask_21 (by decide) ?_ ?_
        · refine S_iload_n (pc := 27) 1 rfl dX11_mask_27 rfl ?_
          refine S_iload_n (pc := 28) 2 rfl dX11_mask_28 rfl ?_
          refine S_call_i (pc := 29) (rest := []) (fun q hq => R_S (av := [.int a1, .int a2]) (M_X11_maskOf _ a1 a2 q1.2 hq) wd_612 wd_610 wd_611 wd_44 hd_X11_maskOf ⟨Nat.le_of_ble_eq_true rfl, Nat.le_of_ble_eq_true rfl⟩ rfl (Nat.le_of_ble_eq_true rfl) dX11_mask_29) (fun _ h => absurd h List.not_mem_nil) (fun q2 => ?_)
          exact Sim.fin ⟨dX11_mask_32, rfl, rfl⟩ rfl
        · refine S_ldc (pc := 24) wd_233 dX11_mask_24 ?_
          exact Sim.fin ⟨dX11_mask_26, rfl, rfl⟩ rfl
theorem M_X11_mask (l : Launch) (a0 : Nat) (a1 : Int32) (a2 : Int32) (h : xH) {q : Int32 × xH} (hq : f_X11_mask a0 a1 a2 h = some q) : xM l yX11_mask cX11_mask 3 (some .int) 2 [.ref a0, .int a1, .int a2] h (some (.int q.1)) q.2 := xM_i (by decide +kernel) (Nat.le_of_ble_eq_true rfl) (fun K L => W_X11_mask K L a0 a1 a2 h) hq
theorem dX11_next_0 : decode cX11_next 0 = .ok (.aload_n 0, 1) := by decide +kernel
theorem dX11_next_1 : decode cX11_next 1 = .ok (.iload_n 1, 1) := by decide +kernel
theorem dX11_next_2 : decode cX11_next 2 = .ok (.iload_n 2, 1) := by decide +kernel
theorem dX11_next_3 : decode cX11_next 3 = .ok (.invokevirtual 224, 3) := by decide +kernel
theorem dX11_next_6 : decode cX11_next 6 = .ok (.ifCond .eq 10, 3) := by decide +kernel
theorem dX11_next_9 : decode cX11_next 9 = .ok (.iload_n 3, 1) := by decide +kernel
theorem dX11_next_10 : decode cX11_next 10 = .ok (.invokestatic 149, 3) := by decide +kernel
theorem dX11_next_13 : decode cX11_next 13 = .ok (.ifCond .ne 6, 3) := by decide +kernel
theorem dX11_next_16 : decode cX11_next 16 = .ok (.ldc 65, 2) := by decide +kernel
theorem dX11_next_18 : decode cX11_next 18 = .ok (.ireturn, 1) := by decide +kernel
theorem dX11_next_19 : decode cX11_next 19 = .ok (.aload_n 0, 1) := by decide +kernel
theorem dX11_next_20 : decode cX11_next 20 = .ok (.getfield 17, 3) := by decide +kernel
theorem dX11_next_23 : decode cX11_next 23 = .ok (.iload_n 1, 1) := by decide +kernel
theorem dX11_next_24 : decode cX11_next 24 = .ok (.aaload, 1) := by decide +kernel
theorem dX11_next_25 : decode cX11_next 25 = .ok (.astore 4, 2) := by decide +kernel
theorem dX11_next_27 : decode cX11_next 27 = .ok (.iload_n 2, 1) := by decide +kernel
theorem dX11_next_28 : decode cX11_next 28 = .ok (.istore 5, 2) := by decide +kernel
theorem dX11_next_30 : decode cX11_next 30 = .ok (.iload 5, 2) := by decide +kernel
theorem dX11_next_32 : decode cX11_next 32 = .ok (.aload 4, 2) := by decide +kernel
theorem dX11_next_34 : decode cX11_next 34 = .ok (.getfield 148, 3) := by decide +kernel
theorem dX11_next_37 : decode cX11_next 37 = .ok (.if_icmp .ge 23, 3) := by decide +kernel
theorem dX11_next_40 : decode cX11_next 40 = .ok (.aload 4, 2) := by decide +kernel
theorem dX11_next_42 : decode cX11_next 42 = .ok (.iload 5, 2) := by decide +kernel
theorem dX11_next_44 : decode cX11_next 44 = .ok (.invokevirtual 152, 3) := by decide +kernel
theorem dX11_next_47 : decode cX11_next 47 = .ok (.iload_n 3, 1) := by decide +kernel
theorem dX11_next_48 : decode cX11_next 48 = .ok (.if_icmp .ne 6, 3) := by decide +kernel
theorem dX11_next_51 : decode cX11_next 51 = .ok (.iload 5, 2) := by decide +kernel
theorem dX11_next_53 : decode cX11_next 53 = .ok (.ireturn, 1) := by decide +kernel
theorem dX11_next_54 : decode cX11_next 54 = .ok (.iinc 5 1, 3) := by decide +kernel
theorem dX11_next_57 : decode cX11_next 57 = .ok (.goto (-27), 3) := by decide +kernel
theorem dX11_next_60 : decode cX11_next 60 = .ok (.ldc 227, 2) := by decide +kernel
theorem dX11_next_62 : decode cX11_next 62 = .ok (.ireturn, 1) := by decide +kernel
set_option maxRecDepth 20000 in
set_option maxHeartbeats 4000000 in
theorem L_X11_next_30 (K : xK) (L : xL) : ∀ (n : Nat) (a3 : Int32) (a4 : Nat) (a5 : Int32) (h : xH), Sim K L cX11_next RX11 "next" 6 2 (fun q : Int32 × xH => q.2) (xRi cX11_next) 30 [(3, .int a3), (4, .ref a4), (5, .int a5)] [] h (f_X11_next_L30 n a3 a4 a5 h) := by
  intro n
  induction n with
  | zero =>
    intro a3 a4 a5 h
    exact Sim.none
  | succ n ih =>
    intro a3 a4 a5 h
    unfold f_X11_next_L30
    refine S_iload (pc := 30) 2 rfl dX11_next_30 ?_
    refine S_aload (pc := 32) 1 rfl dX11_next_32 ?_
    refine S_getI (pc := 34) fd_X1_length wd_81 dX11_next_34 (fun v5 => ?_)
    refine S_icmp_ge (pc := 37) (tgt := 60) dX11_next_37 (by decide) ?_ ?_
    · refine S_ldc (pc := 60) wd_625 dX11_next_60 ?_
      exact Sim.fin ⟨dX11_next_62, rfl, rfl⟩ rfl
    · refine S_aload (pc := 40) 1 rfl dX11_next_40 ?_
      refine S_iload (pc := 42) 2 rfl dX11_next_42 ?_
      refine S_call_i (pc := 44) (rest := []) (fun q hq => (x_if hq).elim (fun z => R_V (av := [.int a5]) (q := (RX1, TX1, 2)) (M_X1_bitAt _ a4 a5 h z.2) z.1 rfl wd_454 wd_451 wd_452 wd_45 wd_453 ⟨rfl, hd_X1_bitAt⟩ ⟨Nat.le_of_ble_eq_true rfl, Nat.le_of_ble_eq_true rfl⟩ rfl (Nat.le_of_ble_eq_true rfl) dX11_next_44) (fun hq => (by cases hq))) (fun _ h => absurd h List.not_mem_nil) (fun q6 => ?_)
      refine S_iload_n (pc := 47) 0 rfl dX11_next_47 rfl ?_
      refine S_icmp_ne (pc := 48) (tgt := 54) dX11_next_48 (by decide) ?_ ?_
      · refine S_iload (pc := 51) 2 rfl dX11_next_51 ?_
        exact Sim.fin ⟨dX11_next_53, rfl, rfl⟩ rfl
      · refine S_iinc (pc := 54) (v := a5 + (1 : Int32)) 2 rfl dX11_next_54 (x_inc ic_1) (Nat.le_of_ble_eq_true rfl) rfl ?_
        refine S_goto (pc := 57) (tgt := 30) dX11_next_57 (by decide) ?_
        refine S_sub [1, 2, 0] rfl ?_
        exact ih a3 a4 (a5 + (1 : Int32)) q6.2
set_option maxRecDepth 20000 in
set_option maxHeartbeats 4000000 in
theorem W_X11_next (K : xK) (L : xL) (a0 : Nat) (a1 : Int32) (a2 : Int32) (a3 : Int32) (h : xH) : Sim K L cX11_next RX11 "next" 6 2 (fun q : Int32 × xH => q.2) (xRi cX11_next) 0 [(0, .ref a0), (1, .int a1), (2, .int a2), (3, .int a3)] [] h (f_X11_next a0 a1 a2 a3 h) := by
  unfold f_X11_next
  refine S_aload_n (pc := 0) 0 rfl dX11_next_0 rfl ?_
  refine S_iload_n (pc := 1) 1 rfl dX11_next_1 rfl ?_
  refine S_iload_n (pc := 2) 2 rfl dX11_next_2 rfl ?_
  refine S_call_i (pc := 3) (rest := []) (fun q hq => (x_if hq).elim (fun z => R_V (av := [.int a1, .int a2]) (q := (RX11, TX11, 12)) (M_X11_isPlaceOrEnd _ a0 a1 a2 h z.2) z.1 rfl wd_620 wd_617 wd_619 wd_44 wd_9 ⟨rfl, hd_X11_isPlaceOrEnd⟩ ⟨Nat.le_of_ble_eq_true rfl, Nat.le_of_ble_eq_true rfl⟩ rfl (Nat.le_of_ble_eq_true rfl) dX11_next_3) (fun hq => (by cases hq))) (fun _ h => absurd h List.not_mem_nil) (fun q1 => ?_)
  refine S_if_eq (pc := 6) (tgt := 16) dX11_next_6 (by decide) ?_ ?_
  · refine S_ldc (pc := 16) wd_233 dX11_next_16 ?_
    exact Sim.fin ⟨dX11_next_18, rfl, rfl⟩ rfl
  · refine S_iload_n (pc := 9) 3 rfl dX11_next_9 rfl ?_
    refine S_call_i (pc := 10) (rest := []) (fun q hq => R_S (av := [.int a3]) (M_X11_isValue _ a3 q1.2 hq) wd_450 wd_448 wd_449 wd_44 hd_X11_isValue ⟨Nat.le_of_ble_eq_true rfl, Nat.le_of_ble_eq_true rfl⟩ rfl (Nat.le_of_ble_eq_true rfl) dX11_next_10) (fun _ h => absurd h List.not_mem_nil) (fun q2 => ?_)
    refine S_if_ne (pc := 13) (tgt := 19) dX11_next_13 (by decide) ?_ ?_
    · refine S_ldc (pc := 16) wd_233 dX11_next_16 ?_
      exact Sim.fin ⟨dX11_next_18, rfl, rfl⟩ rfl
    · refine S_aload_n (pc := 19) 0 rfl dX11_next_19 rfl ?_
      refine S_getR (pc := 20) fd_X11_vectors wd_190 dX11_next_20 (fun v3 => ?_)
      refine S_iload_n (pc := 23) 1 rfl dX11_next_23 rfl ?_
      refine S_aR (pc := 24) (fun _ => rfl) dX11_next_24 (fun v4 => ?_)
      refine S_astore (pc := 25) dX11_next_25 (Nat.le_of_ble_eq_true rfl) rfl ?_
      refine S_iload_n (pc := 27) 3 rfl dX11_next_27 rfl ?_
      refine S_istore (pc := 28) dX11_next_28 (Nat.le_of_ble_eq_true rfl) rfl ?_
      refine S_sub [5, 1, 0] rfl ?_
      exact L_X11_next_30 K L xN a3 v4 a2 q2.2
theorem M_X11_next (l : Launch) (a0 : Nat) (a1 : Int32) (a2 : Int32) (a3 : Int32) (h : xH) {q : Int32 × xH} (hq : f_X11_next a0 a1 a2 a3 h = some q) : xM l yX11_next cX11_next 6 (some .int) 2 [.ref a0, .int a1, .int a2, .int a3] h (some (.int q.1)) q.2 := xM_i (by decide +kernel) (Nat.le_of_ble_eq_true rfl) (fun K L => W_X11_next K L a0 a1 a2 a3 h) hq
theorem dX11_offset_0 : decode cX11_offset 0 = .ok (.iload_n 1, 1) := by decide +kernel
theorem dX11_offset_1 : decode cX11_offset 1 = .ok (.ifCond .lt 10, 3) := by decide +kernel
theorem dX11_offset_4 : decode cX11_offset 4 = .ok (.iload_n 1, 1) := by decide +kernel
theorem dX11_offset_5 : decode cX11_offset 5 = .ok (.sipush 32767, 3) := by decide +kernel
theorem dX11_offset_8 : decode cX11_offset 8 = .ok (.if_icmp .le 8, 3) := by decide +kernel
theorem dX11_offset_11 : decode cX11_offset 11 = .ok (.ldc 65, 2) := by decide +kernel
theorem dX11_offset_13 : decode cX11_offset 13 = .ok (.goto 7, 3) := by decide +kernel
theorem dX11_offset_16 : decode cX11_offset 16 = .ok (.iload_n 1, 1) := by decide +kernel
theorem dX11_offset_17 : decode cX11_offset 17 = .ok (.invokestatic 193, 3) := by decide +kernel
theorem dX11_offset_20 : decode cX11_offset 20 = .ok (.ireturn, 1) := by decide +kernel
set_option maxRecDepth 20000 in
set_option maxHeartbeats 4000000 in
theorem W_X11_offset (K : xK) (L : xL) (a0 : Nat) (a1 : Int32) (h : xH) : Sim K L cX11_offset RX11 "offset" 2 2 (fun q : Int32 × xH => q.2) (xRi cX11_offset) 0 [(0, .ref a0), (1, .int a1)] [] h (f_X11_offset a0 a1 h) := by
  unfold f_X11_offset
  refine S_iload_n (pc := 0) 1 rfl dX11_offset_0 rfl ?_
  refine S_if_lt (pc := 1) (tgt := 11) dX11_offset_1 (by decide) ?_ ?_
  · refine S_ldc (pc := 11) wd_233 dX11_offset_11 ?_
    refine S_goto (pc := 13) (tgt := 20) dX11_offset_13 (by decide) ?_
    exact Sim.fin ⟨dX11_offset_20, rfl, rfl⟩ rfl
  · refine S_iload_n (pc := 4) 1 rfl dX11_offset_4 rfl ?_
    refine S_sipush (pc := 5) dX11_offset_5 si_32767 ?_
    refine S_icmp_le (pc := 8) (tgt := 16) dX11_offset_8 (by decide) ?_ ?_
    · refine S_iload_n (pc := 16) 1 rfl dX11_offset_16 rfl ?_
      refine S_call_i (pc := 17) (rest := []) (fun q hq => R_S (av := [.int a1]) (M_X11_offsetOf _ a1 h hq) wd_555 wd_553 wd_554 wd_44 hd_X11_offsetOf ⟨Nat.le_of_ble_eq_true rfl, Nat.le_of_ble_eq_true rfl⟩ rfl (Nat.le_of_ble_eq_true rfl) dX11_offset_17) (fun _ h => absurd h List.not_mem_nil) (fun q1 => ?_)
      exact Sim.fin ⟨dX11_offset_20, rfl, rfl⟩ rfl
    · refine S_ldc (pc := 11) wd_233 dX11_offset_11 ?_
      refine S_goto (pc := 13) (tgt := 20) dX11_offset_13 (by decide) ?_
      exact Sim.fin ⟨dX11_offset_20, rfl, rfl⟩ rfl
theorem M_X11_offset (l : Launch) (a0 : Nat) (a1 : Int32) (h : xH) {q : Int32 × xH} (hq : f_X11_offset a0 a1 h = some q) : xM l yX11_offset cX11_offset 2 (some .int) 2 [.ref a0, .int a1] h (some (.int q.1)) q.2 := xM_i (by decide +kernel) (Nat.le_of_ble_eq_true rfl) (fun K L => W_X11_offset K L a0 a1 h) hq
theorem dX11_ones_0 : decode cX11_ones 0 = .ok (.iload_n 1, 1) := by decide +kernel
theorem dX11_ones_1 : decode cX11_ones 1 = .ok (.invokestatic 113, 3) := by decide +kernel
theorem dX11_ones_4 : decode cX11_ones 4 = .ok (.ifCond .eq 15, 3) := by decide +kernel
theorem dX11_ones_7 : decode cX11_ones 7 = .ok (.aload_n 0, 1) := by decide +kernel
theorem dX11_ones_8 : decode cX11_ones 8 = .ok (.getfield 17, 3) := by decide +kernel
theorem dX11_ones_11 : decode cX11_ones 11 = .ok (.iload_n 1, 1) := by decide +kernel
theorem dX11_ones_12 : decode cX11_ones 12 = .ok (.aaload, 1) := by decide +kernel
theorem dX11_ones_13 : decode cX11_ones 13 = .ok (.invokevirtual 167, 3) := by decide +kernel
theorem dX11_ones_16 : decode cX11_ones 16 = .ok (.goto 5, 3) := by decide +kernel
theorem dX11_ones_19 : decode cX11_ones 19 = .ok (.ldc 65, 2) := by decide +kernel
theorem dX11_ones_21 : decode cX11_ones 21 = .ok (.ireturn, 1) := by decide +kernel
set_option maxRecDepth 20000 in
set_option maxHeartbeats 4000000 in
theorem W_X11_ones (K : xK) (L : xL) (a0 : Nat) (a1 : Int32) (h : xH) : Sim K L cX11_ones RX11 "ones" 2 4 (fun q : Int32 × xH => q.2) (xRi cX11_ones) 0 [(0, .ref a0), (1, .int a1)] [] h (f_X11_ones a0 a1 h) := by
  unfold f_X11_ones
  refine S_iload_n (pc := 0) 1 rfl dX11_ones_0 rfl ?_
  refine S_call_i (pc := 1) (rest := []) (fun q hq => R_S (av := [.int a1]) (M_X11_isVector _ a1 h hq) wd_293 wd_291 wd_292 wd_44 hd_X11_isVector ⟨Nat.le_of_ble_eq_true rfl, Nat.le_of_ble_eq_true rfl⟩ rfl (Nat.le_of_ble_eq_true rfl) dX11_ones_1) (fun _ h => absurd h List.not_mem_nil) (fun q1 => ?_)
  refine S_if_eq (pc := 4) (tgt := 19) dX11_ones_4 (by decide) ?_ ?_
  · refine S_ldc (pc := 19) wd_233 dX11_ones_19 ?_
    exact Sim.fin ⟨dX11_ones_21, rfl, rfl⟩ rfl
  · refine S_aload_n (pc := 7) 0 rfl dX11_ones_7 rfl ?_
    refine S_getR (pc := 8) fd_X11_vectors wd_190 dX11_ones_8 (fun v2 => ?_)
    refine S_iload_n (pc := 11) 1 rfl dX11_ones_11 rfl ?_
    refine S_aR (pc := 12) (fun _ => rfl) dX11_ones_12 (fun v3 => ?_)
    refine S_call_i (pc := 13) (rest := []) (fun q hq => (x_if hq).elim (fun z => R_V (av := []) (q := (RX1, TX1, 2)) (M_X1_countOnes _ v3 q1.2 z.2) z.1 rfl wd_493 wd_490 wd_491 wd_45 wd_492 ⟨rfl, hd_X1_countOnes⟩ ⟨Nat.le_of_ble_eq_true rfl, Nat.le_of_ble_eq_true rfl⟩ rfl (Nat.le_of_ble_eq_true rfl) dX11_ones_13) (fun hq => (by cases hq))) (fun _ h => absurd h List.not_mem_nil) (fun q4 => ?_)
    refine S_goto (pc := 16) (tgt := 21) dX11_ones_16 (by decide) ?_
    exact Sim.fin ⟨dX11_ones_21, rfl, rfl⟩ rfl
theorem M_X11_ones (l : Launch) (a0 : Nat) (a1 : Int32) (h : xH) {q : Int32 × xH} (hq : f_X11_ones a0 a1 h = some q) : xM l yX11_ones cX11_ones 2 (some .int) 4 [.ref a0, .int a1] h (some (.int q.1)) q.2 := xM_i (by decide +kernel) (Nat.le_of_ble_eq_true rfl) (fun K L => W_X11_ones K L a0 a1 h) hq
theorem dX1_payloadWord_0 : decode cX1_payloadWord 0 = .ok (.lconst 0, 1) := by decide +kernel
theorem dX1_payloadWord_1 : decode cX1_payloadWord 1 = .ok (.lstore_n 2, 1) := by decide +kernel
theorem dX1_payloadWord_2 : decode cX1_payloadWord 2 = .ok (.iload_n 1, 1) := by decide +kernel
theorem dX1_payloadWord_3 : decode cX1_payloadWord 3 = .ok (.ineg, 1) := by decide +kernel
theorem dX1_payloadWord_4 : decode cX1_payloadWord 4 = .ok (.istore 4, 2) := by decide +kernel
theorem dX1_payloadWord_6 : decode cX1_payloadWord 6 = .ok (.iconst 0, 1) := by decide +kernel
theorem dX1_payloadWord_7 : decode cX1_payloadWord 7 = .ok (.istore 5, 2) := by decide +kernel
theorem dX1_payloadWord_9 : decode cX1_payloadWord 9 = .ok (.iload 5, 2) := by decide +kernel
theorem dX1_payloadWord_11 : decode cX1_payloadWord 11 = .ok (.aload_n 0, 1) := by decide +kernel
theorem dX1_payloadWord_12 : decode cX1_payloadWord 12 = .ok (.invokevirtual 67, 3) := by decide +kernel
theorem dX1_payloadWord_15 : decode cX1_payloadWord 15 = .ok (.if_icmp .ge 78, 3) := by decide +kernel
theorem dX1_payloadWord_18 : decode cX1_payloadWord 18 = .ok (.getstatic 71, 3) := by decide +kernel
theorem dX1_payloadWord_21 : decode cX1_payloadWord 21 = .ok (.aload_n 0, 1) := by decide +kernel
theorem dX1_payloadWord_22 : decode cX1_payloadWord 22 = .ok (.iload 5, 2) := by decide +kernel
theorem dX1_payloadWord_24 : decode cX1_payloadWord 24 = .ok (.invokevirtual 74, 3) := by decide +kernel
theorem dX1_payloadWord_27 : decode cX1_payloadWord 27 = .ok (.iaload, 1) := by decide +kernel
theorem dX1_payloadWord_28 : decode cX1_payloadWord 28 = .ok (.istore 6, 2) := by decide +kernel
theorem dX1_payloadWord_30 : decode cX1_payloadWord 30 = .ok (.iload 4, 2) := by decide +kernel
theorem dX1_payloadWord_32 : decode cX1_payloadWord 32 = .ok (.bipush 64, 2) := by decide +kernel
theorem dX1_payloadWord_34 : decode cX1_payloadWord 34 = .ok (.if_icmp .ge 46, 3) := by decide +kernel
theorem dX1_payloadWord_37 : decode cX1_payloadWord 37 = .ok (.iload 4, 2) := by decide +kernel
theorem dX1_payloadWord_39 : decode cX1_payloadWord 39 = .ok (.iload 6, 2) := by decide +kernel
theorem dX1_payloadWord_41 : decode cX1_payloadWord 41 = .ok (.iadd, 1) := by decide +kernel
theorem dX1_payloadWord_42 : decode cX1_payloadWord 42 = .ok (.ifCond .le 38, 3) := by decide +kernel
theorem dX1_payloadWord_45 : decode cX1_payloadWord 45 = .ok (.aload_n 0, 1) := by decide +kernel
theorem dX1_payloadWord_46 : decode cX1_payloadWord 46 = .ok (.getfield 9, 3) := by decide +kernel
theorem dX1_payloadWord_49 : decode cX1_payloadWord 49 = .ok (.iload 5, 2) := by decide +kernel
theorem dX1_payloadWord_51 : decode cX1_payloadWord 51 = .ok (.iaload, 1) := by decide +kernel
theorem dX1_payloadWord_52 : decode cX1_payloadWord 52 = .ok (.invokestatic 80, 3) := by decide +kernel
theorem dX1_payloadWord_55 : decode cX1_payloadWord 55 = .ok (.i2l, 1) := by decide +kernel
theorem dX1_payloadWord_56 : decode cX1_payloadWord 56 = .ok (.lstore 7, 2) := by decide +kernel
theorem dX1_payloadWord_58 : decode cX1_payloadWord 58 = .ok (.lload_n 2, 1) := by decide +kernel
theorem dX1_payloadWord_59 : decode cX1_payloadWord 59 = .ok (.iload 4, 2) := by decide +kernel
theorem dX1_payloadWord_61 : decode cX1_payloadWord 61 = .ok (.ifCond .lt 11, 3) := by decide +kernel
theorem dX1_payloadWord_64 : decode cX1_payloadWord 64 = .ok (.lload 7, 2) := by decide +kernel
theorem dX1_payloadWord_66 : decode cX1_payloadWord 66 = .ok (.iload 4, 2) := by decide +kernel
theorem dX1_payloadWord_68 : decode cX1_payloadWord 68 = .ok (.lshl, 1) := by decide +kernel
theorem dX1_payloadWord_69 : decode cX1_payloadWord 69 = .ok (.goto 9, 3) := by decide +kernel
theorem dX1_payloadWord_72 : decode cX1_payloadWord 72 = .ok (.lload 7, 2) := by decide +kernel
theorem dX1_payloadWord_74 : decode cX1_payloadWord 74 = .ok (.iload 4, 2) := by decide +kernel
theorem dX1_payloadWord_76 : decode cX1_payloadWord 76 = .ok (.ineg, 1) := by decide +kernel
theorem dX1_payloadWord_77 : decode cX1_payloadWord 77 = .ok (.lshr, 1) := by decide +kernel
theorem dX1_payloadWord_78 : decode cX1_payloadWord 78 = .ok (.lor, 1) := by decide +kernel
theorem dX1_payloadWord_79 : decode cX1_payloadWord 79 = .ok (.lstore_n 2, 1) := by decide +kernel
theorem dX1_payloadWord_80 : decode cX1_payloadWord 80 = .ok (.iload 4, 2) := by decide +kernel
theorem dX1_payloadWord_82 : decode cX1_payloadWord 82 = .ok (.iload 6, 2) := by decide +kernel
theorem dX1_payloadWord_84 : decode cX1_payloadWord 84 = .ok (.iadd, 1) := by decide +kernel
theorem dX1_payloadWord_85 : decode cX1_payloadWord 85 = .ok (.istore 4, 2) := by decide +kernel
theorem dX1_payloadWord_87 : decode cX1_payloadWord 87 = .ok (.iinc 5 1, 3) := by decide +kernel
theorem dX1_payloadWord_90 : decode cX1_payloadWord 90 = .ok (.goto (-81), 3) := by decide +kernel
theorem dX1_payloadWord_93 : decode cX1_payloadWord 93 = .ok (.lload_n 2, 1) := by decide +kernel
theorem dX1_payloadWord_94 : decode cX1_payloadWord 94 = .ok (.lreturn, 1) := by decide +kernel
set_option maxRecDepth 20000 in
set_option maxHeartbeats 4000000 in
theorem L_X1_payloadWord_9 (K : xK) (L : xL) : ∀ (n : Nat) (a0 : Nat) (a2 : Int64) (a4 : Int32) (a5 : Int32) (h : xH), Sim K L cX1_payloadWord RX1 "payloadWord" 9 2 (fun q : Int64 × Int32 × Int32 × xH => q.2.2.2) (fun q pc' ls' st' h' => pc' = 93 ∧ ls' = [(0, .ref a0), (2, .long q.1), (4, .int q.2.1), (5, .int q.2.2.1)] ∧ st' = [] ∧ h' = q.2.2.2) 9 [(0, .ref a0), (2, .long a2), (4, .int a4), (5, .int a5)] [] h (f_X1_payloadWord_L9 n a0 a2 a4 a5 h) := by
  intro n
  induction n with
  | zero =>
    intro a0 a2 a4 a5 h
    exact Sim.none
  | succ n ih =>
    intro a0 a2 a4 a5 h
    unfold f_X1_payloadWord_L9
    refine S_iload (pc := 9) 3 rfl dX1_payloadWord_9 ?_
    refine S_aload_n (pc := 11) 0 rfl dX1_payloadWord_11 rfl ?_
    refine S_call_i (pc := 12) (rest := [.int a5]) (fun q hq => (x_if hq).elim (fun z => R_V (av := []) (q := (RX1, TX1, 2)) (M_X1_blockCount _ a0 h z.2) z.1 rfl wd_548 wd_577 wd_546 wd_45 wd_547 ⟨rfl, hd_X1_blockCount⟩ ⟨Nat.le_of_ble_eq_true rfl, Nat.le_of_ble_eq_true rfl⟩ rfl (Nat.le_of_ble_eq_true rfl) dX1_payloadWord_12) (fun hq => (by cases hq))) (fun _ h => List.mem_cons_of_mem _ (h)) (fun q1 => ?_)
    refine S_icmp_ge (pc := 15) (tgt := 93) dX1_payloadWord_15 (by decide) ?_ ?_
    · refine S_sub [0, 1, 2, 3] rfl ?_
      exact Sim.fin ⟨rfl, rfl, rfl, rfl⟩ rfl
    · refine S_getsN1 (pc := 18) dX1_payloadWord_18 ?_
      refine S_aload_n (pc := 21) 0 rfl dX1_payloadWord_21 rfl ?_
      refine S_iload (pc := 22) 3 rfl dX1_payloadWord_22 ?_
      refine S_call_i (pc := 24) (rest := [.ref 1]) (fun q hq => (x_if hq).elim (fun z => R_V (av := [.int a5]) (q := (RX1, TX1, 2)) (M_X1_classOf _ a0 a5 q1.2 z.2) z.1 rfl wd_552 wd_568 wd_550 wd_45 wd_551 ⟨rfl, hd_X1_classOf⟩ ⟨Nat.le_of_ble_eq_true rfl, Nat.le_of_ble_eq_true rfl⟩ rfl (Nat.le_of_ble_eq_true rfl) dX1_payloadWord_24) (fun hq => (by cases hq))) (fun _ h => List.mem_cons_of_mem _ (List.mem_cons_of_mem _ (h))) (fun q2 => ?_)
      refine S_aI (pc := 27) dX1_payloadWord_27 (fun v3 => ?_)
      refine S_istore (pc := 28) dX1_payloadWord_28 (Nat.le_of_ble_eq_true rfl) rfl ?_
      refine S_iload (pc := 30) 3 rfl dX1_payloadWord_30 ?_
      refine S_bipush (pc := 32) dX1_payloadWord_32 bi_64 ?_
      refine S_icmp_ge (pc := 34) (tgt := 80) dX1_payloadWord_34 (by decide) ?_ ?_
      · refine S_iload (pc := 80) 3 rfl dX1_payloadWord_80 ?_
        refine S_iload (pc := 82) 0 rfl dX1_payloadWord_82 ?_
        refine S_iadd (pc := 84) dX1_payloadWord_84 ?_
        refine S_istore (pc := 85) dX1_payloadWord_85 (Nat.le_of_ble_eq_true rfl) rfl ?_
        refine S_iinc (pc := 87) (v := a5 + (1 : Int32)) 4 rfl dX1_payloadWord_87 (x_inc ic_1) (Nat.le_of_ble_eq_true rfl) rfl ?_
        refine S_goto (pc := 90) (tgt := 9) dX1_payloadWord_90 (by decide) ?_
        refine S_sub [3, 4, 1, 0] rfl ?_
        exact ih a0 a2 (a4 + v3) (a5 + (1 : Int32)) q2.2
      · refine S_iload (pc := 37) 3 rfl dX1_payloadWord_37 ?_
        refine S_iload (pc := 39) 0 rfl dX1_payloadWord_39 ?_
        refine S_iadd (pc := 41) dX1_payloadWord_41 ?_
        refine S_if_le (pc := 42) (tgt := 80) dX1_payloadWord_42 (by decide) ?_ ?_
        · refine S_iload (pc := 80) 3 rfl dX1_payloadWord_80 ?_
          refine S_iload (pc := 82) 0 rfl dX1_payloadWord_82 ?_
          refine S_iadd (pc := 84) dX1_payloadWord_84 ?_
          refine S_istore (pc := 85) dX1_payloadWord_85 (Nat.le_of_ble_eq_true rfl) rfl ?_
          refine S_iinc (pc := 87) (v := a5 + (1 : Int32)) 4 rfl dX1_payloadWord_87 (x_inc ic_1) (Nat.le_of_ble_eq_true rfl) rfl ?_
          refine S_goto (pc := 90) (tgt := 9) dX1_payloadWord_90 (by decide) ?_
          refine S_sub [3, 4, 1, 0] rfl ?_
          exact ih a0 a2 (a4 + v3) (a5 + (1 : Int32)) q2.2
        · refine S_aload_n (pc := 45) 1 rfl dX1_payloadWord_45 rfl ?_
          refine S_getR (pc := 46) fd_X1_masks wd_78 dX1_payloadWord_46 (fun v4 => ?_)
          refine S_iload (pc := 49) 4 rfl dX1_payloadWord_49 ?_
          refine S_aI (pc := 51) dX1_payloadWord_51 (fun v5 => ?_)
          refine S_call_i (pc := 52) (rest := []) (fun q hq => R_SN (av := [.int v5]) (host := RX11) (M_X11_offsetOf _ v5 q2.2 hq) wd_555 (by decide +kernel) wd_554 wd_44 hd_X11_offsetOf ⟨Nat.le_of_ble_eq_true rfl, Nat.le_of_ble_eq_true rfl⟩ rfl (Nat.le_of_ble_eq_true rfl) dX1_payloadWord_52) (fun _ h => absurd h List.not_mem_nil) (fun q6 => ?_)
          refine S_i2l (pc := 55) dX1_payloadWord_55 ?_
          refine S_lstore (pc := 56) dX1_payloadWord_56 (Nat.le_of_ble_eq_true rfl) rfl ?_
          refine S_lload_n (pc := 58) 3 rfl dX1_payloadWord_58 rfl ?_
          refine S_iload (pc := 59) 4 rfl dX1_payloadWord_59 ?_
          refine Sim.cut (pc' := 78) (st' := [.long (if a4 < 0 then q6.1.toInt64 >>> ((-a4).toInt64 &&& 63) else q6.1.toInt64 <<< (a4.toInt64 &&& 63)), .long a2]) ?_ (fun kc => ?_)
          · refine S_lor (pc := 78) dX1_payloadWord_78 ?_
            refine S_lstore_n (pc := 79) dX1_payloadWord_79 rfl (Nat.le_of_ble_eq_true rfl) rfl ?_
            refine S_iload (pc := 80) 4 rfl dX1_payloadWord_80 ?_
            refine S_iload (pc := 82) 2 rfl dX1_payloadWord_82 ?_
            refine S_iadd (pc := 84) dX1_payloadWord_84 ?_
            refine S_istore (pc := 85) dX1_payloadWord_85 (Nat.le_of_ble_eq_true rfl) rfl ?_
            refine S_iinc (pc := 87) (v := a5 + (1 : Int32)) 5 rfl dX1_payloadWord_87 (x_inc ic_1) (Nat.le_of_ble_eq_true rfl) rfl ?_
            refine S_goto (pc := 90) (tgt := 9) dX1_payloadWord_90 (by decide) ?_
            refine S_sub [5, 2, 1, 0] rfl ?_
            exact ih a0 (a2 ||| (if a4 < 0 then q6.1.toInt64 >>> ((-a4).toInt64 &&& 63) else q6.1.toInt64 <<< (a4.toInt64 &&& 63))) (a4 + v3) (a5 + (1 : Int32)) q6.2
          · refine D_if_lt (pc := 61) (tgt := 72) dX1_payloadWord_61 (by decide) (fun c7 => ?_) (fun c7 => ?_)
            · refine S_lload (pc := 72) 0 rfl dX1_payloadWord_72 ?_
              refine S_iload (pc := 74) 4 rfl dX1_payloadWord_74 ?_
              refine S_ineg (pc := 76) dX1_payloadWord_76 ?_
              refine S_lshr (pc := 77) dX1_payloadWord_77 ?_
              exact x_st (by rw [if_pos c7]) kc
            · refine S_lload (pc := 64) 0 rfl dX1_payloadWord_64 ?_
              refine S_iload (pc := 66) 4 rfl dX1_payloadWord_66 ?_
              refine S_lshl (pc := 68) dX1_payloadWord_68 ?_
              refine S_goto (pc := 69) (tgt := 78) dX1_payloadWord_69 (by decide) ?_
              exact x_st (by rw [if_neg c7]) kc
set_option maxRecDepth 20000 in
set_option maxHeartbeats 4000000 in
theorem W_X1_payloadWord (K : xK) (L : xL) (a0 : Nat) (a1 : Int32) (h : xH) : Sim K L cX1_payloadWord RX1 "payloadWord" 9 2 (fun q : Int64 × xH => q.2) (xRl cX1_payloadWord) 0 [(0, .ref a0), (1, .int a1)] [] h (f_X1_payloadWord a0 a1 h) := by
  unfold f_X1_payloadWord
  refine S_lconst (pc := 0) dX1_payloadWord_0 lc_0 ?_
  refine S_lstore_n (pc := 1) dX1_payloadWord_1 rfl (Nat.le_of_ble_eq_true rfl) rfl ?_
  refine S_iload_n (pc := 2) 2 rfl dX1_payloadWord_2 rfl ?_
  refine S_ineg (pc := 3) dX1_payloadWord_3 ?_
  refine S_istore (pc := 4) dX1_payloadWord_4 (Nat.le_of_ble_eq_true rfl) rfl ?_
  refine S_iconst (pc := 6) dX1_payloadWord_6 ic_0 ?_
  refine S_istore (pc := 7) dX1_payloadWord_7 (Nat.le_of_ble_eq_true rfl) rfl ?_
  refine S_sub [3, 2, 1, 0] rfl ?_
  refine Sim.bind (hs := fun q8 : Int64 × Int32 × Int32 × xH => q8.2.2.2) (px := 93) (lsx := fun q8 => [(0, .ref a0), (2, .long q8.1), (4, .int q8.2.1), (5, .int q8.2.2.1)]) (L_X1_payloadWord_9 K L xN a0 (0 : Int64) (-a1) (0 : Int32) h) (fun q8 => ?_)
  refine S_lload_n (pc := 93) 1 rfl dX1_payloadWord_93 rfl ?_
  exact Sim.fin ⟨dX1_payloadWord_94, rfl, rfl⟩ rfl
theorem M_X1_payloadWord (l : Launch) (a0 : Nat) (a1 : Int32) (h : xH) {q : Int64 × xH} (hq : f_X1_payloadWord a0 a1 h = some q) : xM l yX1_payloadWord cX1_payloadWord 9 (some .long) 2 [.ref a0, .int a1] h (some (.long q.1)) q.2 := xM_l (by decide +kernel) (Nat.le_of_ble_eq_true rfl) (fun K L => W_X1_payloadWord K L a0 a1 h) hq
theorem dX11_payload_0 : decode cX11_payload 0 = .ok (.iload_n 1, 1) := by decide +kernel
theorem dX11_payload_1 : decode cX11_payload 1 = .ok (.invokestatic 113, 3) := by decide +kernel
theorem dX11_payload_4 : decode cX11_payload 4 = .ok (.ifCond .eq 13, 3) := by decide +kernel
theorem dX11_payload_7 : decode cX11_payload 7 = .ok (.iload_n 2, 1) := by decide +kernel
theorem dX11_payload_8 : decode cX11_payload 8 = .ok (.ifCond .lt 9, 3) := by decide +kernel
theorem dX11_payload_11 : decode cX11_payload 11 = .ok (.iload_n 2, 1) := by decide +kernel
theorem dX11_payload_12 : decode cX11_payload 12 = .ok (.bipush 7, 2) := by decide +kernel
theorem dX11_payload_14 : decode cX11_payload 14 = .ok (.if_icmp .lt 7, 3) := by decide +kernel
theorem dX11_payload_17 : decode cX11_payload 17 = .ok (.ldc2_w 211, 3) := by decide +kernel
theorem dX11_payload_20 : decode cX11_payload 20 = .ok (.lreturn, 1) := by decide +kernel
theorem dX11_payload_21 : decode cX11_payload 21 = .ok (.aload_n 0, 1) := by decide +kernel
theorem dX11_payload_22 : decode cX11_payload 22 = .ok (.getfield 17, 3) := by decide +kernel
theorem dX11_payload_25 : decode cX11_payload 25 = .ok (.iload_n 1, 1) := by decide +kernel
theorem dX11_payload_26 : decode cX11_payload 26 = .ok (.aaload, 1) := by decide +kernel
theorem dX11_payload_27 : decode cX11_payload 27 = .ok (.bipush 64, 2) := by decide +kernel
theorem dX11_payload_29 : decode cX11_payload 29 = .ok (.iload_n 2, 1) := by decide +kernel
theorem dX11_payload_30 : decode cX11_payload 30 = .ok (.imul, 1) := by decide +kernel
theorem dX11_payload_31 : decode cX11_payload 31 = .ok (.invokevirtual 213, 3) := by decide +kernel
theorem dX11_payload_34 : decode cX11_payload 34 = .ok (.lreturn, 1) := by decide +kernel
set_option maxRecDepth 20000 in
set_option maxHeartbeats 4000000 in
theorem W_X11_payload (K : xK) (L : xL) (a0 : Nat) (a1 : Int32) (a2 : Int32) (h : xH) : Sim K L cX11_payload RX11 "payload" 3 3 (fun q : Int64 × xH => q.2) (xRl cX11_payload) 0 [(0, .ref a0), (1, .int a1), (2, .int a2)] [] h (f_X11_payload a0 a1 a2 h) := by
  unfold f_X11_payload
  refine S_iload_n (pc := 0) 1 rfl dX11_payload_0 rfl ?_
  refine S_call_i (pc := 1) (rest := []) (fun q hq => R_S (av := [.int a1]) (M_X11_isVector _ a1 h hq) wd_293 wd_291 wd_292 wd_44 hd_X11_isVector ⟨Nat.le_of_ble_eq_true rfl, Nat.le_of_ble_eq_true rfl⟩ rfl (Nat.le_of_ble_eq_true rfl) dX11_payload_1) (fun _ h => absurd h List.not_mem_nil) (fun q1 => ?_)
  refine S_if_eq (pc := 4) (tgt := 17) dX11_payload_4 (by decide) ?_ ?_
  · refine S_ldc2 (pc := 17) wd_592 dX11_payload_17 ?_
    exact Sim.fin ⟨dX11_payload_20, rfl, rfl⟩ rfl
  · refine S_iload_n (pc := 7) 2 rfl dX11_payload_7 rfl ?_
    refine S_if_lt (pc := 8) (tgt := 17) dX11_payload_8 (by decide) ?_ ?_
    · refine S_ldc2 (pc := 17) wd_592 dX11_payload_17 ?_
      exact Sim.fin ⟨dX11_payload_20, rfl, rfl⟩ rfl
    · refine S_iload_n (pc := 11) 2 rfl dX11_payload_11 rfl ?_
      refine S_bipush (pc := 12) dX11_payload_12 bi_7 ?_
      refine S_icmp_lt (pc := 14) (tgt := 21) dX11_payload_14 (by decide) ?_ ?_
      · refine S_aload_n (pc := 21) 0 rfl dX11_payload_21 rfl ?_
        refine S_getR (pc := 22) fd_X11_vectors wd_190 dX11_payload_22 (fun v2 => ?_)
        refine S_iload_n (pc := 25) 1 rfl dX11_payload_25 rfl ?_
        refine S_aR (pc := 26) (fun _ => rfl) dX11_payload_26 (fun v3 => ?_)
        refine S_bipush (pc := 27) dX11_payload_27 bi_64 ?_
        refine S_iload_n (pc := 29) 2 rfl dX11_payload_29 rfl ?_
        refine S_imul (pc := 30) dX11_payload_30 ?_
        refine S_call_l (pc := 31) (rest := []) (fun q hq => (x_if hq).elim (fun z => R_V (av := [.int ((64 : Int32) * a2)]) (q := (RX1, TX1, 2)) (M_X1_payloadWord _ v3 ((64 : Int32) * a2) q1.2 z.2) z.1 rfl wd_596 wd_593 wd_594 wd_45 wd_595 ⟨rfl, hd_X1_payloadWord⟩ ⟨Nat.le_of_ble_eq_true rfl, Nat.le_of_ble_eq_true rfl⟩ rfl (Nat.le_of_ble_eq_true rfl) dX11_payload_31) (fun hq => (by cases hq))) (fun _ h => absurd h List.not_mem_nil) (fun q4 => ?_)
        exact Sim.fin ⟨dX11_payload_34, rfl, rfl⟩ rfl
      · refine S_ldc2 (pc := 17) wd_592 dX11_payload_17 ?_
        exact Sim.fin ⟨dX11_payload_20, rfl, rfl⟩ rfl
theorem M_X11_payload (l : Launch) (a0 : Nat) (a1 : Int32) (a2 : Int32) (h : xH) {q : Int64 × xH} (hq : f_X11_payload a0 a1 a2 h = some q) : xM l yX11_payload cX11_payload 3 (some .long) 3 [.ref a0, .int a1, .int a2] h (some (.long q.1)) q.2 := xM_l (by decide +kernel) (Nat.le_of_ble_eq_true rfl) (fun K L => W_X11_payload K L a0 a1 a2 h) hq
theorem dX11_put_0 : decode cX11_put 0 = .ok (.iload_n 1, 1) := by decide +kernel
theorem dX11_put_1 : decode cX11_put 1 = .ok (.invokestatic 113, 3) := by decide +kernel
theorem dX11_put_4 : decode cX11_put 4 = .ok (.ifCond .eq 27, 3) := by decide +kernel
theorem dX11_put_7 : decode cX11_put 7 = .ok (.iload_n 3, 1) := by decide +kernel
theorem dX11_put_8 : decode cX11_put 8 = .ok (.invokestatic 149, 3) := by decide +kernel
theorem dX11_put_11 : decode cX11_put 11 = .ok (.ifCond .eq 20, 3) := by decide +kernel
theorem dX11_put_14 : decode cX11_put 14 = .ok (.iload_n 2, 1) := by decide +kernel
theorem dX11_put_15 : decode cX11_put 15 = .ok (.ifCond .lt 16, 3) := by decide +kernel
theorem dX11_put_18 : decode cX11_put 18 = .ok (.iload_n 2, 1) := by decide +kernel
theorem dX11_put_19 : decode cX11_put 19 = .ok (.aload_n 0, 1) := by decide +kernel
theorem dX11_put_20 : decode cX11_put 20 = .ok (.getfield 17, 3) := by decide +kernel
theorem dX11_put_23 : decode cX11_put 23 = .ok (.iload_n 1, 1) := by decide +kernel
theorem dX11_put_24 : decode cX11_put 24 = .ok (.aaload, 1) := by decide +kernel
theorem dX11_put_25 : decode cX11_put 25 = .ok (.getfield 148, 3) := by decide +kernel
theorem dX11_put_28 : decode cX11_put 28 = .ok (.if_icmp .lt 6, 3) := by decide +kernel
theorem dX11_put_31 : decode cX11_put 31 = .ok (.ldc 65, 2) := by decide +kernel
theorem dX11_put_33 : decode cX11_put 33 = .ok (.ireturn, 1) := by decide +kernel
theorem dX11_put_34 : decode cX11_put 34 = .ok (.aload_n 0, 1) := by decide +kernel
theorem dX11_put_35 : decode cX11_put 35 = .ok (.iload_n 1, 1) := by decide +kernel
theorem dX11_put_36 : decode cX11_put 36 = .ok (.invokevirtual 133, 3) := by decide +kernel
theorem dX11_put_39 : decode cX11_put 39 = .ok (.astore 4, 2) := by decide +kernel
theorem dX11_put_41 : decode cX11_put 41 = .ok (.aload 4, 2) := by decide +kernel
theorem dX11_put_43 : decode cX11_put 43 = .ok (.iload_n 2, 1) := by decide +kernel
theorem dX11_put_44 : decode cX11_put 44 = .ok (.invokevirtual 152, 3) := by decide +kernel
theorem dX11_put_47 : decode cX11_put 47 = .ok (.istore 5, 2) := by decide +kernel
theorem dX11_put_49 : decode cX11_put 49 = .ok (.aload 4, 2) := by decide +kernel
theorem dX11_put_51 : decode cX11_put 51 = .ok (.iload_n 2, 1) := by decide +kernel
theorem dX11_put_52 : decode cX11_put 52 = .ok (.iload_n 3, 1) := by decide +kernel
theorem dX11_put_53 : decode cX11_put 53 = .ok (.invokevirtual 155, 3) := by decide +kernel
theorem dX11_put_56 : decode cX11_put 56 = .ok (.iload 5, 2) := by decide +kernel
theorem dX11_put_58 : decode cX11_put 58 = .ok (.ireturn, 1) := by decide +kernel
set_option maxRecDepth 20000 in
set_option maxHeartbeats 4000000 in
theorem W_X11_put (K : xK) (L : xL) (a0 : Nat) (a1 : Int32) (a2 : Int32) (a3 : Int32) (h : xH) : Sim K L cX11_put RX11 "put" 6 4 (fun q : Int32 × xH => q.2) (xRi cX11_put) 0 [(0, .ref a0), (1, .int a1), (2, .int a2), (3, .int a3)] [] h (f_X11_put a0 a1 a2 a3 h) := by
  unfold f_X11_put
  refine S_iload_n (pc := 0) 1 rfl dX11_put_0 rfl ?_
  refine S_call_i (pc := 1) (rest := []) (fun q hq => R_S (av := [.int a1]) (M_X11_isVector _ a1 h hq) wd_293 wd_291 wd_292 wd_44 hd_X11_isVector ⟨Nat.le_of_ble_eq_true rfl, Nat.le_of_ble_eq_true rfl⟩ rfl (Nat.le_of_ble_eq_true rfl) dX11_put_1) (fun _ h => absurd h List.not_mem_nil) (fun q1 => ?_)
  refine S_if_eq (pc := 4) (tgt := 31) dX11_put_4 (by decide) ?_ ?_
  · refine S_ldc (pc := 31) wd_233 dX11_put_31 ?_
    exact Sim.fin ⟨dX11_put_33, rfl, rfl⟩ rfl
  · refine S_iload_n (pc := 7) 3 rfl dX11_put_7 rfl ?_
    refine S_call_i (pc := 8) (rest := []) (fun q hq => R_S (av := [.int a3]) (M_X11_isValue _ a3 q1.2 hq) wd_450 wd_448 wd_449 wd_44 hd_X11_isValue ⟨Nat.le_of_ble_eq_true rfl, Nat.le_of_ble_eq_true rfl⟩ rfl (Nat.le_of_ble_eq_true rfl) dX11_put_8) (fun _ h => absurd h List.not_mem_nil) (fun q2 => ?_)
    refine S_if_eq (pc := 11) (tgt := 31) dX11_put_11 (by decide) ?_ ?_
    · refine S_ldc (pc := 31) wd_233 dX11_put_31 ?_
      exact Sim.fin ⟨dX11_put_33, rfl, rfl⟩ rfl
    · refine S_iload_n (pc := 14) 2 rfl dX11_put_14 rfl ?_
      refine S_if_lt (pc := 15) (tgt := 31) dX11_put_15 (by decide) ?_ ?_
      · refine S_ldc (pc := 31) wd_233 dX11_put_31 ?_
        exact Sim.fin ⟨dX11_put_33, rfl, rfl⟩ rfl
      · refine S_iload_n (pc := 18) 2 rfl dX11_put_18 rfl ?_
        refine S_aload_n (pc := 19) 0 rfl dX11_put_19 rfl ?_
        refine S_getR (pc := 20) fd_X11_vectors wd_190 dX11_put_20 (fun v3 => ?_)
        refine S_iload_n (pc := 23) 1 rfl dX11_put_23 rfl ?_
        refine S_aR (pc := 24) (fun _ => rfl) dX11_put_24 (fun v4 => ?_)
        refine S_getI (pc := 25) fd_X1_length wd_81 dX11_put_25 (fun v5 => ?_)
        refine S_icmp_lt (pc := 28) (tgt := 34) dX11_put_28 (by decide) ?_ ?_
        · refine S_aload_n (pc := 34) 0 rfl dX11_put_34 rfl ?_
          refine S_iload_n (pc := 35) 1 rfl dX11_put_35 rfl ?_
          refine S_call_r (pc := 36) (rest := []) (fun q hq => (x_if hq).elim (fun z => R_V (av := [.int a1]) (q := (RX11, TX11, 12)) (M_X11_vectorToChange _ a0 a1 q2.2 z.2) z.1 rfl wd_394 wd_391 wd_393 wd_44 wd_8 ⟨rfl, hd_X11_vectorToChange⟩ ⟨Nat.le_of_ble_eq_true rfl, Nat.le_of_ble_eq_true rfl⟩ rfl (Nat.le_of_ble_eq_true rfl) dX11_put_36) (fun hq => (by cases hq))) (fun _ h => absurd h List.not_mem_nil) (fun q6 => ?_)
          refine S_astore (pc := 39) dX11_put_39 (Nat.le_of_ble_eq_true rfl) rfl ?_
          refine S_aload (pc := 41) 0 rfl dX11_put_41 ?_
          refine S_iload_n (pc := 43) 3 rfl dX11_put_43 rfl ?_
          refine S_call_i (pc := 44) (rest := []) (fun q hq => (x_if hq).elim (fun z => R_V (av := [.int a2]) (q := (RX1, TX1, 2)) (M_X1_bitAt _ q6.1 a2 q6.2 z.2) z.1 rfl wd_454 wd_451 wd_452 wd_45 wd_453 ⟨rfl, hd_X1_bitAt⟩ ⟨Nat.le_of_ble_eq_true rfl, Nat.le_of_ble_eq_true rfl⟩ rfl (Nat.le_of_ble_eq_true rfl) dX11_put_44) (fun hq => (by cases hq))) (fun _ h => absurd h List.not_mem_nil) (fun q7 => ?_)
          refine S_istore (pc := 47) dX11_put_47 (Nat.le_of_ble_eq_true rfl) rfl ?_
          refine S_aload (pc := 49) 1 rfl dX11_put_49 ?_
          refine S_iload_n (pc := 51) 4 rfl dX11_put_51 rfl ?_
          refine S_iload_n (pc := 52) 5 rfl dX11_put_52 rfl ?_
          refine S_call_v (pc := 53) (rest := []) (fun q hq => (x_if hq).elim (fun z => R_V (av := [.int a2, .int a3]) (q := (RX1, TX1, 2)) (M_X1_write _ q6.1 a2 a3 q7.2 z.2) z.1 rfl wd_439 wd_455 wd_437 wd_45 wd_438 ⟨rfl, hd_X1_write⟩ ⟨Nat.le_of_ble_eq_true rfl, Nat.le_of_ble_eq_true rfl⟩ rfl (Nat.le_of_ble_eq_true rfl) dX11_put_53) (fun hq => (by cases hq))) (fun _ h => absurd h List.not_mem_nil) (fun q8 => ?_)
          refine S_iload (pc := 56) 0 rfl dX11_put_56 ?_
          exact Sim.fin ⟨dX11_put_58, rfl, rfl⟩ rfl
        · refine S_ldc (pc := 31) wd_233 dX11_put_31 ?_
          exact Sim.fin ⟨dX11_put_33, rfl, rfl⟩ rfl
theorem M_X11_put (l : Launch) (a0 : Nat) (a1 : Int32) (a2 : Int32) (a3 : Int32) (h : xH) {q : Int32 × xH} (hq : f_X11_put a0 a1 a2 a3 h = some q) : xM l yX11_put cX11_put 6 (some .int) 4 [.ref a0, .int a1, .int a2, .int a3] h (some (.int q.1)) q.2 := xM_i (by decide +kernel) (Nat.le_of_ble_eq_true rfl) (fun K L => W_X11_put K L a0 a1 a2 a3 h) hq
theorem dX11_rank_0 : decode cX11_rank 0 = .ok (.aload_n 0, 1) := by decide +kernel
theorem dX11_rank_1 : decode cX11_rank 1 = .ok (.iload_n 1, 1) := by decide +kernel
theorem dX11_rank_2 : decode cX11_rank 2 = .ok (.iload_n 2, 1) := by decide +kernel
theorem dX11_rank_3 : decode cX11_rank 3 = .ok (.invokevirtual 224, 3) := by decide +kernel
theorem dX11_rank_6 : decode cX11_rank 6 = .ok (.ifCond .eq 10, 3) := by decide +kernel
theorem dX11_rank_9 : decode cX11_rank 9 = .ok (.iload_n 3, 1) := by decide +kernel
theorem dX11_rank_10 : decode cX11_rank 10 = .ok (.invokestatic 149, 3) := by decide +kernel
theorem dX11_rank_13 : decode cX11_rank 13 = .ok (.ifCond .ne 6, 3) := by decide +kernel
theorem dX11_rank_16 : decode cX11_rank 16 = .ok (.ldc 65, 2) := by decide +kernel
theorem dX11_rank_18 : decode cX11_rank 18 = .ok (.ireturn, 1) := by decide +kernel
theorem dX11_rank_19 : decode cX11_rank 19 = .ok (.aload_n 0, 1) := by decide +kernel
theorem dX11_rank_20 : decode cX11_rank 20 = .ok (.getfield 17, 3) := by decide +kernel
theorem dX11_rank_23 : decode cX11_rank 23 = .ok (.iload_n 1, 1) := by decide +kernel
theorem dX11_rank_24 : decode cX11_rank 24 = .ok (.aaload, 1) := by decide +kernel
theorem dX11_rank_25 : decode cX11_rank 25 = .ok (.iload_n 2, 1) := by decide +kernel
theorem dX11_rank_26 : decode cX11_rank 26 = .ok (.invokevirtual 205, 3) := by decide +kernel
theorem dX11_rank_29 : decode cX11_rank 29 = .ok (.istore 4, 2) := by decide +kernel
theorem dX11_rank_31 : decode cX11_rank 31 = .ok (.iload_n 3, 1) := by decide +kernel
theorem dX11_rank_32 : decode cX11_rank 32 = .ok (.iconst 1, 1) := by decide +kernel
theorem dX11_rank_33 : decode cX11_rank 33 = .ok (.if_icmp .ne 8, 3) := by decide +kernel
theorem dX11_rank_36 : decode cX11_rank 36 = .ok (.iload 4, 2) := by decide +kernel
theorem dX11_rank_38 : decode cX11_rank 38 = .ok (.goto 7, 3) := by decide +kernel
theorem dX11_rank_41 : decode cX11_rank 41 = .ok (.iload_n 2, 1) := by decide +kernel
theorem dX11_rank_42 : decode cX11_rank 42 = .ok (.iload 4, 2) := by decide +kernel
theorem dX11_rank_44 : decode cX11_rank 44 = .ok (.isub, 1) := by decide +kernel
theorem dX11_rank_45 : decode cX11_rank 45 = .ok (.ireturn, 1) := by decide +kernel
set_option maxRecDepth 20000 in
set_option maxHeartbeats 4000000 in
theorem W_X11_rank (K : xK) (L : xL) (a0 : Nat) (a1 : Int32) (a2 : Int32) (a3 : Int32) (h : xH) : Sim K L cX11_rank RX11 "rank" 5 3 (fun q : Int32 × xH => q.2) (xRi cX11_rank) 0 [(0, .ref a0), (1, .int a1), (2, .int a2), (3, .int a3)] [] h (f_X11_rank a0 a1 a2 a3 h) := by
  unfold f_X11_rank
  refine S_aload_n (pc := 0) 0 rfl dX11_rank_0 rfl ?_
  refine S_iload_n (pc := 1) 1 rfl dX11_rank_1 rfl ?_
  refine S_iload_n (pc := 2) 2 rfl dX11_rank_2 rfl ?_
  refine S_call_i (pc := 3) (rest := []) (fun q hq => (x_if hq).elim (fun z => R_V (av := [.int a1, .int a2]) (q := (RX11, TX11, 12)) (M_X11_isPlaceOrEnd _ a0 a1 a2 h z.2) z.1 rfl wd_620 wd_617 wd_619 wd_44 wd_9 ⟨rfl, hd_X11_isPlaceOrEnd⟩ ⟨Nat.le_of_ble_eq_true rfl, Nat.le_of_ble_eq_true rfl⟩ rfl (Nat.le_of_ble_eq_true rfl) dX11_rank_3) (fun hq => (by cases hq))) (fun _ h => absurd h List.not_mem_nil) (fun q1 => ?_)
  refine S_if_eq (pc := 6) (tgt := 16) dX11_rank_6 (by decide) ?_ ?_
  · refine S_ldc (pc := 16) wd_233 dX11_rank_16 ?_
    exact Sim.fin ⟨dX11_rank_18, rfl, rfl⟩ rfl
  · refine S_iload_n (pc := 9) 3 rfl dX11_rank_9 rfl ?_
    refine S_call_i (pc := 10) (rest := []) (fun q hq => R_S (av := [.int a3]) (M_X11_isValue _ a3 q1.2 hq) wd_450 wd_448 wd_449 wd_44 hd_X11_isValue ⟨Nat.le_of_ble_eq_true rfl, Nat.le_of_ble_eq_true rfl⟩ rfl (Nat.le_of_ble_eq_true rfl) dX11_rank_10) (fun _ h => absurd h List.not_mem_nil) (fun q2 => ?_)
    refine S_if_ne (pc := 13) (tgt := 19) dX11_rank_13 (by decide) ?_ ?_
    · refine S_ldc (pc := 16) wd_233 dX11_rank_16 ?_
      exact Sim.fin ⟨dX11_rank_18, rfl, rfl⟩ rfl
    · refine S_aload_n (pc := 19) 0 rfl dX11_rank_19 rfl ?_
      refine S_getR (pc := 20) fd_X11_vectors wd_190 dX11_rank_20 (fun v3 => ?_)
      refine S_iload_n (pc := 23) 1 rfl dX11_rank_23 rfl ?_
      refine S_aR (pc := 24) (fun _ => rfl) dX11_rank_24 (fun v4 => ?_)
      refine S_iload_n (pc := 25) 2 rfl dX11_rank_25 rfl ?_
      refine S_call_i (pc := 26) (rest := []) (fun q hq => (x_if hq).elim (fun z => R_V (av := [.int a2]) (q := (RX1, TX1, 2)) (M_X1_onesAhead _ v4 a2 q2.2 z.2) z.1 rfl wd_497 wd_578 wd_495 wd_45 wd_496 ⟨rfl, hd_X1_onesAhead⟩ ⟨Nat.le_of_ble_eq_true rfl, Nat.le_of_ble_eq_true rfl⟩ rfl (Nat.le_of_ble_eq_true rfl) dX11_rank_26) (fun hq => (by cases hq))) (fun _ h => absurd h List.not_mem_nil) (fun q5 => ?_)
      refine S_istore (pc := 29) dX11_rank_29 (Nat.le_of_ble_eq_true rfl) rfl ?_
      refine S_iload_n (pc := 31) 4 rfl dX11_rank_31 rfl ?_
      refine S_iconst (pc := 32) dX11_rank_32 ic_1 ?_
      refine S_icmp_ne (pc := 33) (tgt := 41) dX11_rank_33 (by decide) ?_ ?_
      · refine S_iload (pc := 36) 0 rfl dX11_rank_36 ?_
        refine S_goto (pc := 38) (tgt := 45) dX11_rank_38 (by decide) ?_
        exact Sim.fin ⟨dX11_rank_45, rfl, rfl⟩ rfl
      · refine S_iload_n (pc := 41) 3 rfl dX11_rank_41 rfl ?_
        refine S_iload (pc := 42) 0 rfl dX11_rank_42 ?_
        refine S_isub (pc := 44) dX11_rank_44 ?_
        exact Sim.fin ⟨dX11_rank_45, rfl, rfl⟩ rfl
theorem M_X11_rank (l : Launch) (a0 : Nat) (a1 : Int32) (a2 : Int32) (a3 : Int32) (h : xH) {q : Int32 × xH} (hq : f_X11_rank a0 a1 a2 a3 h = some q) : xM l yX11_rank cX11_rank 5 (some .int) 3 [.ref a0, .int a1, .int a2, .int a3] h (some (.int q.1)) q.2 := xM_i (by decide +kernel) (Nat.le_of_ble_eq_true rfl) (fun K L => W_X11_rank K L a0 a1 a2 a3 h) hq
theorem dX3_forgetAll_0 : decode cX3_forgetAll 0 = .ok (.aload_n 0, 1) := by decide +kernel
theorem dX3_forgetAll_1 : decode cX3_forgetAll 1 = .ok (.iconst 0, 1) := by decide +kernel
theorem dX3_forgetAll_2 : decode cX3_forgetAll 2 = .ok (.putfield 26, 3) := by decide +kernel
theorem dX3_forgetAll_5 : decode cX3_forgetAll 5 = .ok (.return_, 1) := by decide +kernel
set_option maxRecDepth 20000 in
set_option maxHeartbeats 4000000 in
theorem W_X3_forgetAll (K : xK) (L : xL) (a0 : Nat) (h : xH) : Sim K L cX3_forgetAll RX3 "forgetAll" 1 0 (fun q : xH => q) (xRv cX3_forgetAll) 0 [(0, .ref a0)] [] h (f_X3_forgetAll a0 h) := by
  unfold f_X3_forgetAll
  refine S_aload_n (pc := 0) 0 rfl dX3_forgetAll_0 rfl ?_
  refine S_iconst (pc := 1) dX3_forgetAll_1 ic_0 ?_
  refine S_putI (pc := 2) fd_X3_held wd_100 rfl rfl dX3_forgetAll_2 (fun h1 => ?_)
  exact Sim.fin ⟨dX3_forgetAll_5, rfl, rfl⟩ rfl
theorem M_X3_forgetAll (l : Launch) (a0 : Nat) (h : xH) {q : xH} (hq : f_X3_forgetAll a0 h = some q) : xM l yX3_forgetAll cX3_forgetAll 1 none 0 [.ref a0] h none q := xM_v (by decide +kernel) (Nat.le_of_ble_eq_true rfl) (fun K L => W_X3_forgetAll K L a0 h) hq
theorem dX11_restore_0 : decode cX11_restore 0 = .ok (.iload_n 1, 1) := by decide +kernel
theorem dX11_restore_1 : decode cX11_restore 1 = .ok (.ifCond .lt 8, 3) := by decide +kernel
theorem dX11_restore_4 : decode cX11_restore 4 = .ok (.iload_n 1, 1) := by decide +kernel
theorem dX11_restore_5 : decode cX11_restore 5 = .ok (.iconst 2, 1) := by decide +kernel
theorem dX11_restore_6 : decode cX11_restore 6 = .ok (.if_icmp .lt 6, 3) := by decide +kernel
theorem dX11_restore_9 : decode cX11_restore 9 = .ok (.ldc 65, 2) := by decide +kernel
theorem dX11_restore_11 : decode cX11_restore 11 = .ok (.ireturn, 1) := by decide +kernel
theorem dX11_restore_12 : decode cX11_restore 12 = .ok (.aload_n 0, 1) := by decide +kernel
theorem dX11_restore_13 : decode cX11_restore 13 = .ok (.getfield 24, 3) := by decide +kernel
theorem dX11_restore_16 : decode cX11_restore 16 = .ok (.iload_n 1, 1) := by decide +kernel
theorem dX11_restore_17 : decode cX11_restore 17 = .ok (.baload, 1) := by decide +kernel
theorem dX11_restore_18 : decode cX11_restore 18 = .ok (.ifCond .ne 6, 3) := by decide +kernel
theorem dX11_restore_21 : decode cX11_restore 21 = .ok (.ldc 179, 2) := by decide +kernel
theorem dX11_restore_23 : decode cX11_restore 23 = .ok (.ireturn, 1) := by decide +kernel
theorem dX11_restore_24 : decode cX11_restore 24 = .ok (.iconst 0, 1) := by decide +kernel
theorem dX11_restore_25 : decode cX11_restore 25 = .ok (.istore_n 2, 1) := by decide +kernel
theorem dX11_restore_26 : decode cX11_restore 26 = .ok (.iload_n 2, 1) := by decide +kernel
theorem dX11_restore_27 : decode cX11_restore 27 = .ok (.iconst 4, 1) := by decide +kernel
theorem dX11_restore_28 : decode cX11_restore 28 = .ok (.if_icmp .ge 28, 3) := by decide +kernel
theorem dX11_restore_31 : decode cX11_restore 31 = .ok (.aload_n 0, 1) := by decide +kernel
theorem dX11_restore_32 : decode cX11_restore 32 = .ok (.getfield 17, 3) := by decide +kernel
theorem dX11_restore_35 : decode cX11_restore 35 = .ok (.iload_n 2, 1) := by decide +kernel
theorem dX11_restore_36 : decode cX11_restore 36 = .ok (.aaload, 1) := by decide +kernel
theorem dX11_restore_37 : decode cX11_restore 37 = .ok (.aload_n 0, 1) := by decide +kernel
theorem dX11_restore_38 : decode cX11_restore 38 = .ok (.getfield 21, 3) := by decide +kernel
theorem dX11_restore_41 : decode cX11_restore 41 = .ok (.iconst 4, 1) := by decide +kernel
theorem dX11_restore_42 : decode cX11_restore 42 = .ok (.iload_n 1, 1) := by decide +kernel
theorem dX11_restore_43 : decode cX11_restore 43 = .ok (.imul, 1) := by decide +kernel
theorem dX11_restore_44 : decode cX11_restore 44 = .ok (.iload_n 2, 1) := by decide +kernel
theorem dX11_restore_45 : decode cX11_restore 45 = .ok (.iadd, 1) := by decide +kernel
theorem dX11_restore_46 : decode cX11_restore 46 = .ok (.aaload, 1) := by decide +kernel
theorem dX11_restore_47 : decode cX11_restore 47 = .ok (.invokevirtual 236, 3) := by decide +kernel
theorem dX11_restore_50 : decode cX11_restore 50 = .ok (.iinc 2 1, 3) := by decide +kernel
theorem dX11_restore_53 : decode cX11_restore 53 = .ok (.goto (-27), 3) := by decide +kernel
theorem dX11_restore_56 : decode cX11_restore 56 = .ok (.aload_n 0, 1) := by decide +kernel
theorem dX11_restore_57 : decode cX11_restore 57 = .ok (.getfield 36, 3) := by decide +kernel
theorem dX11_restore_60 : decode cX11_restore 60 = .ok (.invokevirtual 247, 3) := by decide +kernel
theorem dX11_restore_63 : decode cX11_restore 63 = .ok (.aload_n 0, 1) := by decide +kernel
theorem dX11_restore_64 : decode cX11_restore 64 = .ok (.invokevirtual 244, 3) := by decide +kernel
theorem dX11_restore_67 : decode cX11_restore 67 = .ok (.ireturn, 1) := by decide +kernel
set_option maxRecDepth 20000 in
set_option maxHeartbeats 4000000 in
theorem L_X11_restore_26 (K : xK) (L : xL) : ∀ (n : Nat) (a0 : Nat) (a1 : Int32) (a2 : Int32) (h : xH), Sim K L cX11_restore RX11 "restore" 3 5 (fun q : Int32 × xH => q.2) (fun q pc' ls' st' h' => pc' = 56 ∧ ls' = [(0, .ref a0), (1, .int a1), (2, .int q.1)] ∧ st' = [] ∧ h' = q.2) 26 [(0, .ref a0), (1, .int a1), (2, .int a2)] [] h (f_X11_restore_L26 n a0 a1 a2 h) := by
  intro n
  induction n with
  | zero =>
    intro a0 a1 a2 h
    exact Sim.none
  | succ n ih =>
    intro a0 a1 a2 h
    unfold f_X11_restore_L26
    refine S_iload_n (pc := 26) 2 rfl dX11_restore_26 rfl ?_
    refine S_iconst (pc := 27) dX11_restore_27 ic_4 ?_
    refine S_icmp_ge (pc := 28) (tgt := 56) dX11_restore_28 (by decide) ?_ ?_
    · refine S_sub [0, 1, 2] rfl ?_
      exact Sim.fin ⟨rfl, rfl, rfl, rfl⟩ rfl
    · refine S_aload_n (pc := 31) 0 rfl dX11_restore_31 rfl ?_
      refine S_getR (pc := 32) fd_X11_vectors wd_190 dX11_restore_32 (fun v3 => ?_)
      refine S_iload_n (pc := 35) 2 rfl dX11_restore_35 rfl ?_
      refine S_aR (pc := 36) (fun _ => rfl) dX11_restore_36 (fun v4 => ?_)
      refine S_aload_n (pc := 37) 0 rfl dX11_restore_37 rfl ?_
      refine S_getR (pc := 38) fd_X11_images wd_191 dX11_restore_38 (fun v5 => ?_)
      refine S_iconst (pc := 41) dX11_restore_41 ic_4 ?_
      refine S_iload_n (pc := 42) 1 rfl dX11_restore_42 rfl ?_
      refine S_imul (pc := 43) dX11_restore_43 ?_
      refine S_iload_n (pc := 44) 2 rfl dX11_restore_44 rfl ?_
      refine S_iadd (pc := 45) dX11_restore_45 ?_
      refine S_aR (pc := 46) (fun _ => rfl) dX11_restore_46 (fun v6 => ?_)
      refine S_call_v (pc := 47) (rest := []) (fun q hq => (x_if hq).elim (fun z => R_V (av := [.ref v6]) (q := (RX1, TX1, 2)) (M_X1_copyFrom _ v4 v6 h z.2) z.1 rfl wd_402 wd_665 wd_400 wd_45 wd_401 ⟨rfl, hd_X1_copyFrom⟩ ⟨Nat.le_of_ble_eq_true rfl, Nat.le_of_ble_eq_true rfl⟩ rfl (Nat.le_of_ble_eq_true rfl) dX11_restore_47) (fun hq => (by cases hq))) (fun _ h => absurd h List.not_mem_nil) (fun q7 => ?_)
      refine S_iinc (pc := 50) (v := a2 + (1 : Int32)) 2 rfl dX11_restore_50 (x_inc ic_1) (Nat.le_of_ble_eq_true rfl) rfl ?_
      refine S_goto (pc := 53) (tgt := 26) dX11_restore_53 (by decide) ?_
      refine S_sub [1, 2, 0] rfl ?_
      exact ih a0 a1 (a2 + (1 : Int32)) q7
set_option maxRecDepth 20000 in
set_option maxHeartbeats 4000000 in
theorem W_X11_restore (K : xK) (L : xL) (a0 : Nat) (a1 : Int32) (h : xH) : Sim K L cX11_restore RX11 "restore" 3 5 (fun q : Int32 × xH => q.2) (xRi cX11_restore) 0 [(0, .ref a0), (1, .int a1)] [] h (f_X11_restore a0 a1 h) := by
  unfold f_X11_restore
  refine S_iload_n (pc := 0) 1 rfl dX11_restore_0 rfl ?_
  refine S_if_lt (pc := 1) (tgt := 9) dX11_restore_1 (by decide) ?_ ?_
  · refine S_ldc (pc := 9) wd_233 dX11_restore_9 ?_
    exact Sim.fin ⟨dX11_restore_11, rfl, rfl⟩ rfl
  · refine S_iload_n (pc := 4) 1 rfl dX11_restore_4 rfl ?_
    refine S_iconst (pc := 5) dX11_restore_5 ic_2 ?_
    refine S_icmp_lt (pc := 6) (tgt := 12) dX11_restore_6 (by decide) ?_ ?_
    · refine S_aload_n (pc := 12) 0 rfl dX11_restore_12 rfl ?_
      refine S_getR (pc := 13) fd_X11_imageKept wd_192 dX11_restore_13 (fun v1 => ?_)
      refine S_iload_n (pc := 16) 1 rfl dX11_restore_16 rfl ?_
      refine S_aZ (pc := 17) dX11_restore_17 (fun v2 => ?_)
      refine S_if_ne (pc := 18) (tgt := 24) dX11_restore_18 (by decide) ?_ ?_
      · refine S_ldc (pc := 21) wd_524 dX11_restore_21 ?_
        exact Sim.fin ⟨dX11_restore_23, rfl, rfl⟩ rfl
      · refine S_iconst (pc := 24) dX11_restore_24 ic_0 ?_
        refine S_istore_n (pc := 25) dX11_restore_25 rfl (Nat.le_of_ble_eq_true rfl) rfl ?_
        refine S_sub [1, 2, 0] rfl ?_
        refine Sim.bind (hs := fun q8 : Int32 × xH => q8.2) (px := 56) (lsx := fun q8 => [(0, .ref a0), (1, .int a1), (2, .int q8.1)]) (L_X11_restore_26 K L xN a0 a1 (0 : Int32) h) (fun q8 => ?_)
        refine S_aload_n (pc := 56) 0 rfl dX11_restore_56 rfl ?_
        refine S_getR (pc := 57) fd_X11_history wd_194 dX11_restore_57 (fun v9 => ?_)
        refine S_call_v (pc := 60) (rest := []) (fun q hq => (x_if hq).elim (fun z => R_V (av := []) (q := (RX3, TX3, 4)) (M_X3_forgetAll _ v9 q8.2 z.2) z.1 rfl wd_683 wd_680 wd_681 wd_46 wd_682 ⟨rfl, hd_X3_forgetAll⟩ ⟨Nat.le_of_ble_eq_true rfl, Nat.le_of_ble_eq_true rfl⟩ rfl (Nat.le_of_ble_eq_true rfl) dX11_restore_60) (fun hq => (by cases hq))) (fun _ h => absurd h List.not_mem_nil) (fun q10 => ?_)
        refine S_aload_n (pc := 63) 0 rfl dX11_restore_63 rfl ?_
        refine S_call_i (pc := 64) (rest := []) (fun q hq => (x_if hq).elim (fun z => R_V (av := []) (q := (RX11, TX11, 12)) (M_X11_onesOfAll _ a0 q10 z.2) z.1 rfl wd_675 wd_672 wd_674 wd_44 wd_10 ⟨rfl, hd_X11_onesOfAll⟩ ⟨Nat.le_of_ble_eq_true rfl, Nat.le_of_ble_eq_true rfl⟩ rfl (Nat.le_of_ble_eq_true rfl) dX11_restore_64) (fun hq => (by cases hq))) (fun _ h => absurd h List.not_mem_nil) (fun q11 => ?_)
        exact Sim.fin ⟨dX11_restore_67, rfl, rfl⟩ rfl
    · refine S_ldc (pc := 9) wd_233 dX11_restore_9 ?_
      exact Sim.fin ⟨dX11_restore_11, rfl, rfl⟩ rfl
theorem M_X11_restore (l : Launch) (a0 : Nat) (a1 : Int32) (h : xH) {q : Int32 × xH} (hq : f_X11_restore a0 a1 h = some q) : xM l yX11_restore cX11_restore 3 (some .int) 5 [.ref a0, .int a1] h (some (.int q.1)) q.2 := xM_i (by decide +kernel) (Nat.le_of_ble_eq_true rfl) (fun K L => W_X11_restore K L a0 a1 h) hq
theorem dX5_begin_0 : decode cX5_begin 0 = .ok (.aload_n 0, 1) := by decide +kernel
theorem dX5_begin_1 : decode cX5_begin 1 = .ok (.iconst 0, 1) := by decide +kernel
theorem dX5_begin_2 : decode cX5_begin 2 = .ok (.putfield 15, 3) := by decide +kernel
theorem dX5_begin_5 : decode cX5_begin 5 = .ok (.aload_n 0, 1) := by decide +kernel
theorem dX5_begin_6 : decode cX5_begin 6 = .ok (.iload_n 1, 1) := by decide +kernel
theorem dX5_begin_7 : decode cX5_begin 7 = .ok (.putfield 19, 3) := by decide +kernel
theorem dX5_begin_10 : decode cX5_begin 10 = .ok (.aload_n 0, 1) := by decide +kernel
theorem dX5_begin_11 : decode cX5_begin 11 = .ok (.iload_n 2, 1) := by decide +kernel
theorem dX5_begin_12 : decode cX5_begin 12 = .ok (.putfield 23, 3) := by decide +kernel
theorem dX5_begin_15 : decode cX5_begin 15 = .ok (.aload_n 0, 1) := by decide +kernel
theorem dX5_begin_16 : decode cX5_begin 16 = .ok (.getfield 9, 3) := by decide +kernel
theorem dX5_begin_19 : decode cX5_begin 19 = .ok (.iconst 0, 1) := by decide +kernel
theorem dX5_begin_20 : decode cX5_begin 20 = .ok (.invokestatic 26, 3) := by decide +kernel
theorem dX5_begin_23 : decode cX5_begin 23 = .ok (.return_, 1) := by decide +kernel
set_option maxRecDepth 20000 in
set_option maxHeartbeats 4000000 in
theorem W_X5_begin (K : xK) (L : xL) (a0 : Nat) (a1 : Int32) (a2 : Int32) (h : xH) : Sim K L cX5_begin RX5 "begin" 3 1 (fun q : xH => q) (xRv cX5_begin) 0 [(0, .ref a0), (1, .int a1), (2, .int a2)] [] h (f_X5_begin a0 a1 a2 h) := by
  unfold f_X5_begin
  refine S_aload_n (pc := 0) 0 rfl dX5_begin_0 rfl ?_
  refine S_iconst (pc := 1) dX5_begin_1 ic_0 ?_
  refine S_putI (pc := 2) fd_X5_missing wd_174 rfl rfl dX5_begin_2 (fun h1 => ?_)
  refine S_aload_n (pc := 5) 0 rfl dX5_begin_5 rfl ?_
  refine S_iload_n (pc := 6) 1 rfl dX5_begin_6 rfl ?_
  refine S_putI (pc := 7) fd_X5_lane wd_176 rfl rfl dX5_begin_7 (fun h2 => ?_)
  refine S_aload_n (pc := 10) 0 rfl dX5_begin_10 rfl ?_
  refine S_iload_n (pc := 11) 2 rfl dX5_begin_11 rfl ?_
  refine S_putI (pc := 12) fd_X5_length wd_178 rfl rfl dX5_begin_12 (fun h3 => ?_)
  refine S_aload_n (pc := 15) 0 rfl dX5_begin_15 rfl ?_
  refine S_getR (pc := 16) fd_X5_items wd_172 dX5_begin_16 (fun v4 => ?_)
  refine S_iconst (pc := 19) dX5_begin_19 ic_0 ?_
  refine S_call_v (pc := 20) (rest := []) (fun q hq => R_S (av := [.ref v4, .int (0 : Int32)]) (M_J7_fill_53178 _ v4 (0 : Int32) h3 hq) wd_245 wd_243 wd_244 wd_51 hd_J7_fill_53178 ⟨Nat.le_of_ble_eq_true rfl, Nat.le_of_ble_eq_true rfl⟩ rfl (Nat.le_of_ble_eq_true rfl) dX5_begin_20) (fun _ h => absurd h List.not_mem_nil) (fun q5 => ?_)
  exact Sim.fin ⟨dX5_begin_23, rfl, rfl⟩ rfl
theorem M_X5_begin (l : Launch) (a0 : Nat) (a1 : Int32) (a2 : Int32) (h : xH) {q : xH} (hq : f_X5_begin a0 a1 a2 h = some q) : xM l yX5_begin cX5_begin 3 none 1 [.ref a0, .int a1, .int a2] h none q := xM_v (by decide +kernel) (Nat.le_of_ble_eq_true rfl) (fun K L => W_X5_begin K L a0 a1 a2 h) hq
theorem dX11_row_0 : decode cX11_row 0 = .ok (.iload_n 1, 1) := by decide +kernel
theorem dX11_row_1 : decode cX11_row 1 = .ok (.invokestatic 61, 3) := by decide +kernel
theorem dX11_row_4 : decode cX11_row 4 = .ok (.ifCond .eq 18, 3) := by decide +kernel
theorem dX11_row_7 : decode cX11_row 7 = .ok (.iload_n 2, 1) := by decide +kernel
theorem dX11_row_8 : decode cX11_row 8 = .ok (.ifCond .lt 14, 3) := by decide +kernel
theorem dX11_row_11 : decode cX11_row 11 = .ok (.iload_n 2, 1) := by decide +kernel
theorem dX11_row_12 : decode cX11_row 12 = .ok (.iconst 2, 1) := by decide +kernel
theorem dX11_row_13 : decode cX11_row 13 = .ok (.if_icmp .gt 9, 3) := by decide +kernel
theorem dX11_row_16 : decode cX11_row 16 = .ok (.iload_n 3, 1) := by decide +kernel
theorem dX11_row_17 : decode cX11_row 17 = .ok (.bipush 40, 2) := by decide +kernel
theorem dX11_row_19 : decode cX11_row 19 = .ok (.if_icmp .le 6, 3) := by decide +kernel
theorem dX11_row_22 : decode cX11_row 22 = .ok (.ldc 65, 2) := by decide +kernel
theorem dX11_row_24 : decode cX11_row 24 = .ok (.ireturn, 1) := by decide +kernel
theorem dX11_row_25 : decode cX11_row 25 = .ok (.iload_n 3, 1) := by decide +kernel
theorem dX11_row_26 : decode cX11_row 26 = .ok (.ifCond .ge 9, 3) := by decide +kernel
theorem dX11_row_29 : decode cX11_row 29 = .ok (.aload_n 0, 1) := by decide +kernel
theorem dX11_row_30 : decode cX11_row 30 = .ok (.iconst 4, 1) := by decide +kernel
theorem dX11_row_31 : decode cX11_row 31 = .ok (.invokevirtual 66, 3) := by decide +kernel
theorem dX11_row_34 : decode cX11_row 34 = .ok (.ireturn, 1) := by decide +kernel
theorem dX11_row_35 : decode cX11_row 35 = .ok (.aload_n 0, 1) := by decide +kernel
theorem dX11_row_36 : decode cX11_row 36 = .ok (.getfield 11, 3) := by decide +kernel
theorem dX11_row_39 : decode cX11_row 39 = .ok (.iload_n 1, 1) := by decide +kernel
theorem dX11_row_40 : decode cX11_row 40 = .ok (.aaload, 1) := by decide +kernel
theorem dX11_row_41 : decode cX11_row 41 = .ok (.iload_n 2, 1) := by decide +kernel
theorem dX11_row_42 : decode cX11_row 42 = .ok (.iload_n 3, 1) := by decide +kernel
theorem dX11_row_43 : decode cX11_row 43 = .ok (.invokevirtual 70, 3) := by decide +kernel
theorem dX11_row_46 : decode cX11_row 46 = .ok (.aload_n 0, 1) := by decide +kernel
theorem dX11_row_47 : decode cX11_row 47 = .ok (.iload_n 3, 1) := by decide +kernel
theorem dX11_row_48 : decode cX11_row 48 = .ok (.invokevirtual 74, 3) := by decide +kernel
theorem dX11_row_51 : decode cX11_row 51 = .ok (.ireturn, 1) := by decide +kernel
set_option maxRecDepth 20000 in
set_option maxHeartbeats 4000000 in
theorem W_X11_row (K : xK) (L : xL) (a0 : Nat) (a1 : Int32) (a2 : Int32) (a3 : Int32) (h : xH) : Sim K L cX11_row RX11 "row" 4 2 (fun q : Int32 × xH => q.2) (xRi cX11_row) 0 [(0, .ref a0), (1, .int a1), (2, .int a2), (3, .int a3)] [] h (f_X11_row a0 a1 a2 a3 h) := by
  unfold f_X11_row
  refine S_iload_n (pc := 0) 1 rfl dX11_row_0 rfl ?_
  refine S_call_i (pc := 1) (rest := []) (fun q hq => R_S (av := [.int a1]) (M_X11_isRow _ a1 h hq) wd_232 wd_230 wd_231 wd_44 hd_X11_isRow ⟨Nat.le_of_ble_eq_true rfl, Nat.le_of_ble_eq_true rfl⟩ rfl (Nat.le_of_ble_eq_true rfl) dX11_row_1) (fun _ h => absurd h List.not_mem_nil) (fun q1 => ?_)
  refine S_if_eq (pc := 4) (tgt := 22) dX11_row_4 (by decide) ?_ ?_
  · refine S_ldc (pc := 22) wd_233 dX11_row_22 ?_
    exact Sim.fin ⟨dX11_row_24, rfl, rfl⟩ rfl
  · refine S_iload_n (pc := 7) 2 rfl dX11_row_7 rfl ?_
    refine S_if_lt (pc := 8) (tgt := 22) dX11_row_8 (by decide) ?_ ?_
    · refine S_ldc (pc := 22) wd_233 dX11_row_22 ?_
      exact Sim.fin ⟨dX11_row_24, rfl, rfl⟩ rfl
    · refine S_iload_n (pc := 11) 2 rfl dX11_row_11 rfl ?_
      refine S_iconst (pc := 12) dX11_row_12 ic_2 ?_
      refine S_icmp_gt (pc := 13) (tgt := 22) dX11_row_13 (by decide) ?_ ?_
      · refine S_ldc (pc := 22) wd_233 dX11_row_22 ?_
        exact Sim.fin ⟨dX11_row_24, rfl, rfl⟩ rfl
      · refine S_iload_n (pc := 16) 3 rfl dX11_row_16 rfl ?_
        refine S_bipush (pc := 17) dX11_row_17 bi_40 ?_
        refine S_icmp_le (pc := 19) (tgt := 25) dX11_row_19 (by decide) ?_ ?_
        · refine S_iload_n (pc := 25) 3 rfl dX11_row_25 rfl ?_
          refine S_if_ge (pc := 26) (tgt := 35) dX11_row_26 (by decide) ?_ ?_
          · refine S_aload_n (pc := 35) 0 rfl dX11_row_35 rfl ?_
            refine S_getR (pc := 36) fd_X11_rows wd_189 dX11_row_36 (fun v2 => ?_)
            refine S_iload_n (pc := 39) 1 rfl dX11_row_39 rfl ?_
            refine S_aR (pc := 40) (fun _ => rfl) dX11_row_40 (fun v3 => ?_)
            refine S_iload_n (pc := 41) 2 rfl dX11_row_41 rfl ?_
            refine S_iload_n (pc := 42) 3 rfl dX11_row_42 rfl ?_
            refine S_call_v (pc := 43) (rest := []) (fun q hq => (x_if hq).elim (fun z => R_V (av := [.int a2, .int a3]) (q := (RX5, TX5, 4)) (M_X5_begin _ v3 a2 a3 q1.2 z.2) z.1 rfl wd_242 wd_239 wd_240 wd_49 wd_241 ⟨rfl, hd_X5_begin⟩ ⟨Nat.le_of_ble_eq_true rfl, Nat.le_of_ble_eq_true rfl⟩ rfl (Nat.le_of_ble_eq_true rfl) dX11_row_43) (fun hq => (by cases hq))) (fun _ h => absurd h List.not_mem_nil) (fun q4 => ?_)
            refine S_aload_n (pc := 46) 0 rfl dX11_row_46 rfl ?_
            refine S_iload_n (pc := 47) 3 rfl dX11_row_47 rfl ?_
            refine S_call_i (pc := 48) (rest := []) (fun q hq => (x_if hq).elim (fun z => R_V (av := [.int a3]) (q := (RX11, TX11, 12)) (M_X11_fine _ a0 a3 q4 z.2) z.1 rfl wd_249 wd_246 wd_248 wd_44 wd_1 ⟨rfl, hd_X11_fine⟩ ⟨Nat.le_of_ble_eq_true rfl, Nat.le_of_ble_eq_true rfl⟩ rfl (Nat.le_of_ble_eq_true rfl) dX11_row_48) (fun hq => (by cases hq))) (fun _ h => absurd h List.not_mem_nil) (fun q5 => ?_)
            exact Sim.fin ⟨dX11_row_51, rfl, rfl⟩ rfl
          · refine S_aload_n (pc := 29) 0 rfl dX11_row_29 rfl ?_
            refine S_iconst (pc := 30) dX11_row_30 ic_4 ?_
            refine S_call_i (pc := 31) (rest := []) (fun q hq => (x_if hq).elim (fun z => R_V (av := [.int (4 : Int32)]) (q := (RX11, TX11, 12)) (M_X11_found _ a0 (4 : Int32) q1.2 z.2) z.1 rfl wd_237 wd_234 wd_236 wd_44 wd_0 ⟨rfl, hd_X11_found⟩ ⟨Nat.le_of_ble_eq_true rfl, Nat.le_of_ble_eq_true rfl⟩ rfl (Nat.le_of_ble_eq_true rfl) dX11_row_31) (fun hq => (by cases hq))) (fun _ h => absurd h List.not_mem_nil) (fun q6 => ?_)
            exact Sim.fin ⟨dX11_row_34, rfl, rfl⟩ rfl
        · refine S_ldc (pc := 22) wd_233 dX11_row_22 ?_
          exact Sim.fin ⟨dX11_row_24, rfl, rfl⟩ rfl
theorem M_X11_row (l : Launch) (a0 : Nat) (a1 : Int32) (a2 : Int32) (a3 : Int32) (h : xH) {q : Int32 × xH} (hq : f_X11_row a0 a1 a2 a3 h = some q) : xM l yX11_row cX11_row 4 (some .int) 2 [.ref a0, .int a1, .int a2, .int a3] h (some (.int q.1)) q.2 := xM_i (by decide +kernel) (Nat.le_of_ble_eq_true rfl) (fun K L => W_X11_row K L a0 a1 a2 a3 h) hq
theorem dX11_select_0 : decode cX11_select 0 = .ok (.iload_n 1, 1) := by decide +kernel
theorem dX11_select_1 : decode cX11_select 1 = .ok (.invokestatic 113, 3) := by decide +kernel
theorem dX11_select_4 : decode cX11_select 4 = .ok (.ifCond .eq 14, 3) := by decide +kernel
theorem dX11_select_7 : decode cX11_select 7 = .ok (.iload_n 2, 1) := by decide +kernel
theorem dX11_select_8 : decode cX11_select 8 = .ok (.ifCond .lt 10, 3) := by decide +kernel
theorem dX11_select_11 : decode cX11_select 11 = .ok (.iload_n 3, 1) := by decide +kernel
theorem dX11_select_12 : decode cX11_select 12 = .ok (.invokestatic 149, 3) := by decide +kernel
theorem dX11_select_15 : decode cX11_select 15 = .ok (.ifCond .ne 6, 3) := by decide +kernel
theorem dX11_select_18 : decode cX11_select 18 = .ok (.ldc 65, 2) := by decide +kernel
theorem dX11_select_20 : decode cX11_select 20 = .ok (.ireturn, 1) := by decide +kernel
theorem dX11_select_21 : decode cX11_select 21 = .ok (.aload_n 0, 1) := by decide +kernel
theorem dX11_select_22 : decode cX11_select 22 = .ok (.getfield 17, 3) := by decide +kernel
theorem dX11_select_25 : decode cX11_select 25 = .ok (.iload_n 1, 1) := by decide +kernel
theorem dX11_select_26 : decode cX11_select 26 = .ok (.aaload, 1) := by decide +kernel
theorem dX11_select_27 : decode cX11_select 27 = .ok (.astore 4, 2) := by decide +kernel
theorem dX11_select_29 : decode cX11_select 29 = .ok (.iconst 0, 1) := by decide +kernel
theorem dX11_select_30 : decode cX11_select 30 = .ok (.istore 5, 2) := by decide +kernel
theorem dX11_select_32 : decode cX11_select 32 = .ok (.iconst 0, 1) := by decide +kernel
theorem dX11_select_33 : decode cX11_select 33 = .ok (.istore 6, 2) := by decide +kernel
theorem dX11_select_35 : decode cX11_select 35 = .ok (.iload 6, 2) := by decide +kernel
theorem dX11_select_37 : decode cX11_select 37 = .ok (.aload 4, 2) := by decide +kernel
theorem dX11_select_39 : decode cX11_select 39 = .ok (.getfield 148, 3) := by decide +kernel
theorem dX11_select_42 : decode cX11_select 42 = .ok (.if_icmp .ge 32, 3) := by decide +kernel
theorem dX11_select_45 : decode cX11_select 45 = .ok (.aload 4, 2) := by decide +kernel
theorem dX11_select_47 : decode cX11_select 47 = .ok (.iload 6, 2) := by decide +kernel
theorem dX11_select_49 : decode cX11_select 49 = .ok (.invokevirtual 152, 3) := by decide +kernel
theorem dX11_select_52 : decode cX11_select 52 = .ok (.iload_n 3, 1) := by decide +kernel
theorem dX11_select_53 : decode cX11_select 53 = .ok (.if_icmp .ne 15, 3) := by decide +kernel
theorem dX11_select_56 : decode cX11_select 56 = .ok (.iload 5, 2) := by decide +kernel
theorem dX11_select_58 : decode cX11_select 58 = .ok (.iload_n 2, 1) := by decide +kernel
theorem dX11_select_59 : decode cX11_select 59 = .ok (.if_icmp .ne 6, 3) := by decide +kernel
theorem dX11_select_62 : decode cX11_select 62 = .ok (.iload 6, 2) := by decide +kernel
theorem dX11_select_64 : decode cX11_select 64 = .ok (.ireturn, 1) := by decide +kernel
theorem dX11_select_65 : decode cX11_select 65 = .ok (.iinc 5 1, 3) := by decide +kernel
theorem dX11_select_68 : decode cX11_select 68 = .ok (.iinc 6 1, 3) := by decide +kernel
theorem dX11_select_71 : decode cX11_select 71 = .ok (.goto (-36), 3) := by decide +kernel
theorem dX11_select_74 : decode cX11_select 74 = .ok (.ldc 227, 2) := by decide +kernel
theorem dX11_select_76 : decode cX11_select 76 = .ok (.ireturn, 1) := by decide +kernel
set_option maxRecDepth 20000 in
set_option maxHeartbeats 4000000 in
theorem L_X11_select_35 (K : xK) (L : xL) : ∀ (n : Nat) (a2 : Int32) (a3 : Int32) (a4 : Nat) (a5 : Int32) (a6 : Int32) (h : xH), Sim K L cX11_select RX11 "select" 7 1 (fun q : Int32 × xH => q.2) (xRi cX11_select) 35 [(2, .int a2), (3, .int a3), (4, .ref a4), (5, .int a5), (6, .int a6)] [] h (f_X11_select_L35 n a2 a3 a4 a5 a6 h) := by
  intro n
  induction n with
  | zero =>
    intro a2 a3 a4 a5 a6 h
    exact Sim.none
  | succ n ih =>
    intro a2 a3 a4 a5 a6 h
    unfold f_X11_select_L35
    refine S_iload (pc := 35) 4 rfl dX11_select_35 ?_
    refine S_aload (pc := 37) 2 rfl dX11_select_37 ?_
    refine S_getI (pc := 39) fd_X1_length wd_81 dX11_select_39 (fun v5 => ?_)
    refine S_icmp_ge (pc := 42) (tgt := 74) dX11_select_42 (by decide) ?_ ?_
    · refine S_ldc (pc := 74) wd_625 dX11_select_74 ?_
      exact Sim.fin ⟨dX11_select_76, rfl, rfl⟩ rfl
    · refine S_aload (pc := 45) 2 rfl dX11_select_45 ?_
      refine S_iload (pc := 47) 4 rfl dX11_select_47 ?_
      refine S_call_i (pc := 49) (rest := []) (fun q hq => (x_if hq).elim (fun z => R_V (av := [.int a6]) (q := (RX1, TX1, 2)) (M_X1_bitAt _ a4 a6 h z.2) z.1 rfl wd_454 wd_451 wd_452 wd_45 wd_453 ⟨rfl, hd_X1_bitAt⟩ ⟨Nat.le_of_ble_eq_true rfl, Nat.le_of_ble_eq_true rfl⟩ rfl (Nat.le_of_ble_eq_true rfl) dX11_select_49) (fun hq => (by cases hq))) (fun _ h => absurd h List.not_mem_nil) (fun q6 => ?_)
      refine S_iload_n (pc := 52) 1 rfl dX11_select_52 rfl ?_
      refine S_icmp_ne (pc := 53) (tgt := 68) dX11_select_53 (by decide) ?_ ?_
      · refine S_iload (pc := 56) 3 rfl dX11_select_56 ?_
        refine S_iload_n (pc := 58) 0 rfl dX11_select_58 rfl ?_
        refine S_icmp_ne (pc := 59) (tgt := 65) dX11_select_59 (by decide) ?_ ?_
        · refine S_iload (pc := 62) 4 rfl dX11_select_62 ?_
          exact Sim.fin ⟨dX11_select_64, rfl, rfl⟩ rfl
        · refine S_iinc (pc := 65) (v := a5 + (1 : Int32)) 3 rfl dX11_select_65 (x_inc ic_1) (Nat.le_of_ble_eq_true rfl) rfl ?_
          refine S_iinc (pc := 68) (v := a6 + (1 : Int32)) 4 rfl dX11_select_68 (x_inc ic_1) (Nat.le_of_ble_eq_true rfl) rfl ?_
          refine S_goto (pc := 71) (tgt := 35) dX11_select_71 (by decide) ?_
          refine S_sub [2, 3, 4, 1, 0] rfl ?_
          exact ih a2 a3 a4 (a5 + (1 : Int32)) (a6 + (1 : Int32)) q6.2
      · refine S_iinc (pc := 68) (v := a6 + (1 : Int32)) 4 rfl dX11_select_68 (x_inc ic_1) (Nat.le_of_ble_eq_true rfl) rfl ?_
        refine S_goto (pc := 71) (tgt := 35) dX11_select_71 (by decide) ?_
        refine S_sub [1, 2, 3, 4, 0] rfl ?_
        exact ih a2 a3 a4 a5 (a6 + (1 : Int32)) q6.2
set_option maxRecDepth 20000 in
set_option maxHeartbeats 4000000 in
theorem W_X11_select (K : xK) (L : xL) (a0 : Nat) (a1 : Int32) (a2 : Int32) (a3 : Int32) (h : xH) : Sim K L cX11_select RX11 "select" 7 1 (fun q : Int32 × xH => q.2) (xRi cX11_select) 0 [(0, .ref a0), (1, .int a1), (2, .int a2), (3, .int a3)] [] h (f_X11_select a0 a1 a2 a3 h) := by
  unfold f_X11_select
  refine S_iload_n (pc := 0) 1 rfl dX11_select_0 rfl ?_
  refine S_call_i (pc := 1) (rest := []) (fun q hq => R_S (av := [.int a1]) (M_X11_isVector _ a1 h hq) wd_293 wd_291 wd_292 wd_44 hd_X11_isVector ⟨Nat.le_of_ble_eq_true rfl, Nat.le_of_ble_eq_true rfl⟩ rfl (Nat.le_of_ble_eq_true rfl) dX11_select_1) (fun _ h => absurd h List.not_mem_nil) (fun q1 => ?_)
  refine S_if_eq (pc := 4) (tgt := 18) dX11_select_4 (by decide) ?_ ?_
  · refine S_ldc (pc := 18) wd_233 dX11_select_18 ?_
    exact Sim.fin ⟨dX11_select_20, rfl, rfl⟩ rfl
  · refine S_iload_n (pc := 7) 2 rfl dX11_select_7 rfl ?_
    refine S_if_lt (pc := 8) (tgt := 18) dX11_select_8 (by decide) ?_ ?_
    · refine S_ldc (pc := 18) wd_233 dX11_select_18 ?_
      exact Sim.fin ⟨dX11_select_20, rfl, rfl⟩ rfl
    · refine S_iload_n (pc := 11) 3 rfl dX11_select_11 rfl ?_
      refine S_call_i (pc := 12) (rest := []) (fun q hq => R_S (av := [.int a3]) (M_X11_isValue _ a3 q1.2 hq) wd_450 wd_448 wd_449 wd_44 hd_X11_isValue ⟨Nat.le_of_ble_eq_true rfl, Nat.le_of_ble_eq_true rfl⟩ rfl (Nat.le_of_ble_eq_true rfl) dX11_select_12) (fun _ h => absurd h List.not_mem_nil) (fun q2 => ?_)
      refine S_if_ne (pc := 15) (tgt := 21) dX11_select_15 (by decide) ?_ ?_
      · refine S_ldc (pc := 18) wd_233 dX11_select_18 ?_
        exact Sim.fin ⟨dX11_select_20, rfl, rfl⟩ rfl
      · refine S_aload_n (pc := 21) 0 rfl dX11_select_21 rfl ?_
        refine S_getR (pc := 22) fd_X11_vectors wd_190 dX11_select_22 (fun v3 => ?_)
        refine S_iload_n (pc := 25) 1 rfl dX11_select_25 rfl ?_
        refine S_aR (pc := 26) (fun _ => rfl) dX11_select_26 (fun v4 => ?_)
        refine S_astore (pc := 27) dX11_select_27 (Nat.le_of_ble_eq_true rfl) rfl ?_
        refine S_iconst (pc := 29) dX11_select_29 ic_0 ?_
        refine S_istore (pc := 30) dX11_select_30 (Nat.le_of_ble_eq_true rfl) rfl ?_
        refine S_iconst (pc := 32) dX11_select_32 ic_0 ?_
        refine S_istore (pc := 33) dX11_select_33 (Nat.le_of_ble_eq_true rfl) rfl ?_
        refine S_sub [5, 6, 2, 1, 0] rfl ?_
        exact L_X11_select_35 K L xN a2 a3 v4 (0 : Int32) (0 : Int32) q2.2
theorem M_X11_select (l : Launch) (a0 : Nat) (a1 : Int32) (a2 : Int32) (a3 : Int32) (h : xH) {q : Int32 × xH} (hq : f_X11_select a0 a1 a2 a3 h = some q) : xM l yX11_select cX11_select 7 (some .int) 1 [.ref a0, .int a1, .int a2, .int a3] h (some (.int q.1)) q.2 := xM_i (by decide +kernel) (Nat.le_of_ble_eq_true rfl) (fun K L => W_X11_select K L a0 a1 a2 a3 h) hq
theorem dX5_store_0 : decode cX5_store 0 = .ok (.aload_n 0, 1) := by decide +kernel
theorem dX5_store_1 : decode cX5_store 1 = .ok (.getfield 19, 3) := by decide +kernel
theorem dX5_store_4 : decode cX5_store 4 = .ok (.ifCond .ne 14, 3) := by decide +kernel
theorem dX5_store_7 : decode cX5_store 7 = .ok (.aload_n 0, 1) := by decide +kernel
theorem dX5_store_8 : decode cX5_store 8 = .ok (.getfield 9, 3) := by decide +kernel
theorem dX5_store_11 : decode cX5_store 11 = .ok (.iload_n 1, 1) := by decide +kernel
theorem dX5_store_12 : decode cX5_store 12 = .ok (.iload_n 2, 1) := by decide +kernel
theorem dX5_store_13 : decode cX5_store 13 = .ok (.i2b, 1) := by decide +kernel
theorem dX5_store_14 : decode cX5_store 14 = .ok (.iastore, 1) := by decide +kernel
theorem dX5_store_15 : decode cX5_store 15 = .ok (.goto 29, 3) := by decide +kernel
theorem dX5_store_18 : decode cX5_store 18 = .ok (.aload_n 0, 1) := by decide +kernel
theorem dX5_store_19 : decode cX5_store 19 = .ok (.getfield 19, 3) := by decide +kernel
theorem dX5_store_22 : decode cX5_store 22 = .ok (.iconst 1, 1) := by decide +kernel
theorem dX5_store_23 : decode cX5_store 23 = .ok (.if_icmp .ne 14, 3) := by decide +kernel
theorem dX5_store_26 : decode cX5_store 26 = .ok (.aload_n 0, 1) := by decide +kernel
theorem dX5_store_27 : decode cX5_store 27 = .ok (.getfield 9, 3) := by decide +kernel
theorem dX5_store_30 : decode cX5_store 30 = .ok (.iload_n 1, 1) := by decide +kernel
theorem dX5_store_31 : decode cX5_store 31 = .ok (.iload_n 2, 1) := by decide +kernel
theorem dX5_store_32 : decode cX5_store 32 = .ok (.i2s, 1) := by decide +kernel
theorem dX5_store_33 : decode cX5_store 33 = .ok (.iastore, 1) := by decide +kernel
theorem dX5_store_34 : decode cX5_store 34 = .ok (.goto 10, 3) := by decide +kernel
theorem dX5_store_37 : decode cX5_store 37 = .ok (.aload_n 0, 1) := by decide +kernel
theorem dX5_store_38 : decode cX5_store 38 = .ok (.getfield 9, 3) := by decide +kernel
theorem dX5_store_41 : decode cX5_store 41 = .ok (.iload_n 1, 1) := by decide +kernel
theorem dX5_store_42 : decode cX5_store 42 = .ok (.iload_n 2, 1) := by decide +kernel
theorem dX5_store_43 : decode cX5_store 43 = .ok (.iastore, 1) := by decide +kernel
theorem dX5_store_44 : decode cX5_store 44 = .ok (.return_, 1) := by decide +kernel
set_option maxRecDepth 20000 in
set_option maxHeartbeats 4000000 in
theorem W_X5_store (K : xK) (L : xL) (a0 : Nat) (a1 : Int32) (a2 : Int32) (h : xH) : Sim K L cX5_store RX5 "store" 3 0 (fun q : xH => q) (xRv cX5_store) 0 [(0, .ref a0), (1, .int a1), (2, .int a2)] [] h (f_X5_store a0 a1 a2 h) := by
  unfold f_X5_store
  refine S_aload_n (pc := 0) 0 rfl dX5_store_0 rfl ?_
  refine S_getI (pc := 1) fd_X5_lane wd_176 dX5_store_1 (fun v1 => ?_)
  refine S_if_ne (pc := 4) (tgt := 18) dX5_store_4 (by decide) ?_ ?_
  · refine S_aload_n (pc := 7) 0 rfl dX5_store_7 rfl ?_
    refine S_getR (pc := 8) fd_X5_items wd_172 dX5_store_8 (fun v2 => ?_)
    refine S_iload_n (pc := 11) 1 rfl dX5_store_11 rfl ?_
    refine S_iload_n (pc := 12) 2 rfl dX5_store_12 rfl ?_
    refine S_i2b (pc := 13) dX5_store_13 ?_
    refine S_uI (pc := 14) dX5_store_14 (fun h3 => ?_)
    refine S_goto (pc := 15) (tgt := 44) dX5_store_15 (by decide) ?_
    exact Sim.fin ⟨dX5_store_44, rfl, rfl⟩ rfl
  · refine S_aload_n (pc := 18) 0 rfl dX5_store_18 rfl ?_
    refine S_getI (pc := 19) fd_X5_lane wd_176 dX5_store_19 (fun v4 => ?_)
    refine S_iconst (pc := 22) dX5_store_22 ic_1 ?_
    refine S_icmp_ne (pc := 23) (tgt := 37) dX5_store_23 (by decide) ?_ ?_
    · refine S_aload_n (pc := 26) 0 rfl dX5_store_26 rfl ?_
      refine S_getR (pc := 27) fd_X5_items wd_172 dX5_store_27 (fun v5 => ?_)
      refine S_iload_n (pc := 30) 1 rfl dX5_store_30 rfl ?_
      refine S_iload_n (pc := 31) 2 rfl dX5_store_31 rfl ?_
      refine S_i2s (pc := 32) dX5_store_32 ?_
      refine S_uI (pc := 33) dX5_store_33 (fun h6 => ?_)
      refine S_goto (pc := 34) (tgt := 44) dX5_store_34 (by decide) ?_
      exact Sim.fin ⟨dX5_store_44, rfl, rfl⟩ rfl
    · refine S_aload_n (pc := 37) 0 rfl dX5_store_37 rfl ?_
      refine S_getR (pc := 38) fd_X5_items wd_172 dX5_store_38 (fun v7 => ?_)
      refine S_iload_n (pc := 41) 1 rfl dX5_store_41 rfl ?_
      refine S_iload_n (pc := 42) 2 rfl dX5_store_42 rfl ?_
      refine S_uI (pc := 43) dX5_store_43 (fun h8 => ?_)
      exact Sim.fin ⟨dX5_store_44, rfl, rfl⟩ rfl
theorem M_X5_store (l : Launch) (a0 : Nat) (a1 : Int32) (a2 : Int32) (h : xH) {q : xH} (hq : f_X5_store a0 a1 a2 h = some q) : xM l yX5_store cX5_store 3 none 0 [.ref a0, .int a1, .int a2] h none q := xM_v (by decide +kernel) (Nat.le_of_ble_eq_true rfl) (fun K L => W_X5_store K L a0 a1 a2 h) hq
theorem dX11_set_0 : decode cX11_set 0 = .ok (.iload_n 1, 1) := by decide +kernel
theorem dX11_set_1 : decode cX11_set 1 = .ok (.invokestatic 61, 3) := by decide +kernel
theorem dX11_set_4 : decode cX11_set 4 = .ok (.ifCond .ne 6, 3) := by decide +kernel
theorem dX11_set_7 : decode cX11_set 7 = .ok (.ldc 65, 2) := by decide +kernel
theorem dX11_set_9 : decode cX11_set 9 = .ok (.ireturn, 1) := by decide +kernel
theorem dX11_set_10 : decode cX11_set 10 = .ok (.aload_n 0, 1) := by decide +kernel
theorem dX11_set_11 : decode cX11_set 11 = .ok (.getfield 11, 3) := by decide +kernel
theorem dX11_set_14 : decode cX11_set 14 = .ok (.iload_n 1, 1) := by decide +kernel
theorem dX11_set_15 : decode cX11_set 15 = .ok (.aaload, 1) := by decide +kernel
theorem dX11_set_16 : decode cX11_set 16 = .ok (.astore 4, 2) := by decide +kernel
theorem dX11_set_18 : decode cX11_set 18 = .ok (.aload 4, 2) := by decide +kernel
theorem dX11_set_20 : decode cX11_set 20 = .ok (.getfield 77, 3) := by decide +kernel
theorem dX11_set_23 : decode cX11_set 23 = .ok (.ifCond .eq 9, 3) := by decide +kernel
theorem dX11_set_26 : decode cX11_set 26 = .ok (.aload_n 0, 1) := by decide +kernel
theorem dX11_set_27 : decode cX11_set 27 = .ok (.iconst 1, 1) := by decide +kernel
theorem dX11_set_28 : decode cX11_set 28 = .ok (.invokevirtual 66, 3) := by decide +kernel
theorem dX11_set_31 : decode cX11_set 31 = .ok (.ireturn, 1) := by decide +kernel
theorem dX11_set_32 : decode cX11_set 32 = .ok (.iload_n 2, 1) := by decide +kernel
theorem dX11_set_33 : decode cX11_set 33 = .ok (.ifCond .lt 12, 3) := by decide +kernel
theorem dX11_set_36 : decode cX11_set 36 = .ok (.iload_n 2, 1) := by decide +kernel
theorem dX11_set_37 : decode cX11_set 37 = .ok (.aload 4, 2) := by decide +kernel
theorem dX11_set_39 : decode cX11_set 39 = .ok (.getfield 81, 3) := by decide +kernel
theorem dX11_set_42 : decode cX11_set 42 = .ok (.if_icmp .lt 9, 3) := by decide +kernel
theorem dX11_set_45 : decode cX11_set 45 = .ok (.aload_n 0, 1) := by decide +kernel
theorem dX11_set_46 : decode cX11_set 46 = .ok (.iconst 2, 1) := by decide +kernel
theorem dX11_set_47 : decode cX11_set 47 = .ok (.invokevirtual 66, 3) := by decide +kernel
theorem dX11_set_50 : decode cX11_set 50 = .ok (.ireturn, 1) := by decide +kernel
theorem dX11_set_51 : decode cX11_set 51 = .ok (.aload 4, 2) := by decide +kernel
theorem dX11_set_53 : decode cX11_set 53 = .ok (.iload_n 2, 1) := by decide +kernel
theorem dX11_set_54 : decode cX11_set 54 = .ok (.iload_n 3, 1) := by decide +kernel
theorem dX11_set_55 : decode cX11_set 55 = .ok (.invokevirtual 85, 3) := by decide +kernel
theorem dX11_set_58 : decode cX11_set 58 = .ok (.aload_n 0, 1) := by decide +kernel
theorem dX11_set_59 : decode cX11_set 59 = .ok (.aload 4, 2) := by decide +kernel
theorem dX11_set_61 : decode cX11_set 61 = .ok (.getfield 88, 3) := by decide +kernel
theorem dX11_set_64 : decode cX11_set 64 = .ok (.iload_n 2, 1) := by decide +kernel
theorem dX11_set_65 : decode cX11_set 65 = .ok (.iaload, 1) := by decide +kernel
theorem dX11_set_66 : decode cX11_set 66 = .ok (.invokevirtual 74, 3) := by decide +kernel
theorem dX11_set_69 : decode cX11_set 69 = .ok (.ireturn, 1) := by decide +kernel
set_option maxRecDepth 20000 in
set_option maxHeartbeats 4000000 in
theorem W_X11_set (K : xK) (L : xL) (a0 : Nat) (a1 : Int32) (a2 : Int32) (a3 : Int32) (h : xH) : Sim K L cX11_set RX11 "set" 5 1 (fun q : Int32 × xH => q.2) (xRi cX11_set) 0 [(0, .ref a0), (1, .int a1), (2, .int a2), (3, .int a3)] [] h (f_X11_set a0 a1 a2 a3 h) := by
  unfold f_X11_set
  refine S_iload_n (pc := 0) 1 rfl dX11_set_0 rfl ?_
  refine S_call_i (pc := 1) (rest := []) (fun q hq => R_S (av := [.int a1]) (M_X11_isRow _ a1 h hq) wd_232 wd_230 wd_231 wd_44 hd_X11_isRow ⟨Nat.le_of_ble_eq_true rfl, Nat.le_of_ble_eq_true rfl⟩ rfl (Nat.le_of_ble_eq_true rfl) dX11_set_1) (fun _ h => absurd h List.not_mem_nil) (fun q1 => ?_)
  refine S_if_ne (pc := 4) (tgt := 10) dX11_set_4 (by decide) ?_ ?_
  · refine S_ldc (pc := 7) wd_233 dX11_set_7 ?_
    exact Sim.fin ⟨dX11_set_9, rfl, rfl⟩ rfl
  · refine S_aload_n (pc := 10) 0 rfl dX11_set_10 rfl ?_
    refine S_getR (pc := 11) fd_X11_rows wd_189 dX11_set_11 (fun v2 => ?_)
    refine S_iload_n (pc := 14) 1 rfl dX11_set_14 rfl ?_
    refine S_aR (pc := 15) (fun _ => rfl) dX11_set_15 (fun v3 => ?_)
    refine S_astore (pc := 16) dX11_set_16 (Nat.le_of_ble_eq_true rfl) rfl ?_
    refine S_aload (pc := 18) 0 rfl dX11_set_18 ?_
    refine S_getI (pc := 20) fd_X5_missing wd_175 dX11_set_20 (fun v4 => ?_)
    refine S_if_eq (pc := 23) (tgt := 32) dX11_set_23 (by decide) ?_ ?_
    · refine S_iload_n (pc := 32) 3 rfl dX11_set_32 rfl ?_
      refine S_if_lt (pc := 33) (tgt := 45) dX11_set_33 (by decide) ?_ ?_
      · refine S_aload_n (pc := 45) 1 rfl dX11_set_45 rfl ?_
        refine S_iconst (pc := 46) dX11_set_46 ic_2 ?_
        refine S_call_i (pc := 47) (rest := []) (fun q hq => (x_if hq).elim (fun z => R_V (av := [.int (2 : Int32)]) (q := (RX11, TX11, 12)) (M_X11_found _ a0 (2 : Int32) q1.2 z.2) z.1 rfl wd_237 wd_234 wd_236 wd_44 wd_0 ⟨rfl, hd_X11_found⟩ ⟨Nat.le_of_ble_eq_true rfl, Nat.le_of_ble_eq_true rfl⟩ rfl (Nat.le_of_ble_eq_true rfl) dX11_set_47) (fun hq => (by cases hq))) (fun _ h => absurd h List.not_mem_nil) (fun q5 => ?_)
        exact Sim.fin ⟨dX11_set_50, rfl, rfl⟩ rfl
      · refine S_iload_n (pc := 36) 3 rfl dX11_set_36 rfl ?_
        refine S_aload (pc := 37) 0 rfl dX11_set_37 ?_
        refine S_getI (pc := 39) fd_X5_length wd_179 dX11_set_39 (fun v6 => ?_)
        refine S_icmp_lt (pc := 42) (tgt := 51) dX11_set_42 (by decide) ?_ ?_
        · refine S_aload (pc := 51) 0 rfl dX11_set_51 ?_
          refine S_iload_n (pc := 53) 3 rfl dX11_set_53 rfl ?_
          refine S_iload_n (pc := 54) 4 rfl dX11_set_54 rfl ?_
          refine S_call_v (pc := 55) (rest := []) (fun q hq => (x_if hq).elim (fun z => R_V (av := [.int a2, .int a3]) (q := (RX5, TX5, 4)) (M_X5_store _ v3 a2 a3 q1.2 z.2) z.1 rfl wd_257 wd_254 wd_255 wd_49 wd_256 ⟨rfl, hd_X5_store⟩ ⟨Nat.le_of_ble_eq_true rfl, Nat.le_of_ble_eq_true rfl⟩ rfl (Nat.le_of_ble_eq_true rfl) dX11_set_55) (fun hq => (by cases hq))) (fun _ h => absurd h List.not_mem_nil) (fun q7 => ?_)
          refine S_aload_n (pc := 58) 1 rfl dX11_set_58 rfl ?_
          refine S_aload (pc := 59) 0 rfl dX11_set_59 ?_
          refine S_getR (pc := 61) fd_X5_items wd_173 dX11_set_61 (fun v8 => ?_)
          refine S_iload_n (pc := 64) 3 rfl dX11_set_64 rfl ?_
          refine S_aI (pc := 65) dX11_set_65 (fun v9 => ?_)
          refine S_call_i (pc := 66) (rest := []) (fun q hq => (x_if hq).elim (fun z => R_V (av := [.int v9]) (q := (RX11, TX11, 12)) (M_X11_fine _ a0 v9 q7 z.2) z.1 rfl wd_249 wd_246 wd_248 wd_44 wd_1 ⟨rfl, hd_X11_fine⟩ ⟨Nat.le_of_ble_eq_true rfl, Nat.le_of_ble_eq_true rfl⟩ rfl (Nat.le_of_ble_eq_true rfl) dX11_set_66) (fun hq => (by cases hq))) (fun _ h => absurd h List.not_mem_nil) (fun q10 => ?_)
          exact Sim.fin ⟨dX11_set_69, rfl, rfl⟩ rfl
        · refine S_aload_n (pc := 45) 1 rfl dX11_set_45 rfl ?_
          refine S_iconst (pc := 46) dX11_set_46 ic_2 ?_
          refine S_call_i (pc := 47) (rest := []) (fun q hq => (x_if hq).elim (fun z => R_V (av := [.int (2 : Int32)]) (q := (RX11, TX11, 12)) (M_X11_found _ a0 (2 : Int32) q1.2 z.2) z.1 rfl wd_237 wd_234 wd_236 wd_44 wd_0 ⟨rfl, hd_X11_found⟩ ⟨Nat.le_of_ble_eq_true rfl, Nat.le_of_ble_eq_true rfl⟩ rfl (Nat.le_of_ble_eq_true rfl) dX11_set_47) (fun hq => (by cases hq))) (fun _ h => absurd h List.not_mem_nil) (fun q11 => ?_)
          exact Sim.fin ⟨dX11_set_50, rfl, rfl⟩ rfl
    · refine S_aload_n (pc := 26) 1 rfl dX11_set_26 rfl ?_
      refine S_iconst (pc := 27) dX11_set_27 ic_1 ?_
      refine S_call_i (pc := 28) (rest := []) (fun q hq => (x_if hq).elim (fun z => R_V (av := [.int (1 : Int32)]) (q := (RX11, TX11, 12)) (M_X11_found _ a0 (1 : Int32) q1.2 z.2) z.1 rfl wd_237 wd_234 wd_236 wd_44 wd_0 ⟨rfl, hd_X11_found⟩ ⟨Nat.le_of_ble_eq_true rfl, Nat.le_of_ble_eq_true rfl⟩ rfl (Nat.le_of_ble_eq_true rfl) dX11_set_28) (fun hq => (by cases hq))) (fun _ h => absurd h List.not_mem_nil) (fun q12 => ?_)
      exact Sim.fin ⟨dX11_set_31, rfl, rfl⟩ rfl
theorem M_X11_set (l : Launch) (a0 : Nat) (a1 : Int32) (a2 : Int32) (a3 : Int32) (h : xH) {q : Int32 × xH} (hq : f_X11_set a0 a1 a2 a3 h = some q) : xM l yX11_set cX11_set 5 (some .int) 1 [.ref a0, .int a1, .int a2, .int a3] h (some (.int q.1)) q.2 := xM_i (by decide +kernel) (Nat.le_of_ble_eq_true rfl) (fun K L => W_X11_set K L a0 a1 a2 a3 h) hq
theorem dX11_size_0 : decode cX11_size 0 = .ok (.iload_n 1, 1) := by decide +kernel
theorem dX11_size_1 : decode cX11_size 1 = .ok (.invokestatic 113, 3) := by decide +kernel
theorem dX11_size_4 : decode cX11_size 4 = .ok (.ifCond .ne 6, 3) := by decide +kernel
theorem dX11_size_7 : decode cX11_size 7 = .ok (.ldc 65, 2) := by decide +kernel
theorem dX11_size_9 : decode cX11_size 9 = .ok (.ireturn, 1) := by decide +kernel
theorem dX11_size_10 : decode cX11_size 10 = .ok (.aload_n 0, 1) := by decide +kernel
theorem dX11_size_11 : decode cX11_size 11 = .ok (.getfield 17, 3) := by decide +kernel
theorem dX11_size_14 : decode cX11_size 14 = .ok (.iload_n 1, 1) := by decide +kernel
theorem dX11_size_15 : decode cX11_size 15 = .ok (.aaload, 1) := by decide +kernel
theorem dX11_size_16 : decode cX11_size 16 = .ok (.astore_n 3, 1) := by decide +kernel
theorem dX11_size_17 : decode cX11_size 17 = .ok (.iconst 4, 1) := by decide +kernel
theorem dX11_size_18 : decode cX11_size 18 = .ok (.aload_n 3, 1) := by decide +kernel
theorem dX11_size_19 : decode cX11_size 19 = .ok (.invokevirtual 184, 3) := by decide +kernel
theorem dX11_size_22 : decode cX11_size 22 = .ok (.imul, 1) := by decide +kernel
theorem dX11_size_23 : decode cX11_size 23 = .ok (.istore 4, 2) := by decide +kernel
theorem dX11_size_25 : decode cX11_size 25 = .ok (.bipush 18, 2) := by decide +kernel
theorem dX11_size_27 : decode cX11_size 27 = .ok (.aload_n 3, 1) := by decide +kernel
theorem dX11_size_28 : decode cX11_size 28 = .ok (.invokevirtual 202, 3) := by decide +kernel
theorem dX11_size_31 : decode cX11_size 31 = .ok (.imul, 1) := by decide +kernel
theorem dX11_size_32 : decode cX11_size 32 = .ok (.istore 5, 2) := by decide +kernel
theorem dX11_size_34 : decode cX11_size 34 = .ok (.iload_n 2, 1) := by decide +kernel
theorem dX11_size_35 : decode cX11_size 35 = .ok (.tableswitch 63 0 4 #[33, 38, 41, 44, 55], 33) := by decide +kernel
theorem dX11_size_68 : decode cX11_size 68 = .ok (.aload_n 3, 1) := by decide +kernel
theorem dX11_size_69 : decode cX11_size 69 = .ok (.invokevirtual 208, 3) := by decide +kernel
theorem dX11_size_72 : decode cX11_size 72 = .ok (.ireturn, 1) := by decide +kernel
theorem dX11_size_73 : decode cX11_size 73 = .ok (.iload 4, 2) := by decide +kernel
theorem dX11_size_75 : decode cX11_size 75 = .ok (.ireturn, 1) := by decide +kernel
theorem dX11_size_76 : decode cX11_size 76 = .ok (.iload 5, 2) := by decide +kernel
theorem dX11_size_78 : decode cX11_size 78 = .ok (.ireturn, 1) := by decide +kernel
theorem dX11_size_79 : decode cX11_size 79 = .ok (.aload_n 3, 1) := by decide +kernel
theorem dX11_size_80 : decode cX11_size 80 = .ok (.invokevirtual 208, 3) := by decide +kernel
theorem dX11_size_83 : decode cX11_size 83 = .ok (.iload 4, 2) := by decide +kernel
theorem dX11_size_85 : decode cX11_size 85 = .ok (.iadd, 1) := by decide +kernel
theorem dX11_size_86 : decode cX11_size 86 = .ok (.iload 5, 2) := by decide +kernel
theorem dX11_size_88 : decode cX11_size 88 = .ok (.iadd, 1) := by decide +kernel
theorem dX11_size_89 : decode cX11_size 89 = .ok (.ireturn, 1) := by decide +kernel
theorem dX11_size_90 : decode cX11_size 90 = .ok (.bipush 15, 2) := by decide +kernel
theorem dX11_size_92 : decode cX11_size 92 = .ok (.aload_n 3, 1) := by decide +kernel
theorem dX11_size_93 : decode cX11_size 93 = .ok (.invokevirtual 184, 3) := by decide +kernel
theorem dX11_size_96 : decode cX11_size 96 = .ok (.imul, 1) := by decide +kernel
theorem dX11_size_97 : decode cX11_size 97 = .ok (.ireturn, 1) := by decide +kernel
theorem dX11_size_98 : decode cX11_size 98 = .ok (.ldc 65, 2) := by decide +kernel
theorem dX11_size_100 : decode cX11_size 100 = .ok (.ireturn, 1) := by decide +kernel
set_option maxRecDepth 20000 in
set_option maxHeartbeats 4000000 in
theorem W_X11_size (K : xK) (L : xL) (a0 : Nat) (a1 : Int32) (a2 : Int32) (h : xH) : Sim K L cX11_size RX11 "size" 6 4 (fun q : Int32 × xH => q.2) (xRi cX11_size) 0 [(0, .ref a0), (1, .int a1), (2, .int a2)] [] h (f_X11_size a0 a1 a2 h) := by
  unfold f_X11_size
  refine S_iload_n (pc := 0) 1 rfl dX11_size_0 rfl ?_
  refine S_call_i (pc := 1) (rest := []) (fun q hq => R_S (av := [.int a1]) (M_X11_isVector _ a1 h hq) wd_293 wd_291 wd_292 wd_44 hd_X11_isVector ⟨Nat.le_of_ble_eq_true rfl, Nat.le_of_ble_eq_true rfl⟩ rfl (Nat.le_of_ble_eq_true rfl) dX11_size_1) (fun _ h => absurd h List.not_mem_nil) (fun q1 => ?_)
  refine S_if_ne (pc := 4) (tgt := 10) dX11_size_4 (by decide) ?_ ?_
  · refine S_ldc (pc := 7) wd_233 dX11_size_7 ?_
    exact Sim.fin ⟨dX11_size_9, rfl, rfl⟩ rfl
  · refine S_aload_n (pc := 10) 0 rfl dX11_size_10 rfl ?_
    refine S_getR (pc := 11) fd_X11_vectors wd_190 dX11_size_11 (fun v2 => ?_)
    refine S_iload_n (pc := 14) 1 rfl dX11_size_14 rfl ?_
    refine S_aR (pc := 15) (fun _ => rfl) dX11_size_15 (fun v3 => ?_)
    refine S_astore_n (pc := 16) dX11_size_16 rfl (Nat.le_of_ble_eq_true rfl) rfl ?_
    refine S_iconst (pc := 17) dX11_size_17 ic_4 ?_
    refine S_aload_n (pc := 18) 0 rfl dX11_size_18 rfl ?_
    refine S_call_i (pc := 19) (rest := [.int (4 : Int32)]) (fun q hq => (x_if hq).elim (fun z => R_V (av := []) (q := (RX1, TX1, 2)) (M_X1_blockCount _ v3 q1.2 z.2) z.1 rfl wd_548 wd_545 wd_546 wd_45 wd_547 ⟨rfl, hd_X1_blockCount⟩ ⟨Nat.le_of_ble_eq_true rfl, Nat.le_of_ble_eq_true rfl⟩ rfl (Nat.le_of_ble_eq_true rfl) dX11_size_19) (fun hq => (by cases hq))) (fun _ h => List.mem_cons_of_mem _ (h)) (fun q4 => ?_)
    refine S_imul (pc := 22) dX11_size_22 ?_
    refine S_istore (pc := 23) dX11_size_23 (Nat.le_of_ble_eq_true rfl) rfl ?_
    refine S_bipush (pc := 25) dX11_size_25 bi_18 ?_
    refine S_aload_n (pc := 27) 1 rfl dX11_size_27 rfl ?_
    refine S_call_i (pc := 28) (rest := [.int (18 : Int32)]) (fun q hq => (x_if hq).elim (fun z => R_V (av := []) (q := (RX1, TX1, 2)) (M_X1_entryCount _ v3 q4.2 z.2) z.1 rfl wd_576 wd_573 wd_574 wd_45 wd_575 ⟨rfl, hd_X1_entryCount⟩ ⟨Nat.le_of_ble_eq_true rfl, Nat.le_of_ble_eq_true rfl⟩ rfl (Nat.le_of_ble_eq_true rfl) dX11_size_28) (fun hq => (by cases hq))) (fun _ h => List.mem_cons_of_mem _ (h)) (fun q5 => ?_)
    refine S_imul (pc := 31) dX11_size_31 ?_
    refine S_istore (pc := 32) dX11_size_32 (Nat.le_of_ble_eq_true rfl) rfl ?_
    refine S_iload_n (pc := 34) 5 rfl dX11_size_34 rfl ?_
    refine S_tabIn (pc := 35) (v := 0) (tgt := 68) dX11_size_35 (by decide) (by decide) rfl (by decide) ?_ (fun hs7 => ?_)
    · refine S_aload_n (pc := 68) 2 rfl dX11_size_68 rfl ?_
      refine S_call_i (pc := 69) (rest := []) (fun q hq => (x_if hq).elim (fun z => R_V (av := []) (q := (RX1, TX1, 2)) (M_X1_payloadBits _ v3 q5.2 z.2) z.1 rfl wd_586 wd_583 wd_584 wd_45 wd_585 ⟨rfl, hd_X1_payloadBits⟩ ⟨Nat.le_of_ble_eq_true rfl, Nat.le_of_ble_eq_true rfl⟩ rfl (Nat.le_of_ble_eq_true rfl) dX11_size_69) (fun hq => (by cases hq))) (fun _ h => absurd h List.not_mem_nil) (fun q6 => ?_)
      exact Sim.fin ⟨dX11_size_72, rfl, rfl⟩ rfl
    refine S_tabIn (pc := 35) (v := 1) (tgt := 73) dX11_size_35 (by decide) (by decide) rfl (by decide) ?_ (fun hs8 => ?_)
    · refine S_iload (pc := 73) 1 rfl dX11_size_73 ?_
      exact Sim.fin ⟨dX11_size_75, rfl, rfl⟩ rfl
    refine S_tabIn (pc := 35) (v := 2) (tgt := 76) dX11_size_35 (by decide) (by decide) rfl (by decide) ?_ (fun hs9 => ?_)
    · refine S_iload (pc := 76) 0 rfl dX11_size_76 ?_
      exact Sim.fin ⟨dX11_size_78, rfl, rfl⟩ rfl
    refine S_tabIn (pc := 35) (v := 3) (tgt := 79) dX11_size_35 (by decide) (by decide) rfl (by decide) ?_ (fun hs11 => ?_)
    · refine S_aload_n (pc := 79) 2 rfl dX11_size_79 rfl ?_
      refine S_call_i (pc := 80) (rest := []) (fun q hq => (x_if hq).elim (fun z => R_V (av := []) (q := (RX1, TX1, 2)) (M_X1_payloadBits _ v3 q5.2 z.2) z.1 rfl wd_586 wd_583 wd_584 wd_45 wd_585 ⟨rfl, hd_X1_payloadBits⟩ ⟨Nat.le_of_ble_eq_true rfl, Nat.le_of_ble_eq_true rfl⟩ rfl (Nat.le_of_ble_eq_true rfl) dX11_size_80) (fun hq => (by cases hq))) (fun _ h => absurd h List.not_mem_nil) (fun q10 => ?_)
      refine S_iload (pc := 83) 1 rfl dX11_size_83 ?_
      refine S_iadd (pc := 85) dX11_size_85 ?_
      refine S_iload (pc := 86) 0 rfl dX11_size_86 ?_
      refine S_iadd (pc := 88) dX11_size_88 ?_
      exact Sim.fin ⟨dX11_size_89, rfl, rfl⟩ rfl
    refine S_tabIn (pc := 35) (v := 4) (tgt := 90) dX11_size_35 (by decide) (by decide) rfl (by decide) ?_ (fun hs13 => ?_)
    · refine S_bipush (pc := 90) dX11_size_90 bi_15 ?_
      refine S_aload_n (pc := 92) 2 rfl dX11_size_92 rfl ?_
      refine S_call_i (pc := 93) (rest := [.int (15 : Int32)]) (fun q hq => (x_if hq).elim (fun z => R_V (av := []) (q := (RX1, TX1, 2)) (M_X1_blockCount _ v3 q5.2 z.2) z.1 rfl wd_548 wd_545 wd_546 wd_45 wd_547 ⟨rfl, hd_X1_blockCount⟩ ⟨Nat.le_of_ble_eq_true rfl, Nat.le_of_ble_eq_true rfl⟩ rfl (Nat.le_of_ble_eq_true rfl) dX11_size_93) (fun hq => (by cases hq))) (fun _ h => List.mem_cons_of_mem _ (h)) (fun q12 => ?_)
      refine S_imul (pc := 96) dX11_size_96 ?_
      exact Sim.fin ⟨dX11_size_97, rfl, rfl⟩ rfl
    refine S_tabOut (pc := 35) (tgt := 98) dX11_size_35 (by have := lv_neT hs7 (show (0 : Int32).toInt = 0 from by decide); have := lv_neT hs8 (show (1 : Int32).toInt = 1 from by decide); have := lv_neT hs9 (show (2 : Int32).toInt = 2 from by decide); have := lv_neT hs11 (show (3 : Int32).toInt = 3 from by decide); have := lv_neT hs13 (show (4 : Int32).toInt = 4 from by decide); omega) (by decide) ?_
    refine S_ldc (pc := 98) wd_233 dX11_size_98 ?_
    exact Sim.fin ⟨dX11_size_100, rfl, rfl⟩ rfl
theorem M_X11_size (l : Launch) (a0 : Nat) (a1 : Int32) (a2 : Int32) (h : xH) {q : Int32 × xH} (hq : f_X11_size a0 a1 a2 h = some q) : xM l yX11_size cX11_size 6 (some .int) 4 [.ref a0, .int a1, .int a2] h (some (.int q.1)) q.2 := xM_i (by decide +kernel) (Nat.le_of_ble_eq_true rfl) (fun K L => W_X11_size K L a0 a1 a2 h) hq
theorem dX11_status_0 : decode cX11_status 0 = .ok (.aload_n 0, 1) := by decide +kernel
theorem dX11_status_1 : decode cX11_status 1 = .ok (.getfield 283, 3) := by decide +kernel
theorem dX11_status_4 : decode cX11_status 4 = .ok (.ireturn, 1) := by decide +kernel
set_option maxRecDepth 20000 in
set_option maxHeartbeats 4000000 in
theorem W_X11_status (K : xK) (L : xL) (a0 : Nat) (h : xH) : Sim K L cX11_status RX11 "status" 1 0 (fun q : Int32 × xH => q.2) (xRi cX11_status) 0 [(0, .ref a0)] [] h (f_X11_status a0 h) := by
  unfold f_X11_status
  refine S_aload_n (pc := 0) 0 rfl dX11_status_0 rfl ?_
  refine S_getI (pc := 1) fd_X11_latestFinding wd_200 dX11_status_1 (fun v1 => ?_)
  exact Sim.fin ⟨dX11_status_4, rfl, rfl⟩ rfl
theorem M_X11_status (l : Launch) (a0 : Nat) (h : xH) {q : Int32 × xH} (hq : f_X11_status a0 h = some q) : xM l yX11_status cX11_status 1 (some .int) 0 [.ref a0] h (some (.int q.1)) q.2 := xM_i (by decide +kernel) (Nat.le_of_ble_eq_true rfl) (fun K L => W_X11_status K L a0 h) hq
theorem dX11_stretches_0 : decode cX11_stretches 0 = .ok (.iload_n 1, 1) := by decide +kernel
theorem dX11_stretches_1 : decode cX11_stretches 1 = .ok (.invokestatic 113, 3) := by decide +kernel
theorem dX11_stretches_4 : decode cX11_stretches 4 = .ok (.ifCond .ne 6, 3) := by decide +kernel
theorem dX11_stretches_7 : decode cX11_stretches 7 = .ok (.ldc 65, 2) := by decide +kernel
theorem dX11_stretches_9 : decode cX11_stretches 9 = .ok (.ireturn, 1) := by decide +kernel
theorem dX11_stretches_10 : decode cX11_stretches 10 = .ok (.aload_n 0, 1) := by decide +kernel
theorem dX11_stretches_11 : decode cX11_stretches 11 = .ok (.getfield 17, 3) := by decide +kernel
theorem dX11_stretches_14 : decode cX11_stretches 14 = .ok (.iload_n 1, 1) := by decide +kernel
theorem dX11_stretches_15 : decode cX11_stretches 15 = .ok (.aaload, 1) := by decide +kernel
theorem dX11_stretches_16 : decode cX11_stretches 16 = .ok (.astore_n 2, 1) := by decide +kernel
theorem dX11_stretches_17 : decode cX11_stretches 17 = .ok (.iconst 0, 1) := by decide +kernel
theorem dX11_stretches_18 : decode cX11_stretches 18 = .ok (.istore_n 3, 1) := by decide +kernel
theorem dX11_stretches_19 : decode cX11_stretches 19 = .ok (.iconst 0, 1) := by decide +kernel
theorem dX11_stretches_20 : decode cX11_stretches 20 = .ok (.istore 4, 2) := by decide +kernel
theorem dX11_stretches_22 : decode cX11_stretches 22 = .ok (.iload 4, 2) := by decide +kernel
theorem dX11_stretches_24 : decode cX11_stretches 24 = .ok (.aload_n 2, 1) := by decide +kernel
theorem dX11_stretches_25 : decode cX11_stretches 25 = .ok (.getfield 148, 3) := by decide +kernel
theorem dX11_stretches_28 : decode cX11_stretches 28 = .ok (.if_icmp .ge 34, 3) := by decide +kernel
theorem dX11_stretches_31 : decode cX11_stretches 31 = .ok (.iload 4, 2) := by decide +kernel
theorem dX11_stretches_33 : decode cX11_stretches 33 = .ok (.ifCond .eq 20, 3) := by decide +kernel
theorem dX11_stretches_36 : decode cX11_stretches 36 = .ok (.aload_n 2, 1) := by decide +kernel
theorem dX11_stretches_37 : decode cX11_stretches 37 = .ok (.iload 4, 2) := by decide +kernel
theorem dX11_stretches_39 : decode cX11_stretches 39 = .ok (.invokevirtual 152, 3) := by decide +kernel
theorem dX11_stretches_42 : decode cX11_stretches 42 = .ok (.aload_n 2, 1) := by decide +kernel
theorem dX11_stretches_43 : decode cX11_stretches 43 = .ok (.iload 4, 2) := by decide +kernel
theorem dX11_stretches_45 : decode cX11_stretches 45 = .ok (.iconst 1, 1) := by decide +kernel
theorem dX11_stretches_46 : decode cX11_stretches 46 = .ok (.isub, 1) := by decide +kernel
theorem dX11_stretches_47 : decode cX11_stretches 47 = .ok (.invokevirtual 152, 3) := by decide +kernel
theorem dX11_stretches_50 : decode cX11_stretches 50 = .ok (.if_icmp .eq 6, 3) := by decide +kernel
theorem dX11_stretches_53 : decode cX11_stretches 53 = .ok (.iinc 3 1, 3) := by decide +kernel
theorem dX11_stretches_56 : decode cX11_stretches 56 = .ok (.iinc 4 1, 3) := by decide +kernel
theorem dX11_stretches_59 : decode cX11_stretches 59 = .ok (.goto (-37), 3) := by decide +kernel
theorem dX11_stretches_62 : decode cX11_stretches 62 = .ok (.iload_n 3, 1) := by decide +kernel
theorem dX11_stretches_63 : decode cX11_stretches 63 = .ok (.ireturn, 1) := by decide +kernel
set_option maxRecDepth 20000 in
set_option maxHeartbeats 4000000 in
theorem L_X11_stretches_22 (K : xK) (L : xL) : ∀ (n : Nat) (a2 : Nat) (a3 : Int32) (a4 : Int32) (h : xH), Sim K L cX11_stretches RX11 "stretches" 5 1 (fun q : Int32 × Int32 × xH => q.2.2) (fun q pc' ls' st' h' => pc' = 62 ∧ ls' = [(2, .ref a2), (3, .int q.1), (4, .int q.2.1)] ∧ st' = [] ∧ h' = q.2.2) 22 [(2, .ref a2), (3, .int a3), (4, .int a4)] [] h (f_X11_stretches_L22 n a2 a3 a4 h) := by
  intro n
  induction n with
  | zero =>
    intro a2 a3 a4 h
    exact Sim.none
  | succ n ih =>
    intro a2 a3 a4 h
    unfold f_X11_stretches_L22
    refine S_iload (pc := 22) 2 rfl dX11_stretches_22 ?_
    refine S_aload_n (pc := 24) 0 rfl dX11_stretches_24 rfl ?_
    refine S_getI (pc := 25) fd_X1_length wd_81 dX11_stretches_25 (fun v4 => ?_)
    refine S_icmp_ge (pc := 28) (tgt := 62) dX11_stretches_28 (by decide) ?_ ?_
    · refine S_sub [0, 1, 2] rfl ?_
      exact Sim.fin ⟨rfl, rfl, rfl, rfl⟩ rfl
    · refine S_iload (pc := 31) 2 rfl dX11_stretches_31 ?_
      refine S_if_eq (pc := 33) (tgt := 53) dX11_stretches_33 (by decide) ?_ ?_
      · refine S_iinc (pc := 53) (v := a3 + (1 : Int32)) 1 rfl dX11_stretches_53 (x_inc ic_1) (Nat.le_of_ble_eq_true rfl) rfl ?_
        refine S_iinc (pc := 56) (v := a4 + (1 : Int32)) 2 rfl dX11_stretches_56 (x_inc ic_1) (Nat.le_of_ble_eq_true rfl) rfl ?_
        refine S_goto (pc := 59) (tgt := 22) dX11_stretches_59 (by decide) ?_
        refine S_sub [2, 1, 0] rfl ?_
        exact ih a2 (a3 + (1 : Int32)) (a4 + (1 : Int32)) h
      · refine S_aload_n (pc := 36) 0 rfl dX11_stretches_36 rfl ?_
        refine S_iload (pc := 37) 2 rfl dX11_stretches_37 ?_
        refine S_call_i (pc := 39) (rest := []) (fun q hq => (x_if hq).elim (fun z => R_V (av := [.int a4]) (q := (RX1, TX1, 2)) (M_X1_bitAt _ a2 a4 h z.2) z.1 rfl wd_454 wd_451 wd_452 wd_45 wd_453 ⟨rfl, hd_X1_bitAt⟩ ⟨Nat.le_of_ble_eq_true rfl, Nat.le_of_ble_eq_true rfl⟩ rfl (Nat.le_of_ble_eq_true rfl) dX11_stretches_39) (fun hq => (by cases hq))) (fun _ h => absurd h List.not_mem_nil) (fun q5 => ?_)
        refine S_aload_n (pc := 42) 0 rfl dX11_stretches_42 rfl ?_
        refine S_iload (pc := 43) 2 rfl dX11_stretches_43 ?_
        refine S_iconst (pc := 45) dX11_stretches_45 ic_1 ?_
        refine S_isub (pc := 46) dX11_stretches_46 ?_
        refine S_call_i (pc := 47) (rest := [.int q5.1]) (fun q hq => (x_if hq).elim (fun z => R_V (av := [.int (a4 - (1 : Int32))]) (q := (RX1, TX1, 2)) (M_X1_bitAt _ a2 (a4 - (1 : Int32)) q5.2 z.2) z.1 rfl wd_454 wd_451 wd_452 wd_45 wd_453 ⟨rfl, hd_X1_bitAt⟩ ⟨Nat.le_of_ble_eq_true rfl, Nat.le_of_ble_eq_true rfl⟩ rfl (Nat.le_of_ble_eq_true rfl) dX11_stretches_47) (fun hq => (by cases hq))) (fun _ h => List.mem_cons_of_mem _ (List.mem_cons_of_mem _ (h))) (fun q6 => ?_)
        refine S_icmp_eq (pc := 50) (tgt := 56) dX11_stretches_50 (by decide) ?_ ?_
        · refine S_iinc (pc := 56) (v := a4 + (1 : Int32)) 2 rfl dX11_stretches_56 (x_inc ic_1) (Nat.le_of_ble_eq_true rfl) rfl ?_
          refine S_goto (pc := 59) (tgt := 22) dX11_stretches_59 (by decide) ?_
          refine S_sub [1, 2, 0] rfl ?_
          exact ih a2 a3 (a4 + (1 : Int32)) q6.2
        · refine S_iinc (pc := 53) (v := a3 + (1 : Int32)) 1 rfl dX11_stretches_53 (x_inc ic_1) (Nat.le_of_ble_eq_true rfl) rfl ?_
          refine S_iinc (pc := 56) (v := a4 + (1 : Int32)) 2 rfl dX11_stretches_56 (x_inc ic_1) (Nat.le_of_ble_eq_true rfl) rfl ?_
          refine S_goto (pc := 59) (tgt := 22) dX11_stretches_59 (by decide) ?_
          refine S_sub [2, 1, 0] rfl ?_
          exact ih a2 (a3 + (1 : Int32)) (a4 + (1 : Int32)) q6.2
set_option maxRecDepth 20000 in
set_option maxHeartbeats 4000000 in
theorem W_X11_stretches (K : xK) (L : xL) (a0 : Nat) (a1 : Int32) (h : xH) : Sim K L cX11_stretches RX11 "stretches" 5 1 (fun q : Int32 × xH => q.2) (xRi cX11_stretches) 0 [(0, .ref a0), (1, .int a1)] [] h (f_X11_stretches a0 a1 h) := by
  unfold f_X11_stretches
  refine S_iload_n (pc := 0) 1 rfl dX11_stretches_0 rfl ?_
  refine S_call_i (pc := 1) (rest := []) (fun q hq => R_S (av := [.int a1]) (M_X11_isVector _ a1 h hq) wd_293 wd_291 wd_292 wd_44 hd_X11_isVector ⟨Nat.le_of_ble_eq_true rfl, Nat.le_of_ble_eq_true rfl⟩ rfl (Nat.le_of_ble_eq_true rfl) dX11_stretches_1) (fun _ h => absurd h List.not_mem_nil) (fun q1 => ?_)
  refine S_if_ne (pc := 4) (tgt := 10) dX11_stretches_4 (by decide) ?_ ?_
  · refine S_ldc (pc := 7) wd_233 dX11_stretches_7 ?_
    exact Sim.fin ⟨dX11_stretches_9, rfl, rfl⟩ rfl
  · refine S_aload_n (pc := 10) 0 rfl dX11_stretches_10 rfl ?_
    refine S_getR (pc := 11) fd_X11_vectors wd_190 dX11_stretches_11 (fun v2 => ?_)
    refine S_iload_n (pc := 14) 1 rfl dX11_stretches_14 rfl ?_
    refine S_aR (pc := 15) (fun _ => rfl) dX11_stretches_15 (fun v3 => ?_)
    refine S_astore_n (pc := 16) dX11_stretches_16 rfl (Nat.le_of_ble_eq_true rfl) rfl ?_
    refine S_iconst (pc := 17) dX11_stretches_17 ic_0 ?_
    refine S_istore_n (pc := 18) dX11_stretches_18 rfl (Nat.le_of_ble_eq_true rfl) rfl ?_
    refine S_iconst (pc := 19) dX11_stretches_19 ic_0 ?_
    refine S_istore (pc := 20) dX11_stretches_20 (Nat.le_of_ble_eq_true rfl) rfl ?_
    refine S_sub [2, 1, 0] rfl ?_
    refine Sim.bind (hs := fun q7 : Int32 × Int32 × xH => q7.2.2) (px := 62) (lsx := fun q7 => [(2, .ref v3), (3, .int q7.1), (4, .int q7.2.1)]) (L_X11_stretches_22 K L xN v3 (0 : Int32) (0 : Int32) q1.2) (fun q7 => ?_)
    refine S_iload_n (pc := 62) 1 rfl dX11_stretches_62 rfl ?_
    exact Sim.fin ⟨dX11_stretches_63, rfl, rfl⟩ rfl
theorem M_X11_stretches (l : Launch) (a0 : Nat) (a1 : Int32) (h : xH) {q : Int32 × xH} (hq : f_X11_stretches a0 a1 h = some q) : xM l yX11_stretches cX11_stretches 5 (some .int) 1 [.ref a0, .int a1] h (some (.int q.1)) q.2 := xM_i (by decide +kernel) (Nat.le_of_ble_eq_true rfl) (fun K L => W_X11_stretches K L a0 a1 h) hq
theorem dX5_tellsPlaces_0 : decode cX5_tellsPlaces 0 = .ok (.iconst 0, 1) := by decide +kernel
theorem dX5_tellsPlaces_1 : decode cX5_tellsPlaces 1 = .ok (.istore_n 3, 1) := by decide +kernel
theorem dX5_tellsPlaces_2 : decode cX5_tellsPlaces 2 = .ok (.iload_n 3, 1) := by decide +kernel
theorem dX5_tellsPlaces_3 : decode cX5_tellsPlaces 3 = .ok (.iload_n 1, 1) := by decide +kernel
theorem dX5_tellsPlaces_4 : decode cX5_tellsPlaces 4 = .ok (.if_icmp .ge 30, 3) := by decide +kernel
theorem dX5_tellsPlaces_7 : decode cX5_tellsPlaces 7 = .ok (.aload_n 0, 1) := by decide +kernel
theorem dX5_tellsPlaces_8 : decode cX5_tellsPlaces 8 = .ok (.getfield 9, 3) := by decide +kernel
theorem dX5_tellsPlaces_11 : decode cX5_tellsPlaces 11 = .ok (.iload_n 3, 1) := by decide +kernel
theorem dX5_tellsPlaces_12 : decode cX5_tellsPlaces 12 = .ok (.iaload, 1) := by decide +kernel
theorem dX5_tellsPlaces_13 : decode cX5_tellsPlaces 13 = .ok (.ifCond .lt 13, 3) := by decide +kernel
theorem dX5_tellsPlaces_16 : decode cX5_tellsPlaces 16 = .ok (.aload_n 0, 1) := by decide +kernel
theorem dX5_tellsPlaces_17 : decode cX5_tellsPlaces 17 = .ok (.getfield 9, 3) := by decide +kernel
theorem dX5_tellsPlaces_20 : decode cX5_tellsPlaces 20 = .ok (.iload_n 3, 1) := by decide +kernel
theorem dX5_tellsPlaces_21 : decode cX5_tellsPlaces 21 = .ok (.iaload, 1) := by decide +kernel
theorem dX5_tellsPlaces_22 : decode cX5_tellsPlaces 22 = .ok (.iload_n 2, 1) := by decide +kernel
theorem dX5_tellsPlaces_23 : decode cX5_tellsPlaces 23 = .ok (.if_icmp .lt 5, 3) := by decide +kernel
theorem dX5_tellsPlaces_26 : decode cX5_tellsPlaces 26 = .ok (.iconst 0, 1) := by decide +kernel
theorem dX5_tellsPlaces_27 : decode cX5_tellsPlaces 27 = .ok (.ireturn, 1) := by decide +kernel
theorem dX5_tellsPlaces_28 : decode cX5_tellsPlaces 28 = .ok (.iinc 3 1, 3) := by decide +kernel
theorem dX5_tellsPlaces_31 : decode cX5_tellsPlaces 31 = .ok (.goto (-29), 3) := by decide +kernel
theorem dX5_tellsPlaces_34 : decode cX5_tellsPlaces 34 = .ok (.iconst 1, 1) := by decide +kernel
theorem dX5_tellsPlaces_35 : decode cX5_tellsPlaces 35 = .ok (.ireturn, 1) := by decide +kernel
set_option maxRecDepth 20000 in
set_option maxHeartbeats 4000000 in
theorem L_X5_tellsPlaces_2 (K : xK) (L : xL) : ∀ (n : Nat) (a0 : Nat) (a1 : Int32) (a2 : Int32) (a3 : Int32) (h : xH), Sim K L cX5_tellsPlaces RX5 "tellsPlaces" 4 0 (fun q : Int32 × xH => q.2) (xRz cX5_tellsPlaces) 2 [(0, .ref a0), (1, .int a1), (2, .int a2), (3, .int a3)] [] h (f_X5_tellsPlaces_L2 n a0 a1 a2 a3 h) := by
  intro n
  induction n with
  | zero =>
    intro a0 a1 a2 a3 h
    exact Sim.none
  | succ n ih =>
    intro a0 a1 a2 a3 h
    unfold f_X5_tellsPlaces_L2
    refine S_iload_n (pc := 2) 3 rfl dX5_tellsPlaces_2 rfl ?_
    refine S_iload_n (pc := 3) 1 rfl dX5_tellsPlaces_3 rfl ?_
    refine S_icmp_ge (pc := 4) (tgt := 34) dX5_tellsPlaces_4 (by decide) ?_ ?_
    · refine S_iconst (pc := 34) dX5_tellsPlaces_34 ic_1 ?_
      exact Sim.fin ⟨dX5_tellsPlaces_35, rfl, rfl, x_nar (Or.inr rfl)⟩ rfl
    · refine S_aload_n (pc := 7) 0 rfl dX5_tellsPlaces_7 rfl ?_
      refine S_getR (pc := 8) fd_X5_items wd_172 dX5_tellsPlaces_8 (fun v1 => ?_)
      refine S_iload_n (pc := 11) 3 rfl dX5_tellsPlaces_11 rfl ?_
      refine S_aI (pc := 12) dX5_tellsPlaces_12 (fun v2 => ?_)
      refine S_if_lt (pc := 13) (tgt := 26) dX5_tellsPlaces_13 (by decide) ?_ ?_
      · refine S_iconst (pc := 26) dX5_tellsPlaces_26 ic_0 ?_
        exact Sim.fin ⟨dX5_tellsPlaces_27, rfl, rfl, x_nar (Or.inl rfl)⟩ rfl
      · refine S_aload_n (pc := 16) 0 rfl dX5_tellsPlaces_16 rfl ?_
        refine S_getR (pc := 17) fd_X5_items wd_172 dX5_tellsPlaces_17 (fun v3 => ?_)
        refine S_iload_n (pc := 20) 3 rfl dX5_tellsPlaces_20 rfl ?_
        refine S_aI (pc := 21) dX5_tellsPlaces_21 (fun v4 => ?_)
        refine S_iload_n (pc := 22) 2 rfl dX5_tellsPlaces_22 rfl ?_
        refine S_icmp_lt (pc := 23) (tgt := 28) dX5_tellsPlaces_23 (by decide) ?_ ?_
        · refine S_iinc (pc := 28) (v := a3 + (1 : Int32)) 3 rfl dX5_tellsPlaces_28 (x_inc ic_1) (Nat.le_of_ble_eq_true rfl) rfl ?_
          refine S_goto (pc := 31) (tgt := 2) dX5_tellsPlaces_31 (by decide) ?_
          refine S_sub [1, 2, 3, 0] rfl ?_
          exact ih a0 a1 a2 (a3 + (1 : Int32)) h
        · refine S_iconst (pc := 26) dX5_tellsPlaces_26 ic_0 ?_
          exact Sim.fin ⟨dX5_tellsPlaces_27, rfl, rfl, x_nar (Or.inl rfl)⟩ rfl
set_option maxRecDepth 20000 in
set_option maxHeartbeats 4000000 in
theorem W_X5_tellsPlaces (K : xK) (L : xL) (a0 : Nat) (a1 : Int32) (a2 : Int32) (h : xH) : Sim K L cX5_tellsPlaces RX5 "tellsPlaces" 4 0 (fun q : Int32 × xH => q.2) (xRz cX5_tellsPlaces) 0 [(0, .ref a0), (1, .int a1), (2, .int a2)] [] h (f_X5_tellsPlaces a0 a1 a2 h) := by
  unfold f_X5_tellsPlaces
  refine S_iconst (pc := 0) dX5_tellsPlaces_0 ic_0 ?_
  refine S_istore_n (pc := 1) dX5_tellsPlaces_1 rfl (Nat.le_of_ble_eq_true rfl) rfl ?_
  refine S_sub [1, 2, 3, 0] rfl ?_
  exact L_X5_tellsPlaces_2 K L xN a0 a1 a2 (0 : Int32) h
theorem M_X5_tellsPlaces (l : Launch) (a0 : Nat) (a1 : Int32) (a2 : Int32) (h : xH) {q : Int32 × xH} (hq : f_X5_tellsPlaces a0 a1 a2 h = some q) : xM l yX5_tellsPlaces cX5_tellsPlaces 4 (some .boolean) 0 [.ref a0, .int a1, .int a2] h (some (.int q.1)) q.2 := xM_z (by decide +kernel) (Nat.le_of_ble_eq_true rfl) (fun K L => W_X5_tellsPlaces K L a0 a1 a2 h) hq
theorem dX11_take_0 : decode cX11_take 0 = .ok (.iload_n 1, 1) := by decide +kernel
theorem dX11_take_1 : decode cX11_take 1 = .ok (.invokestatic 113, 3) := by decide +kernel
theorem dX11_take_4 : decode cX11_take 4 = .ok (.ifCond .eq 24, 3) := by decide +kernel
theorem dX11_take_7 : decode cX11_take 7 = .ok (.iload_n 3, 1) := by decide +kernel
theorem dX11_take_8 : decode cX11_take 8 = .ok (.invokestatic 61, 3) := by decide +kernel
theorem dX11_take_11 : decode cX11_take 11 = .ok (.ifCond .eq 17, 3) := by decide +kernel
theorem dX11_take_14 : decode cX11_take 14 = .ok (.iload_n 2, 1) := by decide +kernel
theorem dX11_take_15 : decode cX11_take 15 = .ok (.sipush 480, 3) := by decide +kernel
theorem dX11_take_18 : decode cX11_take 18 = .ok (.if_icmp .gt 10, 3) := by decide +kernel
theorem dX11_take_21 : decode cX11_take 21 = .ok (.iload 4, 2) := by decide +kernel
theorem dX11_take_23 : decode cX11_take 23 = .ok (.bipush 40, 2) := by decide +kernel
theorem dX11_take_25 : decode cX11_take 25 = .ok (.if_icmp .le 6, 3) := by decide +kernel
theorem dX11_take_28 : decode cX11_take 28 = .ok (.ldc 65, 2) := by decide +kernel
theorem dX11_take_30 : decode cX11_take 30 = .ok (.ireturn, 1) := by decide +kernel
theorem dX11_take_31 : decode cX11_take 31 = .ok (.iload_n 2, 1) := by decide +kernel
theorem dX11_take_32 : decode cX11_take 32 = .ok (.ifCond .ge 9, 3) := by decide +kernel
theorem dX11_take_35 : decode cX11_take 35 = .ok (.aload_n 0, 1) := by decide +kernel
theorem dX11_take_36 : decode cX11_take 36 = .ok (.iconst 4, 1) := by decide +kernel
theorem dX11_take_37 : decode cX11_take 37 = .ok (.invokevirtual 66, 3) := by decide +kernel
theorem dX11_take_40 : decode cX11_take 40 = .ok (.ireturn, 1) := by decide +kernel
theorem dX11_take_41 : decode cX11_take 41 = .ok (.aload_n 0, 1) := by decide +kernel
theorem dX11_take_42 : decode cX11_take 42 = .ok (.getfield 11, 3) := by decide +kernel
theorem dX11_take_45 : decode cX11_take 45 = .ok (.iload_n 3, 1) := by decide +kernel
theorem dX11_take_46 : decode cX11_take 46 = .ok (.aaload, 1) := by decide +kernel
theorem dX11_take_47 : decode cX11_take 47 = .ok (.astore 5, 2) := by decide +kernel
theorem dX11_take_49 : decode cX11_take 49 = .ok (.aload 5, 2) := by decide +kernel
theorem dX11_take_51 : decode cX11_take 51 = .ok (.getfield 77, 3) := by decide +kernel
theorem dX11_take_54 : decode cX11_take 54 = .ok (.ifCond .eq 9, 3) := by decide +kernel
theorem dX11_take_57 : decode cX11_take 57 = .ok (.aload_n 0, 1) := by decide +kernel
theorem dX11_take_58 : decode cX11_take 58 = .ok (.iconst 1, 1) := by decide +kernel
theorem dX11_take_59 : decode cX11_take 59 = .ok (.invokevirtual 66, 3) := by decide +kernel
theorem dX11_take_62 : decode cX11_take 62 = .ok (.ireturn, 1) := by decide +kernel
theorem dX11_take_63 : decode cX11_take 63 = .ok (.aload 5, 2) := by decide +kernel
theorem dX11_take_65 : decode cX11_take 65 = .ok (.iconst 0, 1) := by decide +kernel
theorem dX11_take_66 : decode cX11_take 66 = .ok (.iload 4, 2) := by decide +kernel
theorem dX11_take_68 : decode cX11_take 68 = .ok (.invokevirtual 95, 3) := by decide +kernel
theorem dX11_take_71 : decode cX11_take 71 = .ok (.ifCond .eq 14, 3) := by decide +kernel
theorem dX11_take_74 : decode cX11_take 74 = .ok (.aload 5, 2) := by decide +kernel
theorem dX11_take_76 : decode cX11_take 76 = .ok (.iload 4, 2) := by decide +kernel
theorem dX11_take_78 : decode cX11_take 78 = .ok (.iload_n 2, 1) := by decide +kernel
theorem dX11_take_79 : decode cX11_take 79 = .ok (.invokevirtual 173, 3) := by decide +kernel
theorem dX11_take_82 : decode cX11_take 82 = .ok (.ifCond .ne 9, 3) := by decide +kernel
theorem dX11_take_85 : decode cX11_take 85 = .ok (.aload_n 0, 1) := by decide +kernel
theorem dX11_take_86 : decode cX11_take 86 = .ok (.iconst 2, 1) := by decide +kernel
theorem dX11_take_87 : decode cX11_take 87 = .ok (.invokevirtual 66, 3) := by decide +kernel
theorem dX11_take_90 : decode cX11_take 90 = .ok (.ireturn, 1) := by decide +kernel
theorem dX11_take_91 : decode cX11_take 91 = .ok (.aload_n 0, 1) := by decide +kernel
theorem dX11_take_92 : decode cX11_take 92 = .ok (.iload_n 1, 1) := by decide +kernel
theorem dX11_take_93 : decode cX11_take 93 = .ok (.invokevirtual 133, 3) := by decide +kernel
theorem dX11_take_96 : decode cX11_take 96 = .ok (.astore 6, 2) := by decide +kernel
theorem dX11_take_98 : decode cX11_take 98 = .ok (.aload 6, 2) := by decide +kernel
theorem dX11_take_100 : decode cX11_take 100 = .ok (.iload_n 2, 1) := by decide +kernel
theorem dX11_take_101 : decode cX11_take 101 = .ok (.invokevirtual 137, 3) := by decide +kernel
theorem dX11_take_104 : decode cX11_take 104 = .ok (.iconst 0, 1) := by decide +kernel
theorem dX11_take_105 : decode cX11_take 105 = .ok (.istore 7, 2) := by decide +kernel
theorem dX11_take_107 : decode cX11_take 107 = .ok (.iload 7, 2) := by decide +kernel
theorem dX11_take_109 : decode cX11_take 109 = .ok (.iload 4, 2) := by decide +kernel
theorem dX11_take_111 : decode cX11_take 111 = .ok (.if_icmp .ge 23, 3) := by decide +kernel
theorem dX11_take_114 : decode cX11_take 114 = .ok (.aload 6, 2) := by decide +kernel
theorem dX11_take_116 : decode cX11_take 116 = .ok (.aload 5, 2) := by decide +kernel
theorem dX11_take_118 : decode cX11_take 118 = .ok (.getfield 88, 3) := by decide +kernel
theorem dX11_take_121 : decode cX11_take 121 = .ok (.iload 7, 2) := by decide +kernel
theorem dX11_take_123 : decode cX11_take 123 = .ok (.iaload, 1) := by decide +kernel
theorem dX11_take_124 : decode cX11_take 124 = .ok (.iconst 1, 1) := by decide +kernel
theorem dX11_take_125 : decode cX11_take 125 = .ok (.invokevirtual 155, 3) := by decide +kernel
theorem dX11_take_128 : decode cX11_take 128 = .ok (.iinc 7 1, 3) := by decide +kernel
theorem dX11_take_131 : decode cX11_take 131 = .ok (.goto (-24), 3) := by decide +kernel
theorem dX11_take_134 : decode cX11_take 134 = .ok (.aload_n 0, 1) := by decide +kernel
theorem dX11_take_135 : decode cX11_take 135 = .ok (.aload 6, 2) := by decide +kernel
theorem dX11_take_137 : decode cX11_take 137 = .ok (.invokevirtual 167, 3) := by decide +kernel
theorem dX11_take_140 : decode cX11_take 140 = .ok (.invokevirtual 74, 3) := by decide +kernel
theorem dX11_take_143 : decode cX11_take 143 = .ok (.ireturn, 1) := by decide +kernel
set_option maxRecDepth 20000 in
set_option maxHeartbeats 4000000 in
theorem L_X11_take_107 (K : xK) (L : xL) : ∀ (n : Nat) (a0 : Nat) (a4 : Int32) (a5 : Nat) (a6 : Nat) (a7 : Int32) (h : xH), Sim K L cX11_take RX11 "take" 8 4 (fun q : Int32 × xH => q.2) (fun q pc' ls' st' h' => pc' = 134 ∧ ls' = [(0, .ref a0), (4, .int a4), (5, .ref a5), (6, .ref a6), (7, .int q.1)] ∧ st' = [] ∧ h' = q.2) 107 [(0, .ref a0), (4, .int a4), (5, .ref a5), (6, .ref a6), (7, .int a7)] [] h (f_X11_take_L107 n a0 a4 a5 a6 a7 h) := by
  intro n
  induction n with
  | zero =>
    intro a0 a4 a5 a6 a7 h
    exact Sim.none
  | succ n ih =>
    intro a0 a4 a5 a6 a7 h
    unfold f_X11_take_L107
    refine S_iload (pc := 107) 4 rfl dX11_take_107 ?_
    refine S_iload (pc := 109) 1 rfl dX11_take_109 ?_
    refine S_icmp_ge (pc := 111) (tgt := 134) dX11_take_111 (by decide) ?_ ?_
    · refine S_sub [0, 1, 2, 3, 4] rfl ?_
      exact Sim.fin ⟨rfl, rfl, rfl, rfl⟩ rfl
    · refine S_aload (pc := 114) 3 rfl dX11_take_114 ?_
      refine S_aload (pc := 116) 2 rfl dX11_take_116 ?_
      refine S_getR (pc := 118) fd_X5_items wd_173 dX11_take_118 (fun v12 => ?_)
      refine S_iload (pc := 121) 4 rfl dX11_take_121 ?_
      refine S_aI (pc := 123) dX11_take_123 (fun v13 => ?_)
      refine S_iconst (pc := 124) dX11_take_124 ic_1 ?_
      refine S_call_v (pc := 125) (rest := []) (fun q hq => (x_if hq).elim (fun z => R_V (av := [.int v13, .int (1 : Int32)]) (q := (RX1, TX1, 2)) (M_X1_write _ a6 v13 (1 : Int32) h z.2) z.1 rfl wd_439 wd_455 wd_437 wd_45 wd_438 ⟨rfl, hd_X1_write⟩ ⟨Nat.le_of_ble_eq_true rfl, Nat.le_of_ble_eq_true rfl⟩ rfl (Nat.le_of_ble_eq_true rfl) dX11_take_125) (fun hq => (by cases hq))) (fun _ h => absurd h List.not_mem_nil) (fun q14 => ?_)
      refine S_iinc (pc := 128) (v := a7 + (1 : Int32)) 4 rfl dX11_take_128 (x_inc ic_1) (Nat.le_of_ble_eq_true rfl) rfl ?_
      refine S_goto (pc := 131) (tgt := 107) dX11_take_131 (by decide) ?_
      refine S_sub [1, 2, 3, 4, 0] rfl ?_
      exact ih a0 a4 a5 a6 (a7 + (1 : Int32)) q14
set_option maxRecDepth 20000 in
set_option maxHeartbeats 4000000 in
theorem W_X11_take (K : xK) (L : xL) (a0 : Nat) (a1 : Int32) (a2 : Int32) (a3 : Int32) (a4 : Int32) (h : xH) : Sim K L cX11_take RX11 "take" 8 4 (fun q : Int32 × xH => q.2) (xRi cX11_take) 0 [(0, .ref a0), (1, .int a1), (2, .int a2), (3, .int a3), (4, .int a4)] [] h (f_X11_take a0 a1 a2 a3 a4 h) := by
  unfold f_X11_take
  refine S_iload_n (pc := 0) 1 rfl dX11_take_0 rfl ?_
  refine S_call_i (pc := 1) (rest := []) (fun q hq => R_S (av := [.int a1]) (M_X11_isVector _ a1 h hq) wd_293 wd_291 wd_292 wd_44 hd_X11_isVector ⟨Nat.le_of_ble_eq_true rfl, Nat.le_of_ble_eq_true rfl⟩ rfl (Nat.le_of_ble_eq_true rfl) dX11_take_1) (fun _ h => absurd h List.not_mem_nil) (fun q1 => ?_)
  refine S_if_eq (pc := 4) (tgt := 28) dX11_take_4 (by decide) ?_ ?_
  · refine S_ldc (pc := 28) wd_233 dX11_take_28 ?_
    exact Sim.fin ⟨dX11_take_30, rfl, rfl⟩ rfl
  · refine S_iload_n (pc := 7) 3 rfl dX11_take_7 rfl ?_
    refine S_call_i (pc := 8) (rest := []) (fun q hq => R_S (av := [.int a3]) (M_X11_isRow _ a3 q1.2 hq) wd_232 wd_230 wd_231 wd_44 hd_X11_isRow ⟨Nat.le_of_ble_eq_true rfl, Nat.le_of_ble_eq_true rfl⟩ rfl (Nat.le_of_ble_eq_true rfl) dX11_take_8) (fun _ h => absurd h List.not_mem_nil) (fun q2 => ?_)
    refine S_if_eq (pc := 11) (tgt := 28) dX11_take_11 (by decide) ?_ ?_
    · refine S_ldc (pc := 28) wd_233 dX11_take_28 ?_
      exact Sim.fin ⟨dX11_take_30, rfl, rfl⟩ rfl
    · refine S_iload_n (pc := 14) 2 rfl dX11_take_14 rfl ?_
      refine S_sipush (pc := 15) dX11_take_15 si_480 ?_
      refine S_icmp_gt (pc := 18) (tgt := 28) dX11_take_18 (by decide) ?_ ?_
      · refine S_ldc (pc := 28) wd_233 dX11_take_28 ?_
        exact Sim.fin ⟨dX11_take_30, rfl, rfl⟩ rfl
      · refine S_iload (pc := 21) 4 rfl dX11_take_21 ?_
        refine S_bipush (pc := 23) dX11_take_23 bi_40 ?_
        refine S_icmp_le (pc := 25) (tgt := 31) dX11_take_25 (by decide) ?_ ?_
        · refine S_iload_n (pc := 31) 2 rfl dX11_take_31 rfl ?_
          refine S_if_ge (pc := 32) (tgt := 41) dX11_take_32 (by decide) ?_ ?_
          · refine S_aload_n (pc := 41) 0 rfl dX11_take_41 rfl ?_
            refine S_getR (pc := 42) fd_X11_rows wd_189 dX11_take_42 (fun v3 => ?_)
            refine S_iload_n (pc := 45) 3 rfl dX11_take_45 rfl ?_
            refine S_aR (pc := 46) (fun _ => rfl) dX11_take_46 (fun v4 => ?_)
            refine S_astore (pc := 47) dX11_take_47 (Nat.le_of_ble_eq_true rfl) rfl ?_
            refine S_aload (pc := 49) 0 rfl dX11_take_49 ?_
            refine S_getI (pc := 51) fd_X5_missing wd_175 dX11_take_51 (fun v5 => ?_)
            refine S_if_eq (pc := 54) (tgt := 63) dX11_take_54 (by decide) ?_ ?_
            · refine S_aload (pc := 63) 0 rfl dX11_take_63 ?_
              refine S_iconst (pc := 65) dX11_take_65 ic_0 ?_
              refine S_iload (pc := 66) 5 rfl dX11_take_66 ?_
              refine S_call_i (pc := 68) (rest := []) (fun q hq => (x_if hq).elim (fun z => R_V (av := [.int (0 : Int32), .int a4]) (q := (RX5, TX5, 4)) (M_X5_hasPart _ v4 (0 : Int32) a4 q2.2 z.2) z.1 rfl wd_265 wd_262 wd_263 wd_49 wd_264 ⟨rfl, hd_X5_hasPart⟩ ⟨Nat.le_of_ble_eq_true rfl, Nat.le_of_ble_eq_true rfl⟩ rfl (Nat.le_of_ble_eq_true rfl) dX11_take_68) (fun hq => (by cases hq))) (fun _ h => absurd h List.not_mem_nil) (fun q6 => ?_)
              refine S_if_eq (pc := 71) (tgt := 85) dX11_take_71 (by decide) ?_ ?_
              · refine S_aload_n (pc := 85) 1 rfl dX11_take_85 rfl ?_
                refine S_iconst (pc := 86) dX11_take_86 ic_2 ?_
                refine S_call_i (pc := 87) (rest := []) (fun q hq => (x_if hq).elim (fun z => R_V (av := [.int (2 : Int32)]) (q := (RX11, TX11, 12)) (M_X11_found _ a0 (2 : Int32) q6.2 z.2) z.1 rfl wd_237 wd_234 wd_236 wd_44 wd_0 ⟨rfl, hd_X11_found⟩ ⟨Nat.le_of_ble_eq_true rfl, Nat.le_of_ble_eq_true rfl⟩ rfl (Nat.le_of_ble_eq_true rfl) dX11_take_87) (fun hq => (by cases hq))) (fun _ h => absurd h List.not_mem_nil) (fun q7 => ?_)
                exact Sim.fin ⟨dX11_take_90, rfl, rfl⟩ rfl
              · refine S_aload (pc := 74) 0 rfl dX11_take_74 ?_
                refine S_iload (pc := 76) 5 rfl dX11_take_76 ?_
                refine S_iload_n (pc := 78) 3 rfl dX11_take_78 rfl ?_
                refine S_call_i (pc := 79) (rest := []) (fun q hq => (x_if hq).elim (fun z => R_V (av := [.int a4, .int a2]) (q := (RX5, TX5, 4)) (M_X5_tellsPlaces _ v4 a4 a2 q6.2 z.2) z.1 rfl wd_519 wd_516 wd_517 wd_49 wd_518 ⟨rfl, hd_X5_tellsPlaces⟩ ⟨Nat.le_of_ble_eq_true rfl, Nat.le_of_ble_eq_true rfl⟩ rfl (Nat.le_of_ble_eq_true rfl) dX11_take_79) (fun hq => (by cases hq))) (fun _ h => absurd h List.not_mem_nil) (fun q8 => ?_)
                refine S_if_ne (pc := 82) (tgt := 91) dX11_take_82 (by decide) ?_ ?_
                · refine S_aload_n (pc := 85) 1 rfl dX11_take_85 rfl ?_
                  refine S_iconst (pc := 86) dX11_take_86 ic_2 ?_
                  refine S_call_i (pc := 87) (rest := []) (fun q hq => (x_if hq).elim (fun z => R_V (av := [.int (2 : Int32)]) (q := (RX11, TX11, 12)) (M_X11_found _ a0 (2 : Int32) q8.2 z.2) z.1 rfl wd_237 wd_234 wd_236 wd_44 wd_0 ⟨rfl, hd_X11_found⟩ ⟨Nat.le_of_ble_eq_true rfl, Nat.le_of_ble_eq_true rfl⟩ rfl (Nat.le_of_ble_eq_true rfl) dX11_take_87) (fun hq => (by cases hq))) (fun _ h => absurd h List.not_mem_nil) (fun q9 => ?_)
                  exact Sim.fin ⟨dX11_take_90, rfl, rfl⟩ rfl
                · refine S_aload_n (pc := 91) 1 rfl dX11_take_91 rfl ?_
                  refine S_iload_n (pc := 92) 2 rfl dX11_take_92 rfl ?_
                  refine S_call_r (pc := 93) (rest := []) (fun q hq => (x_if hq).elim (fun z => R_V (av := [.int a1]) (q := (RX11, TX11, 12)) (M_X11_vectorToChange _ a0 a1 q8.2 z.2) z.1 rfl wd_394 wd_391 wd_393 wd_44 wd_8 ⟨rfl, hd_X11_vectorToChange⟩ ⟨Nat.le_of_ble_eq_true rfl, Nat.le_of_ble_eq_true rfl⟩ rfl (Nat.le_of_ble_eq_true rfl) dX11_take_93) (fun hq => (by cases hq))) (fun _ h => absurd h List.not_mem_nil) (fun q10 => ?_)
                  refine S_astore (pc := 96) dX11_take_96 (Nat.le_of_ble_eq_true rfl) rfl ?_
                  refine S_aload (pc := 98) 0 rfl dX11_take_98 ?_
                  refine S_iload_n (pc := 100) 4 rfl dX11_take_100 rfl ?_
                  refine S_call_v (pc := 101) (rest := []) (fun q hq => (x_if hq).elim (fun z => R_V (av := [.int a2]) (q := (RX1, TX1, 2)) (M_X1_clearTo _ q10.1 a2 q10.2 z.2) z.1 rfl wd_407 wd_404 wd_405 wd_45 wd_406 ⟨rfl, hd_X1_clearTo⟩ ⟨Nat.le_of_ble_eq_true rfl, Nat.le_of_ble_eq_true rfl⟩ rfl (Nat.le_of_ble_eq_true rfl) dX11_take_101) (fun hq => (by cases hq))) (fun _ h => absurd h List.not_mem_nil) (fun q11 => ?_)
                  refine S_iconst (pc := 104) dX11_take_104 ic_0 ?_
                  refine S_istore (pc := 105) dX11_take_105 (Nat.le_of_ble_eq_true rfl) rfl ?_
                  refine S_sub [3, 7, 2, 1, 0] rfl ?_
                  refine Sim.bind (hs := fun q15 : Int32 × xH => q15.2) (px := 134) (lsx := fun q15 => [(0, .ref a0), (4, .int a4), (5, .ref v4), (6, .ref q10.1), (7, .int q15.1)]) (L_X11_take_107 K L xN a0 a4 v4 q10.1 (0 : Int32) q11) (fun q15 => ?_)
                  refine S_aload_n (pc := 134) 0 rfl dX11_take_134 rfl ?_
                  refine S_aload (pc := 135) 3 rfl dX11_take_135 ?_
                  refine S_call_i (pc := 137) (rest := [.ref a0]) (fun q hq => (x_if hq).elim (fun z => R_V (av := []) (q := (RX1, TX1, 2)) (M_X1_countOnes _ q10.1 q15.2 z.2) z.1 rfl wd_493 wd_490 wd_491 wd_45 wd_492 ⟨rfl, hd_X1_countOnes⟩ ⟨Nat.le_of_ble_eq_true rfl, Nat.le_of_ble_eq_true rfl⟩ rfl (Nat.le_of_ble_eq_true rfl) dX11_take_137) (fun hq => (by cases hq))) (fun _ h => List.mem_cons_of_mem _ (h)) (fun q16 => ?_)
                  refine S_call_i (pc := 140) (rest := []) (fun q hq => (x_if hq).elim (fun z => R_V (av := [.int q16.1]) (q := (RX11, TX11, 12)) (M_X11_fine _ a0 q16.1 q16.2 z.2) z.1 rfl wd_249 wd_246 wd_248 wd_44 wd_1 ⟨rfl, hd_X11_fine⟩ ⟨Nat.le_of_ble_eq_true rfl, Nat.le_of_ble_eq_true rfl⟩ rfl (Nat.le_of_ble_eq_true rfl) dX11_take_140) (fun hq => (by cases hq))) (fun _ h => absurd h List.not_mem_nil) (fun q17 => ?_)
                  exact Sim.fin ⟨dX11_take_143, rfl, rfl⟩ rfl
            · refine S_aload_n (pc := 57) 1 rfl dX11_take_57 rfl ?_
              refine S_iconst (pc := 58) dX11_take_58 ic_1 ?_
              refine S_call_i (pc := 59) (rest := []) (fun q hq => (x_if hq).elim (fun z => R_V (av := [.int (1 : Int32)]) (q := (RX11, TX11, 12)) (M_X11_found _ a0 (1 : Int32) q2.2 z.2) z.1 rfl wd_237 wd_234 wd_236 wd_44 wd_0 ⟨rfl, hd_X11_found⟩ ⟨Nat.le_of_ble_eq_true rfl, Nat.le_of_ble_eq_true rfl⟩ rfl (Nat.le_of_ble_eq_true rfl) dX11_take_59) (fun hq => (by cases hq))) (fun _ h => absurd h List.not_mem_nil) (fun q18 => ?_)
              exact Sim.fin ⟨dX11_take_62, rfl, rfl⟩ rfl
          · refine S_aload_n (pc := 35) 0 rfl dX11_take_35 rfl ?_
            refine S_iconst (pc := 36) dX11_take_36 ic_4 ?_
            refine S_call_i (pc := 37) (rest := []) (fun q hq => (x_if hq).elim (fun z => R_V (av := [.int (4 : Int32)]) (q := (RX11, TX11, 12)) (M_X11_found _ a0 (4 : Int32) q2.2 z.2) z.1 rfl wd_237 wd_234 wd_236 wd_44 wd_0 ⟨rfl, hd_X11_found⟩ ⟨Nat.le_of_ble_eq_true rfl, Nat.le_of_ble_eq_true rfl⟩ rfl (Nat.le_of_ble_eq_true rfl) dX11_take_37) (fun hq => (by cases hq))) (fun _ h => absurd h List.not_mem_nil) (fun q19 => ?_)
            exact Sim.fin ⟨dX11_take_40, rfl, rfl⟩ rfl
        · refine S_ldc (pc := 28) wd_233 dX11_take_28 ?_
          exact Sim.fin ⟨dX11_take_30, rfl, rfl⟩ rfl
theorem M_X11_take (l : Launch) (a0 : Nat) (a1 : Int32) (a2 : Int32) (a3 : Int32) (a4 : Int32) (h : xH) {q : Int32 × xH} (hq : f_X11_take a0 a1 a2 a3 a4 h = some q) : xM l yX11_take cX11_take 8 (some .int) 4 [.ref a0, .int a1, .int a2, .int a3, .int a4] h (some (.int q.1)) q.2 := xM_i (by decide +kernel) (Nat.le_of_ble_eq_true rfl) (fun K L => W_X11_take K L a0 a1 a2 a3 a4 h) hq
