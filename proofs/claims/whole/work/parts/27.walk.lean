theorem dX12_kind_0 : decode cX12_kind 0 = .ok (.aload_n 0, 1) := by decide +kernel
theorem dX12_kind_1 : decode cX12_kind 1 = .ok (.iload_n 1, 1) := by decide +kernel
theorem dX12_kind_2 : decode cX12_kind 2 = .ok (.invokevirtual 227, 3) := by decide +kernel
theorem dX12_kind_5 : decode cX12_kind 5 = .ok (.ifCond .eq 11, 3) := by decide +kernel
theorem dX12_kind_8 : decode cX12_kind 8 = .ok (.aload_n 0, 1) := by decide +kernel
theorem dX12_kind_9 : decode cX12_kind 9 = .ok (.iload_n 1, 1) := by decide +kernel
theorem dX12_kind_10 : decode cX12_kind 10 = .ok (.invokevirtual 230, 3) := by decide +kernel
theorem dX12_kind_13 : decode cX12_kind 13 = .ok (.goto 5, 3) := by decide +kernel
theorem dX12_kind_16 : decode cX12_kind 16 = .ok (.ldc 73, 2) := by decide +kernel
theorem dX12_kind_18 : decode cX12_kind 18 = .ok (.ireturn, 1) := by decide +kernel
set_option maxRecDepth 20000 in
set_option maxHeartbeats 4000000 in
theorem W_X12_kind (K : xK) (L : xL) (a0 : Nat) (a1 : Int32) (h : xH) : Sim K L cX12_kind RX12 "kind" 2 2 (fun q : Int32 × xH => q.2) (xRi cX12_kind) 0 [(0, .ref a0), (1, .int a1)] [] h (f_X12_kind a0 a1 h) := by
  unfold f_X12_kind
  refine S_aload_n (pc := 0) 0 rfl dX12_kind_0 rfl ?_
  refine S_iload_n (pc := 1) 1 rfl dX12_kind_1 rfl ?_
  refine S_call_i (pc := 2) (rest := []) (fun q hq => (x_if hq).elim (fun z => R_V (av := [.int a1]) (q := (RX12, TX12, 28)) (M_X12_isRun _ a0 a1 h z.2) z.1 rfl wd_1180 wd_1177 wd_1179 wd_50 wd_35 ⟨rfl, hd_X12_isRun⟩ ⟨Nat.le_of_ble_eq_true rfl, Nat.le_of_ble_eq_true rfl⟩ rfl (Nat.le_of_ble_eq_true rfl) dX12_kind_2) (fun hq => (by cases hq))) (fun _ h => absurd h List.not_mem_nil) (fun q1 => ?_)
  refine S_if_eq (pc := 5) (tgt := 16) dX12_kind_5 (by decide) ?_ ?_
  · refine S_ldc (pc := 16) wd_903 dX12_kind_16 ?_
    exact Sim.fin ⟨dX12_kind_18, rfl, rfl⟩ rfl
  · refine S_aload_n (pc := 8) 0 rfl dX12_kind_8 rfl ?_
    refine S_iload_n (pc := 9) 1 rfl dX12_kind_9 rfl ?_
    refine S_call_i (pc := 10) (rest := []) (fun q hq => (x_if hq).elim (fun z => R_V (av := [.int a1]) (q := (RX12, TX12, 28)) (M_X12_kindIn _ a0 a1 q1.2 z.2) z.1 rfl wd_1184 wd_1181 wd_1183 wd_50 wd_36 ⟨rfl, hd_X12_kindIn⟩ ⟨Nat.le_of_ble_eq_true rfl, Nat.le_of_ble_eq_true rfl⟩ rfl (Nat.le_of_ble_eq_true rfl) dX12_kind_10) (fun hq => (by cases hq))) (fun _ h => absurd h List.not_mem_nil) (fun q2 => ?_)
    refine S_goto (pc := 13) (tgt := 18) dX12_kind_13 (by decide) ?_
    exact Sim.fin ⟨dX12_kind_18, rfl, rfl⟩ rfl
theorem M_X12_kind (l : Launch) (a0 : Nat) (a1 : Int32) (h : xH) {q : Int32 × xH} (hq : f_X12_kind a0 a1 h = some q) : xM l yX12_kind cX12_kind 2 (some .int) 2 [.ref a0, .int a1] h (some (.int q.1)) q.2 := xM_i (by decide +kernel) (Nat.le_of_ble_eq_true rfl) (fun K L => W_X12_kind K L a0 a1 h) hq
theorem dX12_kindOf_0 : decode cX12_kindOf 0 = .ok (.iload_n 0, 1) := by decide +kernel
theorem dX12_kindOf_1 : decode cX12_kindOf 1 = .ok (.bipush 122, 2) := by decide +kernel
theorem dX12_kindOf_3 : decode cX12_kindOf 3 = .ok (.if_icmp .ne 7, 3) := by decide +kernel
theorem dX12_kindOf_6 : decode cX12_kindOf 6 = .ok (.iconst 1, 1) := by decide +kernel
theorem dX12_kindOf_7 : decode cX12_kindOf 7 = .ok (.goto 44, 3) := by decide +kernel
theorem dX12_kindOf_10 : decode cX12_kindOf 10 = .ok (.iload_n 0, 1) := by decide +kernel
theorem dX12_kindOf_11 : decode cX12_kindOf 11 = .ok (.bipush 111, 2) := by decide +kernel
theorem dX12_kindOf_13 : decode cX12_kindOf 13 = .ok (.if_icmp .ne 7, 3) := by decide +kernel
theorem dX12_kindOf_16 : decode cX12_kindOf 16 = .ok (.iconst 2, 1) := by decide +kernel
theorem dX12_kindOf_17 : decode cX12_kindOf 17 = .ok (.goto 34, 3) := by decide +kernel
theorem dX12_kindOf_20 : decode cX12_kindOf 20 = .ok (.iload_n 0, 1) := by decide +kernel
theorem dX12_kindOf_21 : decode cX12_kindOf 21 = .ok (.bipush 116, 2) := by decide +kernel
theorem dX12_kindOf_23 : decode cX12_kindOf 23 = .ok (.if_icmp .ne 7, 3) := by decide +kernel
theorem dX12_kindOf_26 : decode cX12_kindOf 26 = .ok (.iconst 3, 1) := by decide +kernel
theorem dX12_kindOf_27 : decode cX12_kindOf 27 = .ok (.goto 24, 3) := by decide +kernel
theorem dX12_kindOf_30 : decode cX12_kindOf 30 = .ok (.iload_n 0, 1) := by decide +kernel
theorem dX12_kindOf_31 : decode cX12_kindOf 31 = .ok (.bipush 97, 2) := by decide +kernel
theorem dX12_kindOf_33 : decode cX12_kindOf 33 = .ok (.if_icmp .ne 7, 3) := by decide +kernel
theorem dX12_kindOf_36 : decode cX12_kindOf 36 = .ok (.iconst 4, 1) := by decide +kernel
theorem dX12_kindOf_37 : decode cX12_kindOf 37 = .ok (.goto 14, 3) := by decide +kernel
theorem dX12_kindOf_40 : decode cX12_kindOf 40 = .ok (.iload_n 0, 1) := by decide +kernel
theorem dX12_kindOf_41 : decode cX12_kindOf 41 = .ok (.bipush 98, 2) := by decide +kernel
theorem dX12_kindOf_43 : decode cX12_kindOf 43 = .ok (.if_icmp .ne 7, 3) := by decide +kernel
theorem dX12_kindOf_46 : decode cX12_kindOf 46 = .ok (.iconst 5, 1) := by decide +kernel
theorem dX12_kindOf_47 : decode cX12_kindOf 47 = .ok (.goto 4, 3) := by decide +kernel
theorem dX12_kindOf_50 : decode cX12_kindOf 50 = .ok (.iconst 0, 1) := by decide +kernel
theorem dX12_kindOf_51 : decode cX12_kindOf 51 = .ok (.ireturn, 1) := by decide +kernel
set_option maxRecDepth 20000 in
set_option maxHeartbeats 4000000 in
theorem W_X12_kindOf (K : xK) (L : xL) (a0 : Int32) (h : xH) : Sim K L cX12_kindOf RX12 "kindOf" 1 0 (fun q : Int32 × xH => q.2) (xRi cX12_kindOf) 0 [(0, .int a0)] [] h (f_X12_kindOf a0 h) := by
  unfold f_X12_kindOf
  refine S_iload_n (pc := 0) 0 rfl dX12_kindOf_0 rfl ?_
  refine S_bipush (pc := 1) dX12_kindOf_1 bi_122 ?_
  refine S_icmp_ne (pc := 3) (tgt := 10) dX12_kindOf_3 (by decide) ?_ ?_
  · refine S_iconst (pc := 6) dX12_kindOf_6 ic_1 ?_
    refine S_goto (pc := 7) (tgt := 51) dX12_kindOf_7 (by decide) ?_
    exact Sim.fin ⟨dX12_kindOf_51, rfl, rfl⟩ rfl
  · refine S_iload_n (pc := 10) 0 rfl dX12_kindOf_10 rfl ?_
    refine S_bipush (pc := 11) dX12_kindOf_11 bi_111 ?_
    refine S_icmp_ne (pc := 13) (tgt := 20) dX12_kindOf_13 (by decide) ?_ ?_
    · refine S_iconst (pc := 16) dX12_kindOf_16 ic_2 ?_
      refine S_goto (pc := 17) (tgt := 51) dX12_kindOf_17 (by decide) ?_
      exact Sim.fin ⟨dX12_kindOf_51, rfl, rfl⟩ rfl
    · refine S_iload_n (pc := 20) 0 rfl dX12_kindOf_20 rfl ?_
      refine S_bipush (pc := 21) dX12_kindOf_21 bi_116 ?_
      refine S_icmp_ne (pc := 23) (tgt := 30) dX12_kindOf_23 (by decide) ?_ ?_
      · refine S_iconst (pc := 26) dX12_kindOf_26 ic_3 ?_
        refine S_goto (pc := 27) (tgt := 51) dX12_kindOf_27 (by decide) ?_
        exact Sim.fin ⟨dX12_kindOf_51, rfl, rfl⟩ rfl
      · refine S_iload_n (pc := 30) 0 rfl dX12_kindOf_30 rfl ?_
        refine S_bipush (pc := 31) dX12_kindOf_31 bi_97 ?_
        refine S_icmp_ne (pc := 33) (tgt := 40) dX12_kindOf_33 (by decide) ?_ ?_
        · refine S_iconst (pc := 36) dX12_kindOf_36 ic_4 ?_
          refine S_goto (pc := 37) (tgt := 51) dX12_kindOf_37 (by decide) ?_
          exact Sim.fin ⟨dX12_kindOf_51, rfl, rfl⟩ rfl
        · refine S_iload_n (pc := 40) 0 rfl dX12_kindOf_40 rfl ?_
          refine S_bipush (pc := 41) dX12_kindOf_41 bi_98 ?_
          refine S_icmp_ne (pc := 43) (tgt := 50) dX12_kindOf_43 (by decide) ?_ ?_
          · refine S_iconst (pc := 46) dX12_kindOf_46 ic_5 ?_
            refine S_goto (pc := 47) (tgt := 51) dX12_kindOf_47 (by decide) ?_
            exact Sim.fin ⟨dX12_kindOf_51, rfl, rfl⟩ rfl
          · refine S_iconst (pc := 50) dX12_kindOf_50 ic_0 ?_
            exact Sim.fin ⟨dX12_kindOf_51, rfl, rfl⟩ rfl
theorem M_X12_kindOf (l : Launch) (a0 : Int32) (h : xH) {q : Int32 × xH} (hq : f_X12_kindOf a0 h = some q) : xM l yX12_kindOf cX12_kindOf 1 (some .int) 0 [.int a0] h (some (.int q.1)) q.2 := xM_i (by decide +kernel) (Nat.le_of_ble_eq_true rfl) (fun K L => W_X12_kindOf K L a0 h) hq
theorem dX12_last_0 : decode cX12_last 0 = .ok (.aload_n 0, 1) := by decide +kernel
theorem dX12_last_1 : decode cX12_last 1 = .ok (.iload_n 1, 1) := by decide +kernel
theorem dX12_last_2 : decode cX12_last 2 = .ok (.iload_n 2, 1) := by decide +kernel
theorem dX12_last_3 : decode cX12_last 3 = .ok (.invokevirtual 209, 3) := by decide +kernel
theorem dX12_last_6 : decode cX12_last 6 = .ok (.ifCond .eq 10, 3) := by decide +kernel
theorem dX12_last_9 : decode cX12_last 9 = .ok (.iload_n 3, 1) := by decide +kernel
theorem dX12_last_10 : decode cX12_last 10 = .ok (.invokestatic 184, 3) := by decide +kernel
theorem dX12_last_13 : decode cX12_last 13 = .ok (.ifCond .ne 6, 3) := by decide +kernel
theorem dX12_last_16 : decode cX12_last 16 = .ok (.ldc 73, 2) := by decide +kernel
theorem dX12_last_18 : decode cX12_last 18 = .ok (.ireturn, 1) := by decide +kernel
theorem dX12_last_19 : decode cX12_last 19 = .ok (.iload_n 2, 1) := by decide +kernel
theorem dX12_last_20 : decode cX12_last 20 = .ok (.iconst 1, 1) := by decide +kernel
theorem dX12_last_21 : decode cX12_last 21 = .ok (.isub, 1) := by decide +kernel
theorem dX12_last_22 : decode cX12_last 22 = .ok (.istore 4, 2) := by decide +kernel
theorem dX12_last_24 : decode cX12_last 24 = .ok (.iload 4, 2) := by decide +kernel
theorem dX12_last_26 : decode cX12_last 26 = .ok (.ifCond .lt 26, 3) := by decide +kernel
theorem dX12_last_29 : decode cX12_last 29 = .ok (.aload_n 0, 1) := by decide +kernel
theorem dX12_last_30 : decode cX12_last 30 = .ok (.getfield 25, 3) := by decide +kernel
theorem dX12_last_33 : decode cX12_last 33 = .ok (.iload_n 1, 1) := by decide +kernel
theorem dX12_last_34 : decode cX12_last 34 = .ok (.iload 4, 2) := by decide +kernel
theorem dX12_last_36 : decode cX12_last 36 = .ok (.invokestatic 163, 3) := by decide +kernel
theorem dX12_last_39 : decode cX12_last 39 = .ok (.iload_n 3, 1) := by decide +kernel
theorem dX12_last_40 : decode cX12_last 40 = .ok (.if_icmp .ne 6, 3) := by decide +kernel
theorem dX12_last_43 : decode cX12_last 43 = .ok (.iload 4, 2) := by decide +kernel
theorem dX12_last_45 : decode cX12_last 45 = .ok (.ireturn, 1) := by decide +kernel
theorem dX12_last_46 : decode cX12_last 46 = .ok (.iinc 4 (-1), 3) := by decide +kernel
theorem dX12_last_49 : decode cX12_last 49 = .ok (.goto (-25), 3) := by decide +kernel
theorem dX12_last_52 : decode cX12_last 52 = .ok (.ldc 59, 2) := by decide +kernel
theorem dX12_last_54 : decode cX12_last 54 = .ok (.ireturn, 1) := by decide +kernel
set_option maxRecDepth 20000 in
set_option maxHeartbeats 4000000 in
theorem L_X12_last_24 (K : xK) (L : xL) : ∀ (n : Nat) (a0 : Nat) (a1 : Int32) (a3 : Int32) (a4 : Int32) (h : xH), Sim K L cX12_last RX12 "last" 5 3 (fun q : Int32 × xH => q.2) (xRi cX12_last) 24 [(0, .ref a0), (1, .int a1), (3, .int a3), (4, .int a4)] [] h (f_X12_last_L24 n a0 a1 a3 a4 h) := by
  intro n
  induction n with
  | zero =>
    intro a0 a1 a3 a4 h
    exact Sim.none
  | succ n ih =>
    intro a0 a1 a3 a4 h
    unfold f_X12_last_L24
    refine S_iload (pc := 24) 3 rfl dX12_last_24 ?_
    refine S_if_lt (pc := 26) (tgt := 52) dX12_last_26 (by decide) ?_ ?_
    · refine S_ldc (pc := 52) wd_807 dX12_last_52 ?_
      exact Sim.fin ⟨dX12_last_54, rfl, rfl⟩ rfl
    · refine S_aload_n (pc := 29) 0 rfl dX12_last_29 rfl ?_
      refine S_getR (pc := 30) fd_X12_now wd_821 dX12_last_30 (fun v3 => ?_)
      refine S_iload_n (pc := 33) 1 rfl dX12_last_33 rfl ?_
      refine S_iload (pc := 34) 3 rfl dX12_last_34 ?_
      refine S_call_i (pc := 36) (rest := []) (fun q hq => R_S (av := [.ref v3, .int a1, .int a4]) (M_X12_bit _ v3 a1 a4 h hq) wd_1018 wd_1016 wd_1017 wd_50 hd_X12_bit ⟨Nat.le_of_ble_eq_true rfl, Nat.le_of_ble_eq_true rfl⟩ rfl (Nat.le_of_ble_eq_true rfl) dX12_last_36) (fun _ h => absurd h List.not_mem_nil) (fun q4 => ?_)
      refine S_iload_n (pc := 39) 2 rfl dX12_last_39 rfl ?_
      refine S_icmp_ne (pc := 40) (tgt := 46) dX12_last_40 (by decide) ?_ ?_
      · refine S_iload (pc := 43) 3 rfl dX12_last_43 ?_
        exact Sim.fin ⟨dX12_last_45, rfl, rfl⟩ rfl
      · refine S_iinc (pc := 46) (v := a4 + (-1 : Int32)) 3 rfl dX12_last_46 (x_inc ic_m1) (Nat.le_of_ble_eq_true rfl) rfl ?_
        refine S_goto (pc := 49) (tgt := 24) dX12_last_49 (by decide) ?_
        refine S_sub [1, 2, 3, 0] rfl ?_
        exact ih a0 a1 a3 (a4 + (-1 : Int32)) q4.2
set_option maxRecDepth 20000 in
set_option maxHeartbeats 4000000 in
theorem W_X12_last (K : xK) (L : xL) (a0 : Nat) (a1 : Int32) (a2 : Int32) (a3 : Int32) (h : xH) : Sim K L cX12_last RX12 "last" 5 3 (fun q : Int32 × xH => q.2) (xRi cX12_last) 0 [(0, .ref a0), (1, .int a1), (2, .int a2), (3, .int a3)] [] h (f_X12_last a0 a1 a2 a3 h) := by
  unfold f_X12_last
  refine S_aload_n (pc := 0) 0 rfl dX12_last_0 rfl ?_
  refine S_iload_n (pc := 1) 1 rfl dX12_last_1 rfl ?_
  refine S_iload_n (pc := 2) 2 rfl dX12_last_2 rfl ?_
  refine S_call_i (pc := 3) (rest := []) (fun q hq => (x_if hq).elim (fun z => R_V (av := [.int a1, .int a2]) (q := (RX12, TX12, 28)) (M_X12_isPlace _ a0 a1 a2 h z.2) z.1 rfl wd_1117 wd_1114 wd_1116 wd_50 wd_33 ⟨rfl, hd_X12_isPlace⟩ ⟨Nat.le_of_ble_eq_true rfl, Nat.le_of_ble_eq_true rfl⟩ rfl (Nat.le_of_ble_eq_true rfl) dX12_last_3) (fun hq => (by cases hq))) (fun _ h => absurd h List.not_mem_nil) (fun q1 => ?_)
  refine S_if_eq (pc := 6) (tgt := 16) dX12_last_6 (by decide) ?_ ?_
  · refine S_ldc (pc := 16) wd_903 dX12_last_16 ?_
    exact Sim.fin ⟨dX12_last_18, rfl, rfl⟩ rfl
  · refine S_iload_n (pc := 9) 3 rfl dX12_last_9 rfl ?_
    refine S_call_i (pc := 10) (rest := []) (fun q hq => R_S (av := [.int a3]) (M_X12_isValue _ a3 q1.2 hq) wd_1015 wd_1013 wd_1014 wd_50 hd_X12_isValue ⟨Nat.le_of_ble_eq_true rfl, Nat.le_of_ble_eq_true rfl⟩ rfl (Nat.le_of_ble_eq_true rfl) dX12_last_10) (fun _ h => absurd h List.not_mem_nil) (fun q2 => ?_)
    refine S_if_ne (pc := 13) (tgt := 19) dX12_last_13 (by decide) ?_ ?_
    · refine S_ldc (pc := 16) wd_903 dX12_last_16 ?_
      exact Sim.fin ⟨dX12_last_18, rfl, rfl⟩ rfl
    · refine S_iload_n (pc := 19) 2 rfl dX12_last_19 rfl ?_
      refine S_iconst (pc := 20) dX12_last_20 ic_1 ?_
      refine S_isub (pc := 21) dX12_last_21 ?_
      refine S_istore (pc := 22) dX12_last_22 (Nat.le_of_ble_eq_true rfl) rfl ?_
      refine S_sub [1, 2, 4, 0] rfl ?_
      exact L_X12_last_24 K L xN a0 a1 a3 (a2 - (1 : Int32)) q2.2
theorem M_X12_last (l : Launch) (a0 : Nat) (a1 : Int32) (a2 : Int32) (a3 : Int32) (h : xH) {q : Int32 × xH} (hq : f_X12_last a0 a1 a2 a3 h = some q) : xM l yX12_last cX12_last 5 (some .int) 3 [.ref a0, .int a1, .int a2, .int a3] h (some (.int q.1)) q.2 := xM_i (by decide +kernel) (Nat.le_of_ble_eq_true rfl) (fun K L => W_X12_last K L a0 a1 a2 a3 h) hq
theorem dX12_longer_0 : decode cX12_longer 0 = .ok (.aload_n 0, 1) := by decide +kernel
theorem dX12_longer_1 : decode cX12_longer 1 = .ok (.invokevirtual 113, 3) := by decide +kernel
theorem dX12_longer_4 : decode cX12_longer 4 = .ok (.ifCond .eq 43, 3) := by decide +kernel
theorem dX12_longer_7 : decode cX12_longer 7 = .ok (.aload_n 0, 1) := by decide +kernel
theorem dX12_longer_8 : decode cX12_longer 8 = .ok (.getfield 107, 3) := by decide +kernel
theorem dX12_longer_11 : decode cX12_longer 11 = .ok (.iconst 2, 1) := by decide +kernel
theorem dX12_longer_12 : decode cX12_longer 12 = .ok (.if_icmp .ne 35, 3) := by decide +kernel
theorem dX12_longer_15 : decode cX12_longer 15 = .ok (.aload_n 0, 1) := by decide +kernel
theorem dX12_longer_16 : decode cX12_longer 16 = .ok (.getfield 104, 3) := by decide +kernel
theorem dX12_longer_19 : decode cX12_longer 19 = .ok (.iconst 1, 1) := by decide +kernel
theorem dX12_longer_20 : decode cX12_longer 20 = .ok (.bipush 99, 2) := by decide +kernel
theorem dX12_longer_22 : decode cX12_longer 22 = .ok (.invokestatic 65, 3) := by decide +kernel
theorem dX12_longer_25 : decode cX12_longer 25 = .ok (.ifCond .eq 22, 3) := by decide +kernel
theorem dX12_longer_28 : decode cX12_longer 28 = .ok (.iload_n 1, 1) := by decide +kernel
theorem dX12_longer_29 : decode cX12_longer 29 = .ok (.aload_n 0, 1) := by decide +kernel
theorem dX12_longer_30 : decode cX12_longer 30 = .ok (.getfield 104, 3) := by decide +kernel
theorem dX12_longer_33 : decode cX12_longer 33 = .ok (.iadd, 1) := by decide +kernel
theorem dX12_longer_34 : decode cX12_longer 34 = .ok (.sipush 480, 3) := by decide +kernel
theorem dX12_longer_37 : decode cX12_longer 37 = .ok (.if_icmp .le 10, 3) := by decide +kernel
theorem dX12_longer_40 : decode cX12_longer 40 = .ok (.aload_n 0, 1) := by decide +kernel
theorem dX12_longer_41 : decode cX12_longer 41 = .ok (.iconst 0, 1) := by decide +kernel
theorem dX12_longer_42 : decode cX12_longer 42 = .ok (.iconst 4, 1) := by decide +kernel
theorem dX12_longer_43 : decode cX12_longer 43 = .ok (.invokevirtual 123, 3) := by decide +kernel
theorem dX12_longer_46 : decode cX12_longer 46 = .ok (.ireturn, 1) := by decide +kernel
theorem dX12_longer_47 : decode cX12_longer 47 = .ok (.aload_n 0, 1) := by decide +kernel
theorem dX12_longer_48 : decode cX12_longer 48 = .ok (.iconst 1, 1) := by decide +kernel
theorem dX12_longer_49 : decode cX12_longer 49 = .ok (.bipush 99, 2) := by decide +kernel
theorem dX12_longer_51 : decode cX12_longer 51 = .ok (.invokevirtual 127, 3) := by decide +kernel
theorem dX12_longer_54 : decode cX12_longer 54 = .ok (.ireturn, 1) := by decide +kernel
set_option maxRecDepth 20000 in
set_option maxHeartbeats 4000000 in
theorem W_X12_longer (K : xK) (L : xL) (a0 : Nat) (a1 : Int32) (h : xH) : Sim K L cX12_longer RX12 "longer" 2 4 (fun q : Int32 × xH => q.2) (xRi cX12_longer) 0 [(0, .ref a0), (1, .int a1)] [] h (f_X12_longer a0 a1 h) := by
  unfold f_X12_longer
  refine S_aload_n (pc := 0) 0 rfl dX12_longer_0 rfl ?_
  refine S_call_i (pc := 1) (rest := []) (fun q hq => (x_if hq).elim (fun z => R_V (av := []) (q := (RX12, TX12, 28)) (M_X12_isWell _ a0 h z.2) z.1 rfl wd_966 wd_963 wd_965 wd_50 wd_21 ⟨rfl, hd_X12_isWell⟩ ⟨Nat.le_of_ble_eq_true rfl, Nat.le_of_ble_eq_true rfl⟩ rfl (Nat.le_of_ble_eq_true rfl) dX12_longer_1) (fun hq => (by cases hq))) (fun _ h => absurd h List.not_mem_nil) (fun q1 => ?_)
  refine S_if_eq (pc := 4) (tgt := 47) dX12_longer_4 (by decide) ?_ ?_
  · refine S_aload_n (pc := 47) 0 rfl dX12_longer_47 rfl ?_
    refine S_iconst (pc := 48) dX12_longer_48 ic_1 ?_
    refine S_bipush (pc := 49) dX12_longer_49 bi_99 ?_
    refine S_call_i (pc := 51) (rest := []) (fun q hq => (x_if hq).elim (fun z => R_V (av := [.int (1 : Int32), .int (99 : Int32)]) (q := (RX12, TX12, 28)) (M_X12_figure _ a0 (1 : Int32) (99 : Int32) q1.2 z.2) z.1 rfl wd_974 wd_971 wd_973 wd_50 wd_23 ⟨rfl, hd_X12_figure⟩ ⟨Nat.le_of_ble_eq_true rfl, Nat.le_of_ble_eq_true rfl⟩ rfl (Nat.le_of_ble_eq_true rfl) dX12_longer_51) (fun hq => (by cases hq))) (fun _ h => absurd h List.not_mem_nil) (fun q2 => ?_)
    exact Sim.fin ⟨dX12_longer_54, rfl, rfl⟩ rfl
  · refine S_aload_n (pc := 7) 0 rfl dX12_longer_7 rfl ?_
    refine S_getI (pc := 8) fd_X12_token wd_819 dX12_longer_8 (fun v3 => ?_)
    refine S_iconst (pc := 11) dX12_longer_11 ic_2 ?_
    refine S_icmp_ne (pc := 12) (tgt := 47) dX12_longer_12 (by decide) ?_ ?_
    · refine S_aload_n (pc := 15) 0 rfl dX12_longer_15 rfl ?_
      refine S_getI (pc := 16) fd_X12_value wd_820 dX12_longer_16 (fun v4 => ?_)
      refine S_iconst (pc := 19) dX12_longer_19 ic_1 ?_
      refine S_bipush (pc := 20) dX12_longer_20 bi_99 ?_
      refine S_call_i (pc := 22) (rest := []) (fun q hq => R_S (av := [.int v4, .int (1 : Int32), .int (99 : Int32)]) (M_X12_in _ v4 (1 : Int32) (99 : Int32) q1.2 hq) wd_902 wd_900 wd_901 wd_50 hd_X12_in ⟨Nat.le_of_ble_eq_true rfl, Nat.le_of_ble_eq_true rfl⟩ rfl (Nat.le_of_ble_eq_true rfl) dX12_longer_22) (fun _ h => absurd h List.not_mem_nil) (fun q5 => ?_)
      refine S_if_eq (pc := 25) (tgt := 47) dX12_longer_25 (by decide) ?_ ?_
      · refine S_aload_n (pc := 47) 0 rfl dX12_longer_47 rfl ?_
        refine S_iconst (pc := 48) dX12_longer_48 ic_1 ?_
        refine S_bipush (pc := 49) dX12_longer_49 bi_99 ?_
        refine S_call_i (pc := 51) (rest := []) (fun q hq => (x_if hq).elim (fun z => R_V (av := [.int (1 : Int32), .int (99 : Int32)]) (q := (RX12, TX12, 28)) (M_X12_figure _ a0 (1 : Int32) (99 : Int32) q5.2 z.2) z.1 rfl wd_974 wd_971 wd_973 wd_50 wd_23 ⟨rfl, hd_X12_figure⟩ ⟨Nat.le_of_ble_eq_true rfl, Nat.le_of_ble_eq_true rfl⟩ rfl (Nat.le_of_ble_eq_true rfl) dX12_longer_51) (fun hq => (by cases hq))) (fun _ h => absurd h List.not_mem_nil) (fun q6 => ?_)
        exact Sim.fin ⟨dX12_longer_54, rfl, rfl⟩ rfl
      · refine S_iload_n (pc := 28) 1 rfl dX12_longer_28 rfl ?_
        refine S_aload_n (pc := 29) 0 rfl dX12_longer_29 rfl ?_
        refine S_getI (pc := 30) fd_X12_value wd_820 dX12_longer_30 (fun v7 => ?_)
        refine S_iadd (pc := 33) dX12_longer_33 ?_
        refine S_sipush (pc := 34) dX12_longer_34 si_480 ?_
        refine S_icmp_le (pc := 37) (tgt := 47) dX12_longer_37 (by decide) ?_ ?_
        · refine S_aload_n (pc := 47) 0 rfl dX12_longer_47 rfl ?_
          refine S_iconst (pc := 48) dX12_longer_48 ic_1 ?_
          refine S_bipush (pc := 49) dX12_longer_49 bi_99 ?_
          refine S_call_i (pc := 51) (rest := []) (fun q hq => (x_if hq).elim (fun z => R_V (av := [.int (1 : Int32), .int (99 : Int32)]) (q := (RX12, TX12, 28)) (M_X12_figure _ a0 (1 : Int32) (99 : Int32) q5.2 z.2) z.1 rfl wd_974 wd_971 wd_973 wd_50 wd_23 ⟨rfl, hd_X12_figure⟩ ⟨Nat.le_of_ble_eq_true rfl, Nat.le_of_ble_eq_true rfl⟩ rfl (Nat.le_of_ble_eq_true rfl) dX12_longer_51) (fun hq => (by cases hq))) (fun _ h => absurd h List.not_mem_nil) (fun q8 => ?_)
          exact Sim.fin ⟨dX12_longer_54, rfl, rfl⟩ rfl
        · refine S_aload_n (pc := 40) 0 rfl dX12_longer_40 rfl ?_
          refine S_iconst (pc := 41) dX12_longer_41 ic_0 ?_
          refine S_iconst (pc := 42) dX12_longer_42 ic_4 ?_
          refine S_call_i (pc := 43) (rest := []) (fun q hq => (x_if hq).elim (fun z => R_V (av := [.int (0 : Int32), .int (4 : Int32)]) (q := (RX12, TX12, 28)) (M_X12_takes _ a0 (0 : Int32) (4 : Int32) q5.2 z.2) z.1 rfl wd_962 wd_959 wd_961 wd_50 wd_20 ⟨rfl, hd_X12_takes⟩ ⟨Nat.le_of_ble_eq_true rfl, Nat.le_of_ble_eq_true rfl⟩ rfl (Nat.le_of_ble_eq_true rfl) dX12_longer_43) (fun hq => (by cases hq))) (fun _ h => absurd h List.not_mem_nil) (fun q9 => ?_)
          exact Sim.fin ⟨dX12_longer_46, rfl, rfl⟩ rfl
    · refine S_aload_n (pc := 47) 0 rfl dX12_longer_47 rfl ?_
      refine S_iconst (pc := 48) dX12_longer_48 ic_1 ?_
      refine S_bipush (pc := 49) dX12_longer_49 bi_99 ?_
      refine S_call_i (pc := 51) (rest := []) (fun q hq => (x_if hq).elim (fun z => R_V (av := [.int (1 : Int32), .int (99 : Int32)]) (q := (RX12, TX12, 28)) (M_X12_figure _ a0 (1 : Int32) (99 : Int32) q1.2 z.2) z.1 rfl wd_974 wd_971 wd_973 wd_50 wd_23 ⟨rfl, hd_X12_figure⟩ ⟨Nat.le_of_ble_eq_true rfl, Nat.le_of_ble_eq_true rfl⟩ rfl (Nat.le_of_ble_eq_true rfl) dX12_longer_51) (fun hq => (by cases hq))) (fun _ h => absurd h List.not_mem_nil) (fun q10 => ?_)
      exact Sim.fin ⟨dX12_longer_54, rfl, rfl⟩ rfl
theorem M_X12_longer (l : Launch) (a0 : Nat) (a1 : Int32) (h : xH) {q : Int32 × xH} (hq : f_X12_longer a0 a1 h = some q) : xM l yX12_longer cX12_longer 2 (some .int) 4 [.ref a0, .int a1] h (some (.int q.1)) q.2 := xM_i (by decide +kernel) (Nat.le_of_ble_eq_true rfl) (fun K L => W_X12_longer K L a0 a1 h) hq
theorem dX12_load_0 : decode cX12_load 0 = .ok (.iload_n 1, 1) := by decide +kernel
theorem dX12_load_1 : decode cX12_load 1 = .ok (.invokestatic 130, 3) := by decide +kernel
theorem dX12_load_4 : decode cX12_load 4 = .ok (.ifCond .ne 6, 3) := by decide +kernel
theorem dX12_load_7 : decode cX12_load 7 = .ok (.ldc 73, 2) := by decide +kernel
theorem dX12_load_9 : decode cX12_load 9 = .ok (.ireturn, 1) := by decide +kernel
theorem dX12_load_10 : decode cX12_load 10 = .ok (.aload_n 0, 1) := by decide +kernel
theorem dX12_load_11 : decode cX12_load 11 = .ok (.iconst 0, 1) := by decide +kernel
theorem dX12_load_12 : decode cX12_load 12 = .ok (.putfield 95, 3) := by decide +kernel
theorem dX12_load_15 : decode cX12_load 15 = .ok (.aload_n 0, 1) := by decide +kernel
theorem dX12_load_16 : decode cX12_load 16 = .ok (.iconst (-1), 1) := by decide +kernel
theorem dX12_load_17 : decode cX12_load 17 = .ok (.putfield 110, 3) := by decide +kernel
theorem dX12_load_20 : decode cX12_load 20 = .ok (.aload_n 0, 1) := by decide +kernel
theorem dX12_load_21 : decode cX12_load 21 = .ok (.iconst 0, 1) := by decide +kernel
theorem dX12_load_22 : decode cX12_load 22 = .ok (.putfield 133, 3) := by decide +kernel
theorem dX12_load_25 : decode cX12_load 25 = .ok (.iconst 0, 1) := by decide +kernel
theorem dX12_load_26 : decode cX12_load 26 = .ok (.istore_n 2, 1) := by decide +kernel
theorem dX12_load_27 : decode cX12_load 27 = .ok (.aload_n 0, 1) := by decide +kernel
theorem dX12_load_28 : decode cX12_load 28 = .ok (.invokevirtual 120, 3) := by decide +kernel
theorem dX12_load_31 : decode cX12_load 31 = .ok (.aload_n 0, 1) := by decide +kernel
theorem dX12_load_32 : decode cX12_load 32 = .ok (.getfield 107, 3) := by decide +kernel
theorem dX12_load_35 : decode cX12_load 35 = .ok (.iconst 1, 1) := by decide +kernel
theorem dX12_load_36 : decode cX12_load 36 = .ok (.if_icmp .ne 13, 3) := by decide +kernel
theorem dX12_load_39 : decode cX12_load 39 = .ok (.aload_n 0, 1) := by decide +kernel
theorem dX12_load_40 : decode cX12_load 40 = .ok (.getfield 104, 3) := by decide +kernel
theorem dX12_load_43 : decode cX12_load 43 = .ok (.invokestatic 136, 3) := by decide +kernel
theorem dX12_load_46 : decode cX12_load 46 = .ok (.goto 4, 3) := by decide +kernel
theorem dX12_load_49 : decode cX12_load 49 = .ok (.iconst 0, 1) := by decide +kernel
theorem dX12_load_50 : decode cX12_load 50 = .ok (.istore_n 3, 1) := by decide +kernel
theorem dX12_load_51 : decode cX12_load 51 = .ok (.aload_n 0, 1) := by decide +kernel
theorem dX12_load_52 : decode cX12_load 52 = .ok (.iload_n 3, 1) := by decide +kernel
theorem dX12_load_53 : decode cX12_load 53 = .ok (.ifCond .le 7, 3) := by decide +kernel
theorem dX12_load_56 : decode cX12_load 56 = .ok (.iconst 1, 1) := by decide +kernel
theorem dX12_load_57 : decode cX12_load 57 = .ok (.goto 4, 3) := by decide +kernel
theorem dX12_load_60 : decode cX12_load 60 = .ok (.iconst 0, 1) := by decide +kernel
theorem dX12_load_61 : decode cX12_load 61 = .ok (.iconst 1, 1) := by decide +kernel
theorem dX12_load_62 : decode cX12_load 62 = .ok (.invokevirtual 123, 3) := by decide +kernel
theorem dX12_load_65 : decode cX12_load 65 = .ok (.pop, 1) := by decide +kernel
theorem dX12_load_66 : decode cX12_load 66 = .ok (.aload_n 0, 1) := by decide +kernel
theorem dX12_load_67 : decode cX12_load 67 = .ok (.invokevirtual 113, 3) := by decide +kernel
theorem dX12_load_70 : decode cX12_load 70 = .ok (.ifCond .eq 27, 3) := by decide +kernel
theorem dX12_load_73 : decode cX12_load 73 = .ok (.aload_n 0, 1) := by decide +kernel
theorem dX12_load_74 : decode cX12_load 74 = .ok (.getfield 133, 3) := by decide +kernel
theorem dX12_load_77 : decode cX12_load 77 = .ok (.bipush 12, 2) := by decide +kernel
theorem dX12_load_79 : decode cX12_load 79 = .ok (.if_icmp .ne 18, 3) := by decide +kernel
theorem dX12_load_82 : decode cX12_load 82 = .ok (.aload_n 0, 1) := by decide +kernel
theorem dX12_load_83 : decode cX12_load 83 = .ok (.aload_n 0, 1) := by decide +kernel
theorem dX12_load_84 : decode cX12_load 84 = .ok (.getfield 98, 3) := by decide +kernel
theorem dX12_load_87 : decode cX12_load 87 = .ok (.iconst 1, 1) := by decide +kernel
theorem dX12_load_88 : decode cX12_load 88 = .ok (.isub, 1) := by decide +kernel
theorem dX12_load_89 : decode cX12_load 89 = .ok (.putfield 110, 3) := by decide +kernel
theorem dX12_load_92 : decode cX12_load 92 = .ok (.aload_n 0, 1) := by decide +kernel
theorem dX12_load_93 : decode cX12_load 93 = .ok (.iconst 3, 1) := by decide +kernel
theorem dX12_load_94 : decode cX12_load 94 = .ok (.putfield 117, 3) := by decide +kernel
theorem dX12_load_97 : decode cX12_load 97 = .ok (.aload_n 0, 1) := by decide +kernel
theorem dX12_load_98 : decode cX12_load 98 = .ok (.iload_n 2, 1) := by decide +kernel
theorem dX12_load_99 : decode cX12_load 99 = .ok (.invokevirtual 139, 3) := by decide +kernel
theorem dX12_load_102 : decode cX12_load 102 = .ok (.istore 4, 2) := by decide +kernel
theorem dX12_load_104 : decode cX12_load 104 = .ok (.aload_n 0, 1) := by decide +kernel
theorem dX12_load_105 : decode cX12_load 105 = .ok (.aload_n 0, 1) := by decide +kernel
theorem dX12_load_106 : decode cX12_load 106 = .ok (.getfield 107, 3) := by decide +kernel
theorem dX12_load_109 : decode cX12_load 109 = .ok (.iconst 4, 1) := by decide +kernel
theorem dX12_load_110 : decode cX12_load 110 = .ok (.if_icmp .ne 7, 3) := by decide +kernel
theorem dX12_load_113 : decode cX12_load 113 = .ok (.iconst 1, 1) := by decide +kernel
theorem dX12_load_114 : decode cX12_load 114 = .ok (.goto 4, 3) := by decide +kernel
theorem dX12_load_117 : decode cX12_load 117 = .ok (.iconst 0, 1) := by decide +kernel
theorem dX12_load_118 : decode cX12_load 118 = .ok (.iconst 1, 1) := by decide +kernel
theorem dX12_load_119 : decode cX12_load 119 = .ok (.invokevirtual 123, 3) := by decide +kernel
theorem dX12_load_122 : decode cX12_load 122 = .ok (.pop, 1) := by decide +kernel
theorem dX12_load_123 : decode cX12_load 123 = .ok (.aload_n 0, 1) := by decide +kernel
theorem dX12_load_124 : decode cX12_load 124 = .ok (.invokevirtual 113, 3) := by decide +kernel
theorem dX12_load_127 : decode cX12_load 127 = .ok (.ifCond .eq 39, 3) := by decide +kernel
theorem dX12_load_130 : decode cX12_load 130 = .ok (.aload_n 0, 1) := by decide +kernel
theorem dX12_load_131 : decode cX12_load 131 = .ok (.getfield 47, 3) := by decide +kernel
theorem dX12_load_134 : decode cX12_load 134 = .ok (.aload_n 0, 1) := by decide +kernel
theorem dX12_load_135 : decode cX12_load 135 = .ok (.getfield 133, 3) := by decide +kernel
theorem dX12_load_138 : decode cX12_load 138 = .ok (.iload_n 3, 1) := by decide +kernel
theorem dX12_load_139 : decode cX12_load 139 = .ok (.iastore, 1) := by decide +kernel
theorem dX12_load_140 : decode cX12_load 140 = .ok (.aload_n 0, 1) := by decide +kernel
theorem dX12_load_141 : decode cX12_load 141 = .ok (.getfield 50, 3) := by decide +kernel
theorem dX12_load_144 : decode cX12_load 144 = .ok (.aload_n 0, 1) := by decide +kernel
theorem dX12_load_145 : decode cX12_load 145 = .ok (.getfield 133, 3) := by decide +kernel
theorem dX12_load_148 : decode cX12_load 148 = .ok (.iload 4, 2) := by decide +kernel
theorem dX12_load_150 : decode cX12_load 150 = .ok (.iastore, 1) := by decide +kernel
theorem dX12_load_151 : decode cX12_load 151 = .ok (.aload_n 0, 1) := by decide +kernel
theorem dX12_load_152 : decode cX12_load 152 = .ok (.dup, 1) := by decide +kernel
theorem dX12_load_153 : decode cX12_load 153 = .ok (.getfield 133, 3) := by decide +kernel
theorem dX12_load_156 : decode cX12_load 156 = .ok (.iconst 1, 1) := by decide +kernel
theorem dX12_load_157 : decode cX12_load 157 = .ok (.iadd, 1) := by decide +kernel
theorem dX12_load_158 : decode cX12_load 158 = .ok (.putfield 133, 3) := by decide +kernel
theorem dX12_load_161 : decode cX12_load 161 = .ok (.iload_n 2, 1) := by decide +kernel
theorem dX12_load_162 : decode cX12_load 162 = .ok (.iload 4, 2) := by decide +kernel
theorem dX12_load_164 : decode cX12_load 164 = .ok (.iadd, 1) := by decide +kernel
theorem dX12_load_165 : decode cX12_load 165 = .ok (.istore_n 2, 1) := by decide +kernel
theorem dX12_load_166 : decode cX12_load 166 = .ok (.aload_n 0, 1) := by decide +kernel
theorem dX12_load_167 : decode cX12_load 167 = .ok (.invokevirtual 113, 3) := by decide +kernel
theorem dX12_load_170 : decode cX12_load 170 = .ok (.ifCond .eq 10, 3) := by decide +kernel
theorem dX12_load_173 : decode cX12_load 173 = .ok (.aload_n 0, 1) := by decide +kernel
theorem dX12_load_174 : decode cX12_load 174 = .ok (.getfield 107, 3) := by decide +kernel
theorem dX12_load_177 : decode cX12_load 177 = .ok (.ifCond .ne (-146), 3) := by decide +kernel
theorem dX12_load_180 : decode cX12_load 180 = .ok (.aload_n 0, 1) := by decide +kernel
theorem dX12_load_181 : decode cX12_load 181 = .ok (.iconst 0, 1) := by decide +kernel
theorem dX12_load_182 : decode cX12_load 182 = .ok (.putfield 91, 3) := by decide +kernel
theorem dX12_load_185 : decode cX12_load 185 = .ok (.aload_n 0, 1) := by decide +kernel
theorem dX12_load_186 : decode cX12_load 186 = .ok (.invokevirtual 113, 3) := by decide +kernel
theorem dX12_load_189 : decode cX12_load 189 = .ok (.ifCond .ne 11, 3) := by decide +kernel
theorem dX12_load_192 : decode cX12_load 192 = .ok (.ldc 142, 2) := by decide +kernel
theorem dX12_load_194 : decode cX12_load 194 = .ok (.aload_n 0, 1) := by decide +kernel
theorem dX12_load_195 : decode cX12_load 195 = .ok (.getfield 110, 3) := by decide +kernel
theorem dX12_load_198 : decode cX12_load 198 = .ok (.isub, 1) := by decide +kernel
theorem dX12_load_199 : decode cX12_load 199 = .ok (.ireturn, 1) := by decide +kernel
theorem dX12_load_200 : decode cX12_load 200 = .ok (.aload_n 0, 1) := by decide +kernel
theorem dX12_load_201 : decode cX12_load 201 = .ok (.invokevirtual 143, 3) := by decide +kernel
theorem dX12_load_204 : decode cX12_load 204 = .ok (.aload_n 0, 1) := by decide +kernel
theorem dX12_load_205 : decode cX12_load 205 = .ok (.iload_n 1, 1) := by decide +kernel
theorem dX12_load_206 : decode cX12_load 206 = .ok (.iconst 0, 1) := by decide +kernel
theorem dX12_load_207 : decode cX12_load 207 = .ok (.invokevirtual 146, 3) := by decide +kernel
theorem dX12_load_210 : decode cX12_load 210 = .ok (.aload_n 0, 1) := by decide +kernel
theorem dX12_load_211 : decode cX12_load 211 = .ok (.aload_n 0, 1) := by decide +kernel
theorem dX12_load_212 : decode cX12_load 212 = .ok (.getfield 133, 3) := by decide +kernel
theorem dX12_load_215 : decode cX12_load 215 = .ok (.putfield 150, 3) := by decide +kernel
theorem dX12_load_218 : decode cX12_load 218 = .ok (.iconst 0, 1) := by decide +kernel
theorem dX12_load_219 : decode cX12_load 219 = .ok (.istore_n 3, 1) := by decide +kernel
theorem dX12_load_220 : decode cX12_load 220 = .ok (.iload_n 3, 1) := by decide +kernel
theorem dX12_load_221 : decode cX12_load 221 = .ok (.aload_n 0, 1) := by decide +kernel
theorem dX12_load_222 : decode cX12_load 222 = .ok (.getfield 150, 3) := by decide +kernel
theorem dX12_load_225 : decode cX12_load 225 = .ok (.if_icmp .ge 69, 3) := by decide +kernel
theorem dX12_load_228 : decode cX12_load 228 = .ok (.aload_n 0, 1) := by decide +kernel
theorem dX12_load_229 : decode cX12_load 229 = .ok (.getfield 41, 3) := by decide +kernel
theorem dX12_load_232 : decode cX12_load 232 = .ok (.iload_n 3, 1) := by decide +kernel
theorem dX12_load_233 : decode cX12_load 233 = .ok (.aload_n 0, 1) := by decide +kernel
theorem dX12_load_234 : decode cX12_load 234 = .ok (.getfield 47, 3) := by decide +kernel
theorem dX12_load_237 : decode cX12_load 237 = .ok (.iload_n 3, 1) := by decide +kernel
theorem dX12_load_238 : decode cX12_load 238 = .ok (.iaload, 1) := by decide +kernel
theorem dX12_load_239 : decode cX12_load 239 = .ok (.iastore, 1) := by decide +kernel
theorem dX12_load_240 : decode cX12_load 240 = .ok (.aload_n 0, 1) := by decide +kernel
theorem dX12_load_241 : decode cX12_load 241 = .ok (.getfield 44, 3) := by decide +kernel
theorem dX12_load_244 : decode cX12_load 244 = .ok (.iload_n 3, 1) := by decide +kernel
theorem dX12_load_245 : decode cX12_load 245 = .ok (.aload_n 0, 1) := by decide +kernel
theorem dX12_load_246 : decode cX12_load 246 = .ok (.getfield 50, 3) := by decide +kernel
theorem dX12_load_249 : decode cX12_load 249 = .ok (.iload_n 3, 1) := by decide +kernel
theorem dX12_load_250 : decode cX12_load 250 = .ok (.iaload, 1) := by decide +kernel
theorem dX12_load_251 : decode cX12_load 251 = .ok (.iastore, 1) := by decide +kernel
theorem dX12_load_252 : decode cX12_load 252 = .ok (.iconst 0, 1) := by decide +kernel
theorem dX12_load_253 : decode cX12_load 253 = .ok (.istore 4, 2) := by decide +kernel
theorem dX12_load_255 : decode cX12_load 255 = .ok (.iload 4, 2) := by decide +kernel
theorem dX12_load_257 : decode cX12_load 257 = .ok (.aload_n 0, 1) := by decide +kernel
theorem dX12_load_258 : decode cX12_load 258 = .ok (.getfield 44, 3) := by decide +kernel
theorem dX12_load_261 : decode cX12_load 261 = .ok (.iload_n 3, 1) := by decide +kernel
theorem dX12_load_262 : decode cX12_load 262 = .ok (.iaload, 1) := by decide +kernel
theorem dX12_load_263 : decode cX12_load 263 = .ok (.if_icmp .ge 25, 3) := by decide +kernel
theorem dX12_load_266 : decode cX12_load 266 = .ok (.aload_n 0, 1) := by decide +kernel
theorem dX12_load_267 : decode cX12_load 267 = .ok (.iload_n 1, 1) := by decide +kernel
theorem dX12_load_268 : decode cX12_load 268 = .ok (.aload_n 0, 1) := by decide +kernel
theorem dX12_load_269 : decode cX12_load 269 = .ok (.getfield 41, 3) := by decide +kernel
theorem dX12_load_272 : decode cX12_load 272 = .ok (.iload_n 3, 1) := by decide +kernel
theorem dX12_load_273 : decode cX12_load 273 = .ok (.iaload, 1) := by decide +kernel
theorem dX12_load_274 : decode cX12_load 274 = .ok (.iload 4, 2) := by decide +kernel
theorem dX12_load_276 : decode cX12_load 276 = .ok (.invokestatic 153, 3) := by decide +kernel
theorem dX12_load_279 : decode cX12_load 279 = .ok (.invokevirtual 156, 3) := by decide +kernel
theorem dX12_load_282 : decode cX12_load 282 = .ok (.iinc 4 1, 3) := by decide +kernel
theorem dX12_load_285 : decode cX12_load 285 = .ok (.goto (-30), 3) := by decide +kernel
theorem dX12_load_288 : decode cX12_load 288 = .ok (.iinc 3 1, 3) := by decide +kernel
theorem dX12_load_291 : decode cX12_load 291 = .ok (.goto (-71), 3) := by decide +kernel
theorem dX12_load_294 : decode cX12_load 294 = .ok (.iload_n 2, 1) := by decide +kernel
theorem dX12_load_295 : decode cX12_load 295 = .ok (.ireturn, 1) := by decide +kernel
set_option maxRecDepth 20000 in
set_option maxHeartbeats 4000000 in
theorem L_X12_load_31 (K : xK) (L : xL) : ∀ (n : Nat) (a0 : Nat) (a1 : Int32) (a2 : Int32) (h : xH), Sim K L cX12_load RX12 "load" 5 5 (fun q : Int32 × xH => q.2) (fun q pc' ls' st' h' => pc' = 180 ∧ ls' = [(0, .ref a0), (1, .int a1), (2, .int q.1)] ∧ st' = [] ∧ h' = q.2) 31 [(0, .ref a0), (1, .int a1), (2, .int a2)] [] h (f_X12_load_L31 n a0 a1 a2 h) := by
  intro n
  induction n with
  | zero =>
    intro a0 a1 a2 h
    exact Sim.none
  | succ n ih =>
    intro a0 a1 a2 h
    unfold f_X12_load_L31
    refine S_aload_n (pc := 31) 0 rfl dX12_load_31 rfl ?_
    refine S_getI (pc := 32) fd_X12_token wd_819 dX12_load_32 (fun v6 => ?_)
    refine S_iconst (pc := 35) dX12_load_35 ic_1 ?_
    refine Sim.bindS (hs := fun q9 : Int32 × xH => q9.2) (px := 50) (lsx := fun q9 => [(0, .ref a0), (1, .int a1), (2, .int a2)]) (stx := fun q9 => [.int q9.1]) ?_ (fun q9 => ?_)
    · refine S_icmp_ne (pc := 36) (tgt := 49) dX12_load_36 (by decide) ?_ ?_
      · refine S_aload_n (pc := 39) 0 rfl dX12_load_39 rfl ?_
        refine S_getI (pc := 40) fd_X12_value wd_820 dX12_load_40 (fun v7 => ?_)
        refine S_call_i (pc := 43) (rest := []) (fun q hq => R_S (av := [.int v7]) (M_X12_kindOf _ v7 h hq) wd_958 wd_956 wd_957 wd_50 hd_X12_kindOf ⟨Nat.le_of_ble_eq_true rfl, Nat.le_of_ble_eq_true rfl⟩ rfl (Nat.le_of_ble_eq_true rfl) dX12_load_43) (fun _ h => absurd h List.not_mem_nil) (fun q8 => ?_)
        refine S_goto (pc := 46) (tgt := 50) dX12_load_46 (by decide) ?_
        refine S_sub [0, 1, 2] rfl ?_
        exact Sim.fin ⟨rfl, rfl, rfl, rfl⟩ rfl
      · refine S_iconst (pc := 49) dX12_load_49 ic_0 ?_
        refine S_sub [0, 1, 2] rfl ?_
        exact Sim.fin ⟨rfl, rfl, rfl, rfl⟩ rfl
    · refine S_istore_n (pc := 50) dX12_load_50 rfl (Nat.le_of_ble_eq_true rfl) rfl ?_
      refine S_aload_n (pc := 51) 1 rfl dX12_load_51 rfl ?_
      refine S_iload_n (pc := 52) 0 rfl dX12_load_52 rfl ?_
      refine Sim.cut (pc' := 61) (st' := [.int (if q9.1 ≤ 0 then (0 : Int32) else (1 : Int32)), .ref a0]) ?_ (fun kc => ?_)
      · refine S_iconst (pc := 61) dX12_load_61 ic_1 ?_
        refine S_call_i (pc := 62) (rest := []) (fun q hq => (x_if hq).elim (fun z => R_V (av := [.int (if q9.1 ≤ 0 then (0 : Int32) else (1 : Int32)), .int (1 : Int32)]) (q := (RX12, TX12, 28)) (M_X12_takes _ a0 (if q9.1 ≤ 0 then (0 : Int32) else (1 : Int32)) (1 : Int32) q9.2 z.2) z.1 rfl wd_962 wd_959 wd_961 wd_50 wd_20 ⟨rfl, hd_X12_takes⟩ ⟨Nat.le_of_ble_eq_true rfl, Nat.le_of_ble_eq_true rfl⟩ rfl (Nat.le_of_ble_eq_true rfl) dX12_load_62) (fun hq => (by cases hq))) (fun _ h => absurd h List.not_mem_nil) (fun q11 => ?_)
        refine S_pop (pc := 65) rfl dX12_load_65 ?_
        refine S_aload_n (pc := 66) 1 rfl dX12_load_66 rfl ?_
        refine S_call_i (pc := 67) (rest := []) (fun q hq => (x_if hq).elim (fun z => R_V (av := []) (q := (RX12, TX12, 28)) (M_X12_isWell _ a0 q11.2 z.2) z.1 rfl wd_966 wd_963 wd_965 wd_50 wd_21 ⟨rfl, hd_X12_isWell⟩ ⟨Nat.le_of_ble_eq_true rfl, Nat.le_of_ble_eq_true rfl⟩ rfl (Nat.le_of_ble_eq_true rfl) dX12_load_67) (fun hq => (by cases hq))) (fun _ h => absurd h List.not_mem_nil) (fun q12 => ?_)
        refine Sim.bindS (hs := fun q17 : xH => q17) (px := 97) (lsx := fun q17 => [(0, .ref a0), (1, .int a1), (2, .int a2), (3, .int q9.1)]) (stx := fun q17 => []) ?_ (fun q17 => ?_)
        · refine S_if_eq (pc := 70) (tgt := 97) dX12_load_70 (by decide) ?_ ?_
          · refine S_sub [1, 2, 3, 0] rfl ?_
            exact Sim.fin ⟨rfl, rfl, rfl, rfl⟩ rfl
          · refine S_aload_n (pc := 73) 1 rfl dX12_load_73 rfl ?_
            refine S_getI (pc := 74) fd_X12_some wd_830 dX12_load_74 (fun v13 => ?_)
            refine S_bipush (pc := 77) dX12_load_77 bi_12 ?_
            refine S_icmp_ne (pc := 79) (tgt := 97) dX12_load_79 (by decide) ?_ ?_
            · refine S_aload_n (pc := 82) 1 rfl dX12_load_82 rfl ?_
              refine S_aload_n (pc := 83) 1 rfl dX12_load_83 rfl ?_
              refine S_getI (pc := 84) fd_X12_start wd_818 dX12_load_84 (fun v14 => ?_)
              refine S_iconst (pc := 87) dX12_load_87 ic_1 ?_
              refine S_isub (pc := 88) dX12_load_88 ?_
              refine S_putI (pc := 89) fd_X12_faultPlace wd_816 rfl rfl dX12_load_89 (fun h15 => ?_)
              refine S_aload_n (pc := 92) 1 rfl dX12_load_92 rfl ?_
              refine S_iconst (pc := 93) dX12_load_93 ic_3 ?_
              refine S_putI (pc := 94) fd_X12_faultKind wd_815 rfl rfl dX12_load_94 (fun h16 => ?_)
              refine S_sub [1, 2, 3, 0] rfl ?_
              exact Sim.fin ⟨rfl, rfl, rfl, rfl⟩ rfl
            · refine S_sub [1, 2, 3, 0] rfl ?_
              exact Sim.fin ⟨rfl, rfl, rfl, rfl⟩ rfl
        · refine S_aload_n (pc := 97) 0 rfl dX12_load_97 rfl ?_
          refine S_iload_n (pc := 98) 2 rfl dX12_load_98 rfl ?_
          refine S_call_i (pc := 99) (rest := []) (fun q hq => (x_if hq).elim (fun z => R_V (av := [.int a2]) (q := (RX12, TX12, 28)) (M_X12_longer _ a0 a2 q17 z.2) z.1 rfl wd_970 wd_967 wd_969 wd_50 wd_22 ⟨rfl, hd_X12_longer⟩ ⟨Nat.le_of_ble_eq_true rfl, Nat.le_of_ble_eq_true rfl⟩ rfl (Nat.le_of_ble_eq_true rfl) dX12_load_99) (fun hq => (by cases hq))) (fun _ h => absurd h List.not_mem_nil) (fun q18 => ?_)
          refine S_istore (pc := 102) dX12_load_102 (Nat.le_of_ble_eq_true rfl) rfl ?_
          refine S_aload_n (pc := 104) 1 rfl dX12_load_104 rfl ?_
          refine S_aload_n (pc := 105) 1 rfl dX12_load_105 rfl ?_
          refine S_getI (pc := 106) fd_X12_token wd_819 dX12_load_106 (fun v19 => ?_)
          refine S_iconst (pc := 109) dX12_load_109 ic_4 ?_
          refine Sim.cut (pc' := 118) (st' := [.int (if v19 = (4 : Int32) then (1 : Int32) else (0 : Int32)), .ref a0]) ?_ (fun kc => ?_)
          · refine S_iconst (pc := 118) dX12_load_118 ic_1 ?_
            refine S_call_i (pc := 119) (rest := []) (fun q hq => (x_if hq).elim (fun z => R_V (av := [.int (if v19 = (4 : Int32) then (1 : Int32) else (0 : Int32)), .int (1 : Int32)]) (q := (RX12, TX12, 28)) (M_X12_takes _ a0 (if v19 = (4 : Int32) then (1 : Int32) else (0 : Int32)) (1 : Int32) q18.2 z.2) z.1 rfl wd_962 wd_959 wd_961 wd_50 wd_20 ⟨rfl, hd_X12_takes⟩ ⟨Nat.le_of_ble_eq_true rfl, Nat.le_of_ble_eq_true rfl⟩ rfl (Nat.le_of_ble_eq_true rfl) dX12_load_119) (fun hq => (by cases hq))) (fun _ h => absurd h List.not_mem_nil) (fun q21 => ?_)
            refine S_pop (pc := 122) rfl dX12_load_122 ?_
            refine S_aload_n (pc := 123) 1 rfl dX12_load_123 rfl ?_
            refine S_call_i (pc := 124) (rest := []) (fun q hq => (x_if hq).elim (fun z => R_V (av := []) (q := (RX12, TX12, 28)) (M_X12_isWell _ a0 q21.2 z.2) z.1 rfl wd_966 wd_963 wd_965 wd_50 wd_21 ⟨rfl, hd_X12_isWell⟩ ⟨Nat.le_of_ble_eq_true rfl, Nat.le_of_ble_eq_true rfl⟩ rfl (Nat.le_of_ble_eq_true rfl) dX12_load_124) (fun hq => (by cases hq))) (fun _ h => absurd h List.not_mem_nil) (fun q22 => ?_)
            refine S_if_eq (pc := 127) (tgt := 166) dX12_load_127 (by decide) ?_ ?_
            · refine S_aload_n (pc := 166) 1 rfl dX12_load_166 rfl ?_
              refine S_call_i (pc := 167) (rest := []) (fun q hq => (x_if hq).elim (fun z => R_V (av := []) (q := (RX12, TX12, 28)) (M_X12_isWell _ a0 q22.2 z.2) z.1 rfl wd_966 wd_963 wd_965 wd_50 wd_21 ⟨rfl, hd_X12_isWell⟩ ⟨Nat.le_of_ble_eq_true rfl, Nat.le_of_ble_eq_true rfl⟩ rfl (Nat.le_of_ble_eq_true rfl) dX12_load_167) (fun hq => (by cases hq))) (fun _ h => absurd h List.not_mem_nil) (fun q23 => ?_)
              refine S_if_eq (pc := 170) (tgt := 180) dX12_load_170 (by decide) ?_ ?_
              · refine S_sub [1, 2, 3] rfl ?_
                exact Sim.fin ⟨rfl, rfl, rfl, rfl⟩ rfl
              · refine S_aload_n (pc := 173) 1 rfl dX12_load_173 rfl ?_
                refine S_getI (pc := 174) fd_X12_token wd_819 dX12_load_174 (fun v24 => ?_)
                refine S_if_ne (pc := 177) (tgt := 31) dX12_load_177 (by decide) ?_ ?_
                · refine S_sub [1, 2, 3] rfl ?_
                  exact Sim.fin ⟨rfl, rfl, rfl, rfl⟩ rfl
                · refine S_sub [1, 2, 3] rfl ?_
                  exact ih a0 a1 a2 q23.2
            · refine S_aload_n (pc := 130) 1 rfl dX12_load_130 rfl ?_
              refine S_getR (pc := 131) fd_X12_someKinds wd_831 dX12_load_131 (fun v25 => ?_)
              refine S_aload_n (pc := 134) 1 rfl dX12_load_134 rfl ?_
              refine S_getI (pc := 135) fd_X12_some wd_830 dX12_load_135 (fun v26 => ?_)
              refine S_iload_n (pc := 138) 4 rfl dX12_load_138 rfl ?_
              refine S_uI (pc := 139) dX12_load_139 (fun h27 => ?_)
              refine S_aload_n (pc := 140) 1 rfl dX12_load_140 rfl ?_
              refine S_getR (pc := 141) fd_X12_someLength wd_832 dX12_load_141 (fun v28 => ?_)
              refine S_aload_n (pc := 144) 1 rfl dX12_load_144 rfl ?_
              refine S_getI (pc := 145) fd_X12_some wd_830 dX12_load_145 (fun v29 => ?_)
              refine S_iload (pc := 148) 0 rfl dX12_load_148 ?_
              refine S_uI (pc := 150) dX12_load_150 (fun h30 => ?_)
              refine S_aload_n (pc := 151) 1 rfl dX12_load_151 rfl ?_
              refine S_dup (pc := 152) rfl dX12_load_152 ?_
              refine S_getI (pc := 153) fd_X12_some wd_830 dX12_load_153 (fun v31 => ?_)
              refine S_iconst (pc := 156) dX12_load_156 ic_1 ?_
              refine S_iadd (pc := 157) dX12_load_157 ?_
              refine S_putI (pc := 158) fd_X12_some wd_830 rfl rfl dX12_load_158 (fun h32 => ?_)
              refine S_iload_n (pc := 161) 3 rfl dX12_load_161 rfl ?_
              refine S_iload (pc := 162) 0 rfl dX12_load_162 ?_
              refine S_iadd (pc := 164) dX12_load_164 ?_
              refine S_istore_n (pc := 165) dX12_load_165 rfl (Nat.le_of_ble_eq_true rfl) rfl ?_
              refine S_aload_n (pc := 166) 2 rfl dX12_load_166 rfl ?_
              refine S_call_i (pc := 167) (rest := []) (fun q hq => (x_if hq).elim (fun z => R_V (av := []) (q := (RX12, TX12, 28)) (M_X12_isWell _ a0 h32 z.2) z.1 rfl wd_966 wd_963 wd_965 wd_50 wd_21 ⟨rfl, hd_X12_isWell⟩ ⟨Nat.le_of_ble_eq_true rfl, Nat.le_of_ble_eq_true rfl⟩ rfl (Nat.le_of_ble_eq_true rfl) dX12_load_167) (fun hq => (by cases hq))) (fun _ h => absurd h List.not_mem_nil) (fun q33 => ?_)
              refine S_if_eq (pc := 170) (tgt := 180) dX12_load_170 (by decide) ?_ ?_
              · refine S_sub [2, 3, 0] rfl ?_
                exact Sim.fin ⟨rfl, rfl, rfl, rfl⟩ rfl
              · refine S_aload_n (pc := 173) 2 rfl dX12_load_173 rfl ?_
                refine S_getI (pc := 174) fd_X12_token wd_819 dX12_load_174 (fun v34 => ?_)
                refine S_if_ne (pc := 177) (tgt := 31) dX12_load_177 (by decide) ?_ ?_
                · refine S_sub [2, 3, 0] rfl ?_
                  exact Sim.fin ⟨rfl, rfl, rfl, rfl⟩ rfl
                · refine S_sub [2, 3, 0] rfl ?_
                  exact ih a0 a1 (a2 + q18.1) q33.2
          · refine D_icmp_ne (pc := 110) (tgt := 117) dX12_load_110 (by decide) (fun c20 => ?_) (fun c20 => ?_)
            · refine S_iconst (pc := 113) dX12_load_113 ic_1 ?_
              refine S_goto (pc := 114) (tgt := 118) dX12_load_114 (by decide) ?_
              exact x_st (by rw [if_pos c20]) kc
            · refine S_iconst (pc := 117) dX12_load_117 ic_0 ?_
              exact x_st (by rw [if_neg c20]) kc
      · refine D_if_le (pc := 53) (tgt := 60) dX12_load_53 (by decide) (fun c10 => ?_) (fun c10 => ?_)
        · refine S_iconst (pc := 60) dX12_load_60 ic_0 ?_
          exact x_st (by rw [if_pos c10]) kc
        · refine S_iconst (pc := 56) dX12_load_56 ic_1 ?_
          refine S_goto (pc := 57) (tgt := 61) dX12_load_57 (by decide) ?_
          exact x_st (by rw [if_neg c10]) kc
set_option maxRecDepth 20000 in
set_option maxHeartbeats 4000000 in
theorem L_X12_load_255 (K : xK) (L : xL) : ∀ (n : Nat) (a0 : Nat) (a1 : Int32) (a2 : Int32) (a3 : Int32) (a4 : Int32) (h : xH), Sim K L cX12_load RX12 "load" 5 5 (fun q : Int32 × xH => q.2) (fun q pc' ls' st' h' => pc' = 288 ∧ ls' = [(0, .ref a0), (1, .int a1), (2, .int a2), (3, .int a3), (4, .int q.1)] ∧ st' = [] ∧ h' = q.2) 255 [(0, .ref a0), (1, .int a1), (2, .int a2), (3, .int a3), (4, .int a4)] [] h (f_X12_load_L255 n a0 a1 a2 a3 a4 h) := by
  intro n
  induction n with
  | zero =>
    intro a0 a1 a2 a3 a4 h
    exact Sim.none
  | succ n ih =>
    intro a0 a1 a2 a3 a4 h
    unfold f_X12_load_L255
    refine S_iload (pc := 255) 4 rfl dX12_load_255 ?_
    refine S_aload_n (pc := 257) 0 rfl dX12_load_257 rfl ?_
    refine S_getR (pc := 258) fd_X12_length wd_829 dX12_load_258 (fun v52 => ?_)
    refine S_iload_n (pc := 261) 3 rfl dX12_load_261 rfl ?_
    refine S_aI (pc := 262) dX12_load_262 (fun v53 => ?_)
    refine S_icmp_ge (pc := 263) (tgt := 288) dX12_load_263 (by decide) ?_ ?_
    · refine S_sub [0, 1, 2, 3, 4] rfl ?_
      exact Sim.fin ⟨rfl, rfl, rfl, rfl⟩ rfl
    · refine S_aload_n (pc := 266) 0 rfl dX12_load_266 rfl ?_
      refine S_iload_n (pc := 267) 1 rfl dX12_load_267 rfl ?_
      refine S_aload_n (pc := 268) 0 rfl dX12_load_268 rfl ?_
      refine S_getR (pc := 269) fd_X12_kinds wd_828 dX12_load_269 (fun v54 => ?_)
      refine S_iload_n (pc := 272) 3 rfl dX12_load_272 rfl ?_
      refine S_aI (pc := 273) dX12_load_273 (fun v55 => ?_)
      refine S_iload (pc := 274) 4 rfl dX12_load_274 ?_
      refine S_call_i (pc := 276) (rest := [.int a1, .ref a0]) (fun q hq => R_S (av := [.int v55, .int a4]) (M_X12_bitOf _ v55 a4 h hq) wd_989 wd_987 wd_988 wd_50 hd_X12_bitOf ⟨Nat.le_of_ble_eq_true rfl, Nat.le_of_ble_eq_true rfl⟩ rfl (Nat.le_of_ble_eq_true rfl) dX12_load_276) (fun _ h => List.mem_cons_of_mem _ (List.mem_cons_of_mem _ (h))) (fun q56 => ?_)
      refine S_call_v (pc := 279) (rest := []) (fun q hq => (x_if hq).elim (fun z => R_V (av := [.int a1, .int q56.1]) (q := (RX12, TX12, 28)) (M_X12_appends _ a0 a1 q56.1 q56.2 z.2) z.1 rfl wd_993 wd_990 wd_992 wd_50 wd_26 ⟨rfl, hd_X12_appends⟩ ⟨Nat.le_of_ble_eq_true rfl, Nat.le_of_ble_eq_true rfl⟩ rfl (Nat.le_of_ble_eq_true rfl) dX12_load_279) (fun hq => (by cases hq))) (fun _ h => absurd h List.not_mem_nil) (fun q57 => ?_)
      refine S_iinc (pc := 282) (v := a4 + (1 : Int32)) 4 rfl dX12_load_282 (x_inc ic_1) (Nat.le_of_ble_eq_true rfl) rfl ?_
      refine S_goto (pc := 285) (tgt := 255) dX12_load_285 (by decide) ?_
      refine S_sub [1, 2, 3, 4, 0] rfl ?_
      exact ih a0 a1 a2 a3 (a4 + (1 : Int32)) q57
set_option maxRecDepth 20000 in
set_option maxHeartbeats 4000000 in
theorem L_X12_load_220 (K : xK) (L : xL) : ∀ (n : Nat) (a0 : Nat) (a1 : Int32) (a2 : Int32) (a3 : Int32) (h : xH), Sim K L cX12_load RX12 "load" 5 5 (fun q : Int32 × xH => q.2) (fun q pc' ls' st' h' => pc' = 294 ∧ ls' = [(0, .ref a0), (1, .int a1), (2, .int a2), (3, .int q.1)] ∧ st' = [] ∧ h' = q.2) 220 [(0, .ref a0), (1, .int a1), (2, .int a2), (3, .int a3)] [] h (f_X12_load_L220 n a0 a1 a2 a3 h) := by
  intro n
  induction n with
  | zero =>
    intro a0 a1 a2 a3 h
    exact Sim.none
  | succ n ih =>
    intro a0 a1 a2 a3 h
    unfold f_X12_load_L220
    refine S_iload_n (pc := 220) 3 rfl dX12_load_220 rfl ?_
    refine S_aload_n (pc := 221) 0 rfl dX12_load_221 rfl ?_
    refine S_getI (pc := 222) fd_X12_runs wd_827 dX12_load_222 (fun v43 => ?_)
    refine S_icmp_ge (pc := 225) (tgt := 294) dX12_load_225 (by decide) ?_ ?_
    · refine S_sub [0, 1, 2, 3] rfl ?_
      exact Sim.fin ⟨rfl, rfl, rfl, rfl⟩ rfl
    · refine S_aload_n (pc := 228) 0 rfl dX12_load_228 rfl ?_
      refine S_getR (pc := 229) fd_X12_kinds wd_828 dX12_load_229 (fun v44 => ?_)
      refine S_iload_n (pc := 232) 3 rfl dX12_load_232 rfl ?_
      refine S_aload_n (pc := 233) 0 rfl dX12_load_233 rfl ?_
      refine S_getR (pc := 234) fd_X12_someKinds wd_831 dX12_load_234 (fun v45 => ?_)
      refine S_iload_n (pc := 237) 3 rfl dX12_load_237 rfl ?_
      refine S_aI (pc := 238) dX12_load_238 (fun v46 => ?_)
      refine S_uI (pc := 239) dX12_load_239 (fun h47 => ?_)
      refine S_aload_n (pc := 240) 0 rfl dX12_load_240 rfl ?_
      refine S_getR (pc := 241) fd_X12_length wd_829 dX12_load_241 (fun v48 => ?_)
      refine S_iload_n (pc := 244) 3 rfl dX12_load_244 rfl ?_
      refine S_aload_n (pc := 245) 0 rfl dX12_load_245 rfl ?_
      refine S_getR (pc := 246) fd_X12_someLength wd_832 dX12_load_246 (fun v49 => ?_)
      refine S_iload_n (pc := 249) 3 rfl dX12_load_249 rfl ?_
      refine S_aI (pc := 250) dX12_load_250 (fun v50 => ?_)
      refine S_uI (pc := 251) dX12_load_251 (fun h51 => ?_)
      refine S_iconst (pc := 252) dX12_load_252 ic_0 ?_
      refine S_istore (pc := 253) dX12_load_253 (Nat.le_of_ble_eq_true rfl) rfl ?_
      refine S_sub [1, 2, 3, 4, 0] rfl ?_
      refine Sim.bind (hs := fun q58 : Int32 × xH => q58.2) (px := 288) (lsx := fun q58 => [(0, .ref a0), (1, .int a1), (2, .int a2), (3, .int a3), (4, .int q58.1)]) (L_X12_load_255 K L xN a0 a1 a2 a3 (0 : Int32) h51) (fun q58 => ?_)
      refine S_iinc (pc := 288) (v := a3 + (1 : Int32)) 3 rfl dX12_load_288 (x_inc ic_1) (Nat.le_of_ble_eq_true rfl) rfl ?_
      refine S_goto (pc := 291) (tgt := 220) dX12_load_291 (by decide) ?_
      refine S_sub [1, 2, 3, 0] rfl ?_
      exact ih a0 a1 a2 (a3 + (1 : Int32)) q58.2
set_option maxRecDepth 20000 in
set_option maxHeartbeats 4000000 in
theorem W_X12_load (K : xK) (L : xL) (a0 : Nat) (a1 : Int32) (h : xH) : Sim K L cX12_load RX12 "load" 5 5 (fun q : Int32 × xH => q.2) (xRi cX12_load) 0 [(0, .ref a0), (1, .int a1)] [] h (f_X12_load a0 a1 h) := by
  unfold f_X12_load
  refine S_iload_n (pc := 0) 1 rfl dX12_load_0 rfl ?_
  refine S_call_i (pc := 1) (rest := []) (fun q hq => R_S (av := [.int a1]) (M_X12_isVector _ a1 h hq) wd_947 wd_945 wd_946 wd_50 hd_X12_isVector ⟨Nat.le_of_ble_eq_true rfl, Nat.le_of_ble_eq_true rfl⟩ rfl (Nat.le_of_ble_eq_true rfl) dX12_load_1) (fun _ h => absurd h List.not_mem_nil) (fun q1 => ?_)
  refine S_if_ne (pc := 4) (tgt := 10) dX12_load_4 (by decide) ?_ ?_
  · refine S_ldc (pc := 7) wd_903 dX12_load_7 ?_
    exact Sim.fin ⟨dX12_load_9, rfl, rfl⟩ rfl
  · refine S_aload_n (pc := 10) 0 rfl dX12_load_10 rfl ?_
    refine S_iconst (pc := 11) dX12_load_11 ic_0 ?_
    refine S_putI (pc := 12) fd_X12_at wd_817 rfl rfl dX12_load_12 (fun h2 => ?_)
    refine S_aload_n (pc := 15) 0 rfl dX12_load_15 rfl ?_
    refine S_iconst (pc := 16) dX12_load_16 ic_m1 ?_
    refine S_putI (pc := 17) fd_X12_faultPlace wd_816 rfl rfl dX12_load_17 (fun h3 => ?_)
    refine S_aload_n (pc := 20) 0 rfl dX12_load_20 rfl ?_
    refine S_iconst (pc := 21) dX12_load_21 ic_0 ?_
    refine S_putI (pc := 22) fd_X12_some wd_830 rfl rfl dX12_load_22 (fun h4 => ?_)
    refine S_iconst (pc := 25) dX12_load_25 ic_0 ?_
    refine S_istore_n (pc := 26) dX12_load_26 rfl (Nat.le_of_ble_eq_true rfl) rfl ?_
    refine S_aload_n (pc := 27) 1 rfl dX12_load_27 rfl ?_
    refine S_call_v (pc := 28) (rest := []) (fun q hq => (x_if hq).elim (fun z => R_V (av := []) (q := (RX12, TX12, 28)) (M_X12_advances _ a0 h4 z.2) z.1 rfl wd_951 wd_948 wd_950 wd_50 wd_18 ⟨rfl, hd_X12_advances⟩ ⟨Nat.le_of_ble_eq_true rfl, Nat.le_of_ble_eq_true rfl⟩ rfl (Nat.le_of_ble_eq_true rfl) dX12_load_28) (fun hq => (by cases hq))) (fun _ h => absurd h List.not_mem_nil) (fun q5 => ?_)
    refine S_sub [1, 2, 0] rfl ?_
    refine Sim.bind (hs := fun q35 : Int32 × xH => q35.2) (px := 180) (lsx := fun q35 => [(0, .ref a0), (1, .int a1), (2, .int q35.1)]) (L_X12_load_31 K L xN a0 a1 (0 : Int32) q5) (fun q35 => ?_)
    refine S_aload_n (pc := 180) 0 rfl dX12_load_180 rfl ?_
    refine S_iconst (pc := 181) dX12_load_181 ic_0 ?_
    refine S_putI (pc := 182) fd_X12_taped wd_814 rfl rfl dX12_load_182 (fun h36 => ?_)
    refine S_aload_n (pc := 185) 0 rfl dX12_load_185 rfl ?_
    refine S_call_i (pc := 186) (rest := []) (fun q hq => (x_if hq).elim (fun z => R_V (av := []) (q := (RX12, TX12, 28)) (M_X12_isWell _ a0 h36 z.2) z.1 rfl wd_966 wd_963 wd_965 wd_50 wd_21 ⟨rfl, hd_X12_isWell⟩ ⟨Nat.le_of_ble_eq_true rfl, Nat.le_of_ble_eq_true rfl⟩ rfl (Nat.le_of_ble_eq_true rfl) dX12_load_186) (fun hq => (by cases hq))) (fun _ h => absurd h List.not_mem_nil) (fun q37 => ?_)
    refine S_if_ne (pc := 189) (tgt := 200) dX12_load_189 (by decide) ?_ ?_
    · refine S_ldc (pc := 192) wd_975 dX12_load_192 ?_
      refine S_aload_n (pc := 194) 0 rfl dX12_load_194 rfl ?_
      refine S_getI (pc := 195) fd_X12_faultPlace wd_816 dX12_load_195 (fun v38 => ?_)
      refine S_isub (pc := 198) dX12_load_198 ?_
      exact Sim.fin ⟨dX12_load_199, rfl, rfl⟩ rfl
    · refine S_aload_n (pc := 200) 0 rfl dX12_load_200 rfl ?_
      refine S_call_v (pc := 201) (rest := []) (fun q hq => (x_if hq).elim (fun z => R_V (av := []) (q := (RX12, TX12, 28)) (M_X12_notes _ a0 q37.2 z.2) z.1 rfl wd_979 wd_976 wd_978 wd_50 wd_24 ⟨rfl, hd_X12_notes⟩ ⟨Nat.le_of_ble_eq_true rfl, Nat.le_of_ble_eq_true rfl⟩ rfl (Nat.le_of_ble_eq_true rfl) dX12_load_201) (fun hq => (by cases hq))) (fun _ h => absurd h List.not_mem_nil) (fun q39 => ?_)
      refine S_aload_n (pc := 204) 0 rfl dX12_load_204 rfl ?_
      refine S_iload_n (pc := 205) 1 rfl dX12_load_205 rfl ?_
      refine S_iconst (pc := 206) dX12_load_206 ic_0 ?_
      refine S_call_v (pc := 207) (rest := []) (fun q hq => (x_if hq).elim (fun z => R_V (av := [.int a1, .int (0 : Int32)]) (q := (RX12, TX12, 28)) (M_X12_empties _ a0 a1 (0 : Int32) q39 z.2) z.1 rfl wd_986 wd_983 wd_985 wd_50 wd_25 ⟨rfl, hd_X12_empties⟩ ⟨Nat.le_of_ble_eq_true rfl, Nat.le_of_ble_eq_true rfl⟩ rfl (Nat.le_of_ble_eq_true rfl) dX12_load_207) (fun hq => (by cases hq))) (fun _ h => absurd h List.not_mem_nil) (fun q40 => ?_)
      refine S_aload_n (pc := 210) 0 rfl dX12_load_210 rfl ?_
      refine S_aload_n (pc := 211) 0 rfl dX12_load_211 rfl ?_
      refine S_getI (pc := 212) fd_X12_some wd_830 dX12_load_212 (fun v41 => ?_)
      refine S_putI (pc := 215) fd_X12_runs wd_827 rfl rfl dX12_load_215 (fun h42 => ?_)
      refine S_iconst (pc := 218) dX12_load_218 ic_0 ?_
      refine S_istore_n (pc := 219) dX12_load_219 rfl (Nat.le_of_ble_eq_true rfl) rfl ?_
      refine S_sub [1, 2, 3, 0] rfl ?_
      refine Sim.bind (hs := fun q59 : Int32 × xH => q59.2) (px := 294) (lsx := fun q59 => [(0, .ref a0), (1, .int a1), (2, .int q35.1), (3, .int q59.1)]) (L_X12_load_220 K L xN a0 a1 q35.1 (0 : Int32) h42) (fun q59 => ?_)
      refine S_iload_n (pc := 294) 2 rfl dX12_load_294 rfl ?_
      exact Sim.fin ⟨dX12_load_295, rfl, rfl⟩ rfl
theorem M_X12_load (l : Launch) (a0 : Nat) (a1 : Int32) (h : xH) {q : Int32 × xH} (hq : f_X12_load a0 a1 h = some q) : xM l yX12_load cX12_load 5 (some .int) 5 [.ref a0, .int a1] h (some (.int q.1)) q.2 := xM_i (by decide +kernel) (Nat.le_of_ble_eq_true rfl) (fun K L => W_X12_load K L a0 a1 h) hq
theorem dX12_longest_0 : decode cX12_longest 0 = .ok (.iload_n 1, 1) := by decide +kernel
theorem dX12_longest_1 : decode cX12_longest 1 = .ok (.invokestatic 130, 3) := by decide +kernel
theorem dX12_longest_4 : decode cX12_longest 4 = .ok (.ifCond .eq 19, 3) := by decide +kernel
theorem dX12_longest_7 : decode cX12_longest 7 = .ok (.iload_n 2, 1) := by decide +kernel
theorem dX12_longest_8 : decode cX12_longest 8 = .ok (.invokestatic 184, 3) := by decide +kernel
theorem dX12_longest_11 : decode cX12_longest 11 = .ok (.ifCond .eq 12, 3) := by decide +kernel
theorem dX12_longest_14 : decode cX12_longest 14 = .ok (.iload_n 3, 1) := by decide +kernel
theorem dX12_longest_15 : decode cX12_longest 15 = .ok (.iconst 0, 1) := by decide +kernel
theorem dX12_longest_16 : decode cX12_longest 16 = .ok (.iconst 1, 1) := by decide +kernel
theorem dX12_longest_17 : decode cX12_longest 17 = .ok (.invokestatic 65, 3) := by decide +kernel
theorem dX12_longest_20 : decode cX12_longest 20 = .ok (.ifCond .ne 6, 3) := by decide +kernel
theorem dX12_longest_23 : decode cX12_longest 23 = .ok (.ldc 73, 2) := by decide +kernel
theorem dX12_longest_25 : decode cX12_longest 25 = .ok (.ireturn, 1) := by decide +kernel
theorem dX12_longest_26 : decode cX12_longest 26 = .ok (.iconst 0, 1) := by decide +kernel
theorem dX12_longest_27 : decode cX12_longest 27 = .ok (.istore 4, 2) := by decide +kernel
theorem dX12_longest_29 : decode cX12_longest 29 = .ok (.ldc 59, 2) := by decide +kernel
theorem dX12_longest_31 : decode cX12_longest 31 = .ok (.istore 5, 2) := by decide +kernel
theorem dX12_longest_33 : decode cX12_longest 33 = .ok (.iconst 0, 1) := by decide +kernel
theorem dX12_longest_34 : decode cX12_longest 34 = .ok (.istore 6, 2) := by decide +kernel
theorem dX12_longest_36 : decode cX12_longest 36 = .ok (.iconst 0, 1) := by decide +kernel
theorem dX12_longest_37 : decode cX12_longest 37 = .ok (.istore 7, 2) := by decide +kernel
theorem dX12_longest_39 : decode cX12_longest 39 = .ok (.iload 7, 2) := by decide +kernel
theorem dX12_longest_41 : decode cX12_longest 41 = .ok (.aload_n 0, 1) := by decide +kernel
theorem dX12_longest_42 : decode cX12_longest 42 = .ok (.iload_n 1, 1) := by decide +kernel
theorem dX12_longest_43 : decode cX12_longest 43 = .ok (.invokevirtual 167, 3) := by decide +kernel
theorem dX12_longest_46 : decode cX12_longest 46 = .ok (.if_icmp .ge 70, 3) := by decide +kernel
theorem dX12_longest_49 : decode cX12_longest 49 = .ok (.aload_n 0, 1) := by decide +kernel
theorem dX12_longest_50 : decode cX12_longest 50 = .ok (.getfield 25, 3) := by decide +kernel
theorem dX12_longest_53 : decode cX12_longest 53 = .ok (.iload_n 1, 1) := by decide +kernel
theorem dX12_longest_54 : decode cX12_longest 54 = .ok (.iload 7, 2) := by decide +kernel
theorem dX12_longest_56 : decode cX12_longest 56 = .ok (.invokestatic 163, 3) := by decide +kernel
theorem dX12_longest_59 : decode cX12_longest 59 = .ok (.iload_n 2, 1) := by decide +kernel
theorem dX12_longest_60 : decode cX12_longest 60 = .ok (.if_icmp .ne 10, 3) := by decide +kernel
theorem dX12_longest_63 : decode cX12_longest 63 = .ok (.iload 6, 2) := by decide +kernel
theorem dX12_longest_65 : decode cX12_longest 65 = .ok (.iconst 1, 1) := by decide +kernel
theorem dX12_longest_66 : decode cX12_longest 66 = .ok (.iadd, 1) := by decide +kernel
theorem dX12_longest_67 : decode cX12_longest 67 = .ok (.goto 4, 3) := by decide +kernel
theorem dX12_longest_70 : decode cX12_longest 70 = .ok (.iconst 0, 1) := by decide +kernel
theorem dX12_longest_71 : decode cX12_longest 71 = .ok (.istore 6, 2) := by decide +kernel
theorem dX12_longest_73 : decode cX12_longest 73 = .ok (.iload 6, 2) := by decide +kernel
theorem dX12_longest_75 : decode cX12_longest 75 = .ok (.iload 4, 2) := by decide +kernel
theorem dX12_longest_77 : decode cX12_longest 77 = .ok (.if_icmp .le 13, 3) := by decide +kernel
theorem dX12_longest_80 : decode cX12_longest 80 = .ok (.iload 7, 2) := by decide +kernel
theorem dX12_longest_82 : decode cX12_longest 82 = .ok (.iload 6, 2) := by decide +kernel
theorem dX12_longest_84 : decode cX12_longest 84 = .ok (.isub, 1) := by decide +kernel
theorem dX12_longest_85 : decode cX12_longest 85 = .ok (.iconst 1, 1) := by decide +kernel
theorem dX12_longest_86 : decode cX12_longest 86 = .ok (.iadd, 1) := by decide +kernel
theorem dX12_longest_87 : decode cX12_longest 87 = .ok (.goto 5, 3) := by decide +kernel
theorem dX12_longest_90 : decode cX12_longest 90 = .ok (.iload 5, 2) := by decide +kernel
theorem dX12_longest_92 : decode cX12_longest 92 = .ok (.istore 5, 2) := by decide +kernel
theorem dX12_longest_94 : decode cX12_longest 94 = .ok (.iload 6, 2) := by decide +kernel
theorem dX12_longest_96 : decode cX12_longest 96 = .ok (.iload 4, 2) := by decide +kernel
theorem dX12_longest_98 : decode cX12_longest 98 = .ok (.if_icmp .le 8, 3) := by decide +kernel
theorem dX12_longest_101 : decode cX12_longest 101 = .ok (.iload 6, 2) := by decide +kernel
theorem dX12_longest_103 : decode cX12_longest 103 = .ok (.goto 5, 3) := by decide +kernel
theorem dX12_longest_106 : decode cX12_longest 106 = .ok (.iload 4, 2) := by decide +kernel
theorem dX12_longest_108 : decode cX12_longest 108 = .ok (.istore 4, 2) := by decide +kernel
theorem dX12_longest_110 : decode cX12_longest 110 = .ok (.iinc 7 1, 3) := by decide +kernel
theorem dX12_longest_113 : decode cX12_longest 113 = .ok (.goto (-74), 3) := by decide +kernel
theorem dX12_longest_116 : decode cX12_longest 116 = .ok (.iload_n 3, 1) := by decide +kernel
theorem dX12_longest_117 : decode cX12_longest 117 = .ok (.ifCond .ne 8, 3) := by decide +kernel
theorem dX12_longest_120 : decode cX12_longest 120 = .ok (.iload 4, 2) := by decide +kernel
theorem dX12_longest_122 : decode cX12_longest 122 = .ok (.goto 5, 3) := by decide +kernel
theorem dX12_longest_125 : decode cX12_longest 125 = .ok (.iload 5, 2) := by decide +kernel
theorem dX12_longest_127 : decode cX12_longest 127 = .ok (.ireturn, 1) := by decide +kernel
set_option maxRecDepth 20000 in
set_option maxHeartbeats 4000000 in
theorem L_X12_longest_39 (K : xK) (L : xL) : ∀ (n : Nat) (a0 : Nat) (a1 : Int32) (a2 : Int32) (a3 : Int32) (a4 : Int32) (a5 : Int32) (a6 : Int32) (a7 : Int32) (h : xH), Sim K L cX12_longest RX12 "longest" 8 2 (fun q : Int32 × Int32 × Int32 × Int32 × xH => q.2.2.2.2) (fun q pc' ls' st' h' => pc' = 116 ∧ ls' = [(0, .ref a0), (1, .int a1), (2, .int a2), (3, .int a3), (4, .int q.1), (5, .int q.2.1), (6, .int q.2.2.1), (7, .int q.2.2.2.1)] ∧ st' = [] ∧ h' = q.2.2.2.2) 39 [(0, .ref a0), (1, .int a1), (2, .int a2), (3, .int a3), (4, .int a4), (5, .int a5), (6, .int a6), (7, .int a7)] [] h (f_X12_longest_L39 n a0 a1 a2 a3 a4 a5 a6 a7 h) := by
  intro n
  induction n with
  | zero =>
    intro a0 a1 a2 a3 a4 a5 a6 a7 h
    exact Sim.none
  | succ n ih =>
    intro a0 a1 a2 a3 a4 a5 a6 a7 h
    unfold f_X12_longest_L39
    refine S_iload (pc := 39) 7 rfl dX12_longest_39 ?_
    refine S_aload_n (pc := 41) 0 rfl dX12_longest_41 rfl ?_
    refine S_iload_n (pc := 42) 1 rfl dX12_longest_42 rfl ?_
    refine S_call_i (pc := 43) (rest := [.int a7]) (fun q hq => (x_if hq).elim (fun z => R_V (av := [.int a1]) (q := (RX12, TX12, 28)) (M_X12_bitsOf _ a0 a1 h z.2) z.1 rfl wd_1012 wd_1009 wd_1011 wd_50 wd_28 ⟨rfl, hd_X12_bitsOf⟩ ⟨Nat.le_of_ble_eq_true rfl, Nat.le_of_ble_eq_true rfl⟩ rfl (Nat.le_of_ble_eq_true rfl) dX12_longest_43) (fun hq => (by cases hq))) (fun _ h => List.mem_cons_of_mem _ (List.mem_cons_of_mem _ (h))) (fun q4 => ?_)
    refine S_icmp_ge (pc := 46) (tgt := 116) dX12_longest_46 (by decide) ?_ ?_
    · refine S_sub [0, 1, 2, 3, 4, 5, 6, 7] rfl ?_
      exact Sim.fin ⟨rfl, rfl, rfl, rfl⟩ rfl
    · refine S_aload_n (pc := 49) 0 rfl dX12_longest_49 rfl ?_
      refine S_getR (pc := 50) fd_X12_now wd_821 dX12_longest_50 (fun v5 => ?_)
      refine S_iload_n (pc := 53) 1 rfl dX12_longest_53 rfl ?_
      refine S_iload (pc := 54) 7 rfl dX12_longest_54 ?_
      refine S_call_i (pc := 56) (rest := []) (fun q hq => R_S (av := [.ref v5, .int a1, .int a7]) (M_X12_bit _ v5 a1 a7 q4.2 hq) wd_1018 wd_1016 wd_1017 wd_50 hd_X12_bit ⟨Nat.le_of_ble_eq_true rfl, Nat.le_of_ble_eq_true rfl⟩ rfl (Nat.le_of_ble_eq_true rfl) dX12_longest_56) (fun _ h => absurd h List.not_mem_nil) (fun q6 => ?_)
      refine S_iload_n (pc := 59) 2 rfl dX12_longest_59 rfl ?_
      refine Sim.cut (pc' := 71) (st' := [.int (if q6.1 = a2 then a6 + (1 : Int32) else (0 : Int32))]) ?_ (fun kc => ?_)
      · refine S_istore (pc := 71) dX12_longest_71 (Nat.le_of_ble_eq_true rfl) rfl ?_
        refine S_iload (pc := 73) 0 rfl dX12_longest_73 ?_
        refine S_iload (pc := 75) 5 rfl dX12_longest_75 ?_
        refine Sim.cut (pc' := 92) (st' := [.int (if (if q6.1 = a2 then a6 + (1 : Int32) else (0 : Int32)) ≤ a4 then a5 else (a7 - (if q6.1 = a2 then a6 + (1 : Int32) else (0 : Int32))) + (1 : Int32))]) ?_ (fun kc => ?_)
        · refine S_istore (pc := 92) dX12_longest_92 (Nat.le_of_ble_eq_true rfl) rfl ?_
          refine S_iload (pc := 94) 1 rfl dX12_longest_94 ?_
          refine S_iload (pc := 96) 6 rfl dX12_longest_96 ?_
          refine S_icmp_le (pc := 98) (tgt := 106) dX12_longest_98 (by decide) ?_ ?_
          · refine S_iload (pc := 106) 6 rfl dX12_longest_106 ?_
            refine S_istore (pc := 108) dX12_longest_108 (Nat.le_of_ble_eq_true rfl) rfl ?_
            refine S_iinc (pc := 110) (v := a7 + (1 : Int32)) 7 rfl dX12_longest_110 (x_inc ic_1) (Nat.le_of_ble_eq_true rfl) rfl ?_
            refine S_goto (pc := 113) (tgt := 39) dX12_longest_113 (by decide) ?_
            refine S_sub [4, 5, 6, 7, 1, 2, 3, 0] rfl ?_
            exact ih a0 a1 a2 a3 a4 (if (if q6.1 = a2 then a6 + (1 : Int32) else (0 : Int32)) ≤ a4 then a5 else (a7 - (if q6.1 = a2 then a6 + (1 : Int32) else (0 : Int32))) + (1 : Int32)) (if q6.1 = a2 then a6 + (1 : Int32) else (0 : Int32)) (a7 + (1 : Int32)) q6.2
          · refine S_iload (pc := 101) 1 rfl dX12_longest_101 ?_
            refine S_goto (pc := 103) (tgt := 108) dX12_longest_103 (by decide) ?_
            refine S_istore (pc := 108) dX12_longest_108 (Nat.le_of_ble_eq_true rfl) rfl ?_
            refine S_iinc (pc := 110) (v := a7 + (1 : Int32)) 7 rfl dX12_longest_110 (x_inc ic_1) (Nat.le_of_ble_eq_true rfl) rfl ?_
            refine S_goto (pc := 113) (tgt := 39) dX12_longest_113 (by decide) ?_
            refine S_sub [4, 5, 6, 7, 1, 2, 3, 0] rfl ?_
            exact ih a0 a1 a2 a3 (if q6.1 = a2 then a6 + (1 : Int32) else (0 : Int32)) (if (if q6.1 = a2 then a6 + (1 : Int32) else (0 : Int32)) ≤ a4 then a5 else (a7 - (if q6.1 = a2 then a6 + (1 : Int32) else (0 : Int32))) + (1 : Int32)) (if q6.1 = a2 then a6 + (1 : Int32) else (0 : Int32)) (a7 + (1 : Int32)) q6.2
        · refine D_icmp_le (pc := 77) (tgt := 90) dX12_longest_77 (by decide) (fun c8 => ?_) (fun c8 => ?_)
          · refine S_iload (pc := 90) 6 rfl dX12_longest_90 ?_
            exact x_st (by rw [if_pos c8]) kc
          · refine S_iload (pc := 80) 7 rfl dX12_longest_80 ?_
            refine S_iload (pc := 82) 0 rfl dX12_longest_82 ?_
            refine S_isub (pc := 84) dX12_longest_84 ?_
            refine S_iconst (pc := 85) dX12_longest_85 ic_1 ?_
            refine S_iadd (pc := 86) dX12_longest_86 ?_
            refine S_goto (pc := 87) (tgt := 92) dX12_longest_87 (by decide) ?_
            exact x_st (by rw [if_neg c8]) kc
      · refine D_icmp_ne (pc := 60) (tgt := 70) dX12_longest_60 (by decide) (fun c7 => ?_) (fun c7 => ?_)
        · refine S_iload (pc := 63) 6 rfl dX12_longest_63 ?_
          refine S_iconst (pc := 65) dX12_longest_65 ic_1 ?_
          refine S_iadd (pc := 66) dX12_longest_66 ?_
          refine S_goto (pc := 67) (tgt := 71) dX12_longest_67 (by decide) ?_
          exact x_st (by rw [if_pos c7]) kc
        · refine S_iconst (pc := 70) dX12_longest_70 ic_0 ?_
          exact x_st (by rw [if_neg c7]) kc
set_option maxRecDepth 20000 in
set_option maxHeartbeats 4000000 in
theorem W_X12_longest (K : xK) (L : xL) (a0 : Nat) (a1 : Int32) (a2 : Int32) (a3 : Int32) (h : xH) : Sim K L cX12_longest RX12 "longest" 8 2 (fun q : Int32 × xH => q.2) (xRi cX12_longest) 0 [(0, .ref a0), (1, .int a1), (2, .int a2), (3, .int a3)] [] h (f_X12_longest a0 a1 a2 a3 h) := by
  unfold f_X12_longest
  refine S_iload_n (pc := 0) 1 rfl dX12_longest_0 rfl ?_
  refine S_call_i (pc := 1) (rest := []) (fun q hq => R_S (av := [.int a1]) (M_X12_isVector _ a1 h hq) wd_947 wd_945 wd_946 wd_50 hd_X12_isVector ⟨Nat.le_of_ble_eq_true rfl, Nat.le_of_ble_eq_true rfl⟩ rfl (Nat.le_of_ble_eq_true rfl) dX12_longest_1) (fun _ h => absurd h List.not_mem_nil) (fun q1 => ?_)
  refine S_if_eq (pc := 4) (tgt := 23) dX12_longest_4 (by decide) ?_ ?_
  · refine S_ldc (pc := 23) wd_903 dX12_longest_23 ?_
    exact Sim.fin ⟨dX12_longest_25, rfl, rfl⟩ rfl
  · refine S_iload_n (pc := 7) 2 rfl dX12_longest_7 rfl ?_
    refine S_call_i (pc := 8) (rest := []) (fun q hq => R_S (av := [.int a2]) (M_X12_isValue _ a2 q1.2 hq) wd_1015 wd_1013 wd_1014 wd_50 hd_X12_isValue ⟨Nat.le_of_ble_eq_true rfl, Nat.le_of_ble_eq_true rfl⟩ rfl (Nat.le_of_ble_eq_true rfl) dX12_longest_8) (fun _ h => absurd h List.not_mem_nil) (fun q2 => ?_)
    refine S_if_eq (pc := 11) (tgt := 23) dX12_longest_11 (by decide) ?_ ?_
    · refine S_ldc (pc := 23) wd_903 dX12_longest_23 ?_
      exact Sim.fin ⟨dX12_longest_25, rfl, rfl⟩ rfl
    · refine S_iload_n (pc := 14) 3 rfl dX12_longest_14 rfl ?_
      refine S_iconst (pc := 15) dX12_longest_15 ic_0 ?_
      refine S_iconst (pc := 16) dX12_longest_16 ic_1 ?_
      refine S_call_i (pc := 17) (rest := []) (fun q hq => R_S (av := [.int a3, .int (0 : Int32), .int (1 : Int32)]) (M_X12_in _ a3 (0 : Int32) (1 : Int32) q2.2 hq) wd_902 wd_900 wd_901 wd_50 hd_X12_in ⟨Nat.le_of_ble_eq_true rfl, Nat.le_of_ble_eq_true rfl⟩ rfl (Nat.le_of_ble_eq_true rfl) dX12_longest_17) (fun _ h => absurd h List.not_mem_nil) (fun q3 => ?_)
      refine S_if_ne (pc := 20) (tgt := 26) dX12_longest_20 (by decide) ?_ ?_
      · refine S_ldc (pc := 23) wd_903 dX12_longest_23 ?_
        exact Sim.fin ⟨dX12_longest_25, rfl, rfl⟩ rfl
      · refine S_iconst (pc := 26) dX12_longest_26 ic_0 ?_
        refine S_istore (pc := 27) dX12_longest_27 (Nat.le_of_ble_eq_true rfl) rfl ?_
        refine S_ldc (pc := 29) wd_807 dX12_longest_29 ?_
        refine S_istore (pc := 31) dX12_longest_31 (Nat.le_of_ble_eq_true rfl) rfl ?_
        refine S_iconst (pc := 33) dX12_longest_33 ic_0 ?_
        refine S_istore (pc := 34) dX12_longest_34 (Nat.le_of_ble_eq_true rfl) rfl ?_
        refine S_iconst (pc := 36) dX12_longest_36 ic_0 ?_
        refine S_istore (pc := 37) dX12_longest_37 (Nat.le_of_ble_eq_true rfl) rfl ?_
        refine S_sub [4, 5, 6, 7, 3, 2, 1, 0] rfl ?_
        refine Sim.bind (hs := fun q9 : Int32 × Int32 × Int32 × Int32 × xH => q9.2.2.2.2) (px := 116) (lsx := fun q9 => [(0, .ref a0), (1, .int a1), (2, .int a2), (3, .int a3), (4, .int q9.1), (5, .int q9.2.1), (6, .int q9.2.2.1), (7, .int q9.2.2.2.1)]) (L_X12_longest_39 K L xN a0 a1 a2 a3 (0 : Int32) (-1000000 : Int32) (0 : Int32) (0 : Int32) q3.2) (fun q9 => ?_)
        refine S_iload_n (pc := 116) 3 rfl dX12_longest_116 rfl ?_
        refine S_if_ne (pc := 117) (tgt := 125) dX12_longest_117 (by decide) ?_ ?_
        · refine S_iload (pc := 120) 4 rfl dX12_longest_120 ?_
          refine S_goto (pc := 122) (tgt := 127) dX12_longest_122 (by decide) ?_
          exact Sim.fin ⟨dX12_longest_127, rfl, rfl⟩ rfl
        · refine S_iload (pc := 125) 5 rfl dX12_longest_125 ?_
          exact Sim.fin ⟨dX12_longest_127, rfl, rfl⟩ rfl
theorem M_X12_longest (l : Launch) (a0 : Nat) (a1 : Int32) (a2 : Int32) (a3 : Int32) (h : xH) {q : Int32 × xH} (hq : f_X12_longest a0 a1 a2 a3 h = some q) : xM l yX12_longest cX12_longest 8 (some .int) 2 [.ref a0, .int a1, .int a2, .int a3] h (some (.int q.1)) q.2 := xM_i (by decide +kernel) (Nat.le_of_ble_eq_true rfl) (fun K L => W_X12_longest K L a0 a1 a2 a3 h) hq
theorem dX12_lowest_0 : decode cX12_lowest 0 = .ok (.iload_n 0, 1) := by decide +kernel
theorem dX12_lowest_1 : decode cX12_lowest 1 = .ok (.ifCond .ne 13, 3) := by decide +kernel
theorem dX12_lowest_4 : decode cX12_lowest 4 = .ok (.iload_n 1, 1) := by decide +kernel
theorem dX12_lowest_5 : decode cX12_lowest 5 = .ok (.bipush 24, 2) := by decide +kernel
theorem dX12_lowest_7 : decode cX12_lowest 7 = .ok (.ishl, 1) := by decide +kernel
theorem dX12_lowest_8 : decode cX12_lowest 8 = .ok (.bipush 24, 2) := by decide +kernel
theorem dX12_lowest_10 : decode cX12_lowest 10 = .ok (.ishr, 1) := by decide +kernel
theorem dX12_lowest_11 : decode cX12_lowest 11 = .ok (.goto 19, 3) := by decide +kernel
theorem dX12_lowest_14 : decode cX12_lowest 14 = .ok (.iload_n 0, 1) := by decide +kernel
theorem dX12_lowest_15 : decode cX12_lowest 15 = .ok (.iconst 1, 1) := by decide +kernel
theorem dX12_lowest_16 : decode cX12_lowest 16 = .ok (.if_icmp .ne 13, 3) := by decide +kernel
theorem dX12_lowest_19 : decode cX12_lowest 19 = .ok (.iload_n 1, 1) := by decide +kernel
theorem dX12_lowest_20 : decode cX12_lowest 20 = .ok (.bipush 16, 2) := by decide +kernel
theorem dX12_lowest_22 : decode cX12_lowest 22 = .ok (.ishl, 1) := by decide +kernel
theorem dX12_lowest_23 : decode cX12_lowest 23 = .ok (.bipush 16, 2) := by decide +kernel
theorem dX12_lowest_25 : decode cX12_lowest 25 = .ok (.ishr, 1) := by decide +kernel
theorem dX12_lowest_26 : decode cX12_lowest 26 = .ok (.goto 4, 3) := by decide +kernel
theorem dX12_lowest_29 : decode cX12_lowest 29 = .ok (.iload_n 1, 1) := by decide +kernel
theorem dX12_lowest_30 : decode cX12_lowest 30 = .ok (.ireturn, 1) := by decide +kernel
set_option maxRecDepth 20000 in
set_option maxHeartbeats 4000000 in
theorem W_X12_lowest (K : xK) (L : xL) (a0 : Int32) (a1 : Int32) (h : xH) : Sim K L cX12_lowest RX12 "lowest" 2 0 (fun q : Int32 × xH => q.2) (xRi cX12_lowest) 0 [(0, .int a0), (1, .int a1)] [] h (f_X12_lowest a0 a1 h) := by
  unfold f_X12_lowest
  refine S_iload_n (pc := 0) 0 rfl dX12_lowest_0 rfl ?_
  refine S_if_ne (pc := 1) (tgt := 14) dX12_lowest_1 (by decide) ?_ ?_
  · refine S_iload_n (pc := 4) 1 rfl dX12_lowest_4 rfl ?_
    refine S_bipush (pc := 5) dX12_lowest_5 bi_24 ?_
    refine S_ishl (pc := 7) dX12_lowest_7 ?_
    refine S_bipush (pc := 8) dX12_lowest_8 bi_24 ?_
    refine S_ishr (pc := 10) dX12_lowest_10 ?_
    refine S_goto (pc := 11) (tgt := 30) dX12_lowest_11 (by decide) ?_
    exact Sim.fin ⟨dX12_lowest_30, rfl, rfl⟩ rfl
  · refine S_iload_n (pc := 14) 0 rfl dX12_lowest_14 rfl ?_
    refine S_iconst (pc := 15) dX12_lowest_15 ic_1 ?_
    refine S_icmp_ne (pc := 16) (tgt := 29) dX12_lowest_16 (by decide) ?_ ?_
    · refine S_iload_n (pc := 19) 1 rfl dX12_lowest_19 rfl ?_
      refine S_bipush (pc := 20) dX12_lowest_20 bi_16 ?_
      refine S_ishl (pc := 22) dX12_lowest_22 ?_
      refine S_bipush (pc := 23) dX12_lowest_23 bi_16 ?_
      refine S_ishr (pc := 25) dX12_lowest_25 ?_
      refine S_goto (pc := 26) (tgt := 30) dX12_lowest_26 (by decide) ?_
      exact Sim.fin ⟨dX12_lowest_30, rfl, rfl⟩ rfl
    · refine S_iload_n (pc := 29) 1 rfl dX12_lowest_29 rfl ?_
      exact Sim.fin ⟨dX12_lowest_30, rfl, rfl⟩ rfl
theorem M_X12_lowest (l : Launch) (a0 : Int32) (a1 : Int32) (h : xH) {q : Int32 × xH} (hq : f_X12_lowest a0 a1 h = some q) : xM l yX12_lowest cX12_lowest 2 (some .int) 0 [.int a0, .int a1] h (some (.int q.1)) q.2 := xM_i (by decide +kernel) (Nat.le_of_ble_eq_true rfl) (fun K L => W_X12_lowest K L a0 a1 h) hq
theorem dX12_mask_0 : decode cX12_mask 0 = .ok (.iload_n 1, 1) := by decide +kernel
theorem dX12_mask_1 : decode cX12_mask 1 = .ok (.iconst 0, 1) := by decide +kernel
theorem dX12_mask_2 : decode cX12_mask 2 = .ok (.bipush 15, 2) := by decide +kernel
theorem dX12_mask_4 : decode cX12_mask 4 = .ok (.invokestatic 65, 3) := by decide +kernel
theorem dX12_mask_7 : decode cX12_mask 7 = .ok (.ifCond .eq 23, 3) := by decide +kernel
theorem dX12_mask_10 : decode cX12_mask 10 = .ok (.iload_n 2, 1) := by decide +kernel
theorem dX12_mask_11 : decode cX12_mask 11 = .ok (.iconst 0, 1) := by decide +kernel
theorem dX12_mask_12 : decode cX12_mask 12 = .ok (.aload_n 0, 1) := by decide +kernel
theorem dX12_mask_13 : decode cX12_mask 13 = .ok (.getfield 53, 3) := by decide +kernel
theorem dX12_mask_16 : decode cX12_mask 16 = .ok (.sipush 240, 3) := by decide +kernel
theorem dX12_mask_19 : decode cX12_mask 19 = .ok (.iload_n 1, 1) := by decide +kernel
theorem dX12_mask_20 : decode cX12_mask 20 = .ok (.iadd, 1) := by decide +kernel
theorem dX12_mask_21 : decode cX12_mask 21 = .ok (.iaload, 1) := by decide +kernel
theorem dX12_mask_22 : decode cX12_mask 22 = .ok (.iconst 1, 1) := by decide +kernel
theorem dX12_mask_23 : decode cX12_mask 23 = .ok (.isub, 1) := by decide +kernel
theorem dX12_mask_24 : decode cX12_mask 24 = .ok (.invokestatic 65, 3) := by decide +kernel
theorem dX12_mask_27 : decode cX12_mask 27 = .ok (.ifCond .ne 6, 3) := by decide +kernel
theorem dX12_mask_30 : decode cX12_mask 30 = .ok (.ldc 73, 2) := by decide +kernel
theorem dX12_mask_32 : decode cX12_mask 32 = .ok (.ireturn, 1) := by decide +kernel
theorem dX12_mask_33 : decode cX12_mask 33 = .ok (.iconst 0, 1) := by decide +kernel
theorem dX12_mask_34 : decode cX12_mask 34 = .ok (.istore_n 3, 1) := by decide +kernel
theorem dX12_mask_35 : decode cX12_mask 35 = .ok (.iload_n 1, 1) := by decide +kernel
theorem dX12_mask_36 : decode cX12_mask 36 = .ok (.istore 4, 2) := by decide +kernel
theorem dX12_mask_38 : decode cX12_mask 38 = .ok (.iload_n 2, 1) := by decide +kernel
theorem dX12_mask_39 : decode cX12_mask 39 = .ok (.istore 5, 2) := by decide +kernel
theorem dX12_mask_41 : decode cX12_mask 41 = .ok (.bipush 14, 2) := by decide +kernel
theorem dX12_mask_43 : decode cX12_mask 43 = .ok (.istore 6, 2) := by decide +kernel
theorem dX12_mask_45 : decode cX12_mask 45 = .ok (.iload 6, 2) := by decide +kernel
theorem dX12_mask_47 : decode cX12_mask 47 = .ok (.ifCond .lt 53, 3) := by decide +kernel
theorem dX12_mask_50 : decode cX12_mask 50 = .ok (.aload_n 0, 1) := by decide +kernel
theorem dX12_mask_51 : decode cX12_mask 51 = .ok (.getfield 53, 3) := by decide +kernel
theorem dX12_mask_54 : decode cX12_mask 54 = .ok (.bipush 16, 2) := by decide +kernel
theorem dX12_mask_56 : decode cX12_mask 56 = .ok (.iload 6, 2) := by decide +kernel
theorem dX12_mask_58 : decode cX12_mask 58 = .ok (.imul, 1) := by decide +kernel
theorem dX12_mask_59 : decode cX12_mask 59 = .ok (.iload 4, 2) := by decide +kernel
theorem dX12_mask_61 : decode cX12_mask 61 = .ok (.iadd, 1) := by decide +kernel
theorem dX12_mask_62 : decode cX12_mask 62 = .ok (.iaload, 1) := by decide +kernel
theorem dX12_mask_63 : decode cX12_mask 63 = .ok (.istore 7, 2) := by decide +kernel
theorem dX12_mask_65 : decode cX12_mask 65 = .ok (.iload 4, 2) := by decide +kernel
theorem dX12_mask_67 : decode cX12_mask 67 = .ok (.ifCond .le 27, 3) := by decide +kernel
theorem dX12_mask_70 : decode cX12_mask 70 = .ok (.iload 5, 2) := by decide +kernel
theorem dX12_mask_72 : decode cX12_mask 72 = .ok (.iload 7, 2) := by decide +kernel
theorem dX12_mask_74 : decode cX12_mask 74 = .ok (.if_icmp .lt 20, 3) := by decide +kernel
theorem dX12_mask_77 : decode cX12_mask 77 = .ok (.iload_n 3, 1) := by decide +kernel
theorem dX12_mask_78 : decode cX12_mask 78 = .ok (.iconst 1, 1) := by decide +kernel
theorem dX12_mask_79 : decode cX12_mask 79 = .ok (.iload 6, 2) := by decide +kernel
theorem dX12_mask_81 : decode cX12_mask 81 = .ok (.ishl, 1) := by decide +kernel
theorem dX12_mask_82 : decode cX12_mask 82 = .ok (.ior, 1) := by decide +kernel
theorem dX12_mask_83 : decode cX12_mask 83 = .ok (.istore_n 3, 1) := by decide +kernel
theorem dX12_mask_84 : decode cX12_mask 84 = .ok (.iload 5, 2) := by decide +kernel
theorem dX12_mask_86 : decode cX12_mask 86 = .ok (.iload 7, 2) := by decide +kernel
theorem dX12_mask_88 : decode cX12_mask 88 = .ok (.isub, 1) := by decide +kernel
theorem dX12_mask_89 : decode cX12_mask 89 = .ok (.istore 5, 2) := by decide +kernel
theorem dX12_mask_91 : decode cX12_mask 91 = .ok (.iinc 4 (-1), 3) := by decide +kernel
theorem dX12_mask_94 : decode cX12_mask 94 = .ok (.iinc 6 (-1), 3) := by decide +kernel
theorem dX12_mask_97 : decode cX12_mask 97 = .ok (.goto (-52), 3) := by decide +kernel
theorem dX12_mask_100 : decode cX12_mask 100 = .ok (.iload_n 3, 1) := by decide +kernel
theorem dX12_mask_101 : decode cX12_mask 101 = .ok (.ireturn, 1) := by decide +kernel
set_option maxRecDepth 20000 in
set_option maxHeartbeats 4000000 in
theorem L_X12_mask_45 (K : xK) (L : xL) : ∀ (n : Nat) (a0 : Nat) (a3 : Int32) (a4 : Int32) (a5 : Int32) (a6 : Int32) (h : xH), Sim K L cX12_mask RX12 "mask" 8 1 (fun q : Int32 × Int32 × Int32 × Int32 × xH => q.2.2.2.2) (fun q pc' ls' st' h' => pc' = 100 ∧ ls' = [(0, .ref a0), (3, .int q.1), (4, .int q.2.1), (5, .int q.2.2.1), (6, .int q.2.2.2.1)] ∧ st' = [] ∧ h' = q.2.2.2.2) 45 [(0, .ref a0), (3, .int a3), (4, .int a4), (5, .int a5), (6, .int a6)] [] h (f_X12_mask_L45 n a0 a3 a4 a5 a6 h) := by
  intro n
  induction n with
  | zero =>
    intro a0 a3 a4 a5 a6 h
    exact Sim.none
  | succ n ih =>
    intro a0 a3 a4 a5 a6 h
    unfold f_X12_mask_L45
    refine S_iload (pc := 45) 4 rfl dX12_mask_45 ?_
    refine S_if_lt (pc := 47) (tgt := 100) dX12_mask_47 (by decide) ?_ ?_
    · refine S_sub [0, 1, 2, 3, 4] rfl ?_
      exact Sim.fin ⟨rfl, rfl, rfl, rfl⟩ rfl
    · refine S_aload_n (pc := 50) 0 rfl dX12_mask_50 rfl ?_
      refine S_getR (pc := 51) fd_X12_chosen wd_833 dX12_mask_51 (fun v5 => ?_)
      refine S_bipush (pc := 54) dX12_mask_54 bi_16 ?_
      refine S_iload (pc := 56) 4 rfl dX12_mask_56 ?_
      refine S_imul (pc := 58) dX12_mask_58 ?_
      refine S_iload (pc := 59) 2 rfl dX12_mask_59 ?_
      refine S_iadd (pc := 61) dX12_mask_61 ?_
      refine S_aI (pc := 62) dX12_mask_62 (fun v6 => ?_)
      refine S_istore (pc := 63) dX12_mask_63 (Nat.le_of_ble_eq_true rfl) rfl ?_
      refine S_iload (pc := 65) 3 rfl dX12_mask_65 ?_
      refine S_if_le (pc := 67) (tgt := 94) dX12_mask_67 (by decide) ?_ ?_
      · refine S_iinc (pc := 94) (v := a6 + (-1 : Int32)) 5 rfl dX12_mask_94 (x_inc ic_m1) (Nat.le_of_ble_eq_true rfl) rfl ?_
        refine S_goto (pc := 97) (tgt := 45) dX12_mask_97 (by decide) ?_
        refine S_sub [2, 3, 4, 5, 0] rfl ?_
        exact ih a0 a3 a4 a5 (a6 + (-1 : Int32)) h
      · refine S_iload (pc := 70) 4 rfl dX12_mask_70 ?_
        refine S_iload (pc := 72) 0 rfl dX12_mask_72 ?_
        refine S_icmp_lt (pc := 74) (tgt := 94) dX12_mask_74 (by decide) ?_ ?_
        · refine S_iinc (pc := 94) (v := a6 + (-1 : Int32)) 5 rfl dX12_mask_94 (x_inc ic_m1) (Nat.le_of_ble_eq_true rfl) rfl ?_
          refine S_goto (pc := 97) (tgt := 45) dX12_mask_97 (by decide) ?_
          refine S_sub [2, 3, 4, 5, 0] rfl ?_
          exact ih a0 a3 a4 a5 (a6 + (-1 : Int32)) h
        · refine S_iload_n (pc := 77) 2 rfl dX12_mask_77 rfl ?_
          refine S_iconst (pc := 78) dX12_mask_78 ic_1 ?_
          refine S_iload (pc := 79) 5 rfl dX12_mask_79 ?_
          refine S_ishl (pc := 81) dX12_mask_81 ?_
          refine S_ior (pc := 82) dX12_mask_82 ?_
          refine S_istore_n (pc := 83) dX12_mask_83 rfl (Nat.le_of_ble_eq_true rfl) rfl ?_
          refine S_iload (pc := 84) 4 rfl dX12_mask_84 ?_
          refine S_iload (pc := 86) 1 rfl dX12_mask_86 ?_
          refine S_isub (pc := 88) dX12_mask_88 ?_
          refine S_istore (pc := 89) dX12_mask_89 (Nat.le_of_ble_eq_true rfl) rfl ?_
          refine S_iinc (pc := 91) (v := a4 + (-1 : Int32)) 4 rfl dX12_mask_91 (x_inc ic_m1) (Nat.le_of_ble_eq_true rfl) rfl ?_
          refine S_iinc (pc := 94) (v := a6 + (-1 : Int32)) 5 rfl dX12_mask_94 (x_inc ic_m1) (Nat.le_of_ble_eq_true rfl) rfl ?_
          refine S_goto (pc := 97) (tgt := 45) dX12_mask_97 (by decide) ?_
          refine S_sub [5, 3, 1, 2, 0] rfl ?_
          exact ih a0 (a3 ||| ((1 : Int32) <<< (a6 &&& 31))) (a4 + (-1 : Int32)) (a5 - v6) (a6 + (-1 : Int32)) h
set_option maxRecDepth 20000 in
set_option maxHeartbeats 4000000 in
theorem W_X12_mask (K : xK) (L : xL) (a0 : Nat) (a1 : Int32) (a2 : Int32) (h : xH) : Sim K L cX12_mask RX12 "mask" 8 1 (fun q : Int32 × xH => q.2) (xRi cX12_mask) 0 [(0, .ref a0), (1, .int a1), (2, .int a2)] [] h (f_X12_mask a0 a1 a2 h) := by
  unfold f_X12_mask
  refine S_iload_n (pc := 0) 1 rfl dX12_mask_0 rfl ?_
  refine S_iconst (pc := 1) dX12_mask_1 ic_0 ?_
  refine S_bipush (pc := 2) dX12_mask_2 bi_15 ?_
  refine S_call_i (pc := 4) (rest := []) (fun q hq => R_S (av := [.int a1, .int (0 : Int32), .int (15 : Int32)]) (M_X12_in _ a1 (0 : Int32) (15 : Int32) h hq) wd_902 wd_900 wd_901 wd_50 hd_X12_in ⟨Nat.le_of_ble_eq_true rfl, Nat.le_of_ble_eq_true rfl⟩ rfl (Nat.le_of_ble_eq_true rfl) dX12_mask_4) (fun _ h => absurd h List.not_mem_nil) (fun q1 => ?_)
  refine S_if_eq (pc := 7) (tgt := 30) dX12_mask_7 (by decide) ?_ ?_
  · refine S_ldc (pc := 30) wd_903 dX12_mask_30 ?_
    exact Sim.fin ⟨dX12_mask_32, rfl, rfl⟩ rfl
  · refine S_iload_n (pc := 10) 2 rfl dX12_mask_10 rfl ?_
    refine S_iconst (pc := 11) dX12_mask_11 ic_0 ?_
    refine S_aload_n (pc := 12) 0 rfl dX12_mask_12 rfl ?_
    refine S_getR (pc := 13) fd_X12_chosen wd_833 dX12_mask_13 (fun v2 => ?_)
    refine S_sipush (pc := 16) dX12_mask_16 si_240 ?_
    refine S_iload_n (pc := 19) 1 rfl dX12_mask_19 rfl ?_
    refine S_iadd (pc := 20) dX12_mask_20 ?_
    refine S_aI (pc := 21) dX12_mask_21 (fun v3 => ?_)
    refine S_iconst (pc := 22) dX12_mask_22 ic_1 ?_
    refine S_isub (pc := 23) dX12_mask_23 ?_
    refine S_call_i (pc := 24) (rest := []) (fun q hq => R_S (av := [.int a2, .int (0 : Int32), .int (v3 - (1 : Int32))]) (M_X12_in _ a2 (0 : Int32) (v3 - (1 : Int32)) q1.2 hq) wd_902 wd_900 wd_901 wd_50 hd_X12_in ⟨Nat.le_of_ble_eq_true rfl, Nat.le_of_ble_eq_true rfl⟩ rfl (Nat.le_of_ble_eq_true rfl) dX12_mask_24) (fun _ h => absurd h List.not_mem_nil) (fun q4 => ?_)
    refine S_if_ne (pc := 27) (tgt := 33) dX12_mask_27 (by decide) ?_ ?_
    · refine S_ldc (pc := 30) wd_903 dX12_mask_30 ?_
      exact Sim.fin ⟨dX12_mask_32, rfl, rfl⟩ rfl
    · refine S_iconst (pc := 33) dX12_mask_33 ic_0 ?_
      refine S_istore_n (pc := 34) dX12_mask_34 rfl (Nat.le_of_ble_eq_true rfl) rfl ?_
      refine S_iload_n (pc := 35) 2 rfl dX12_mask_35 rfl ?_
      refine S_istore (pc := 36) dX12_mask_36 (Nat.le_of_ble_eq_true rfl) rfl ?_
      refine S_iload_n (pc := 38) 4 rfl dX12_mask_38 rfl ?_
      refine S_istore (pc := 39) dX12_mask_39 (Nat.le_of_ble_eq_true rfl) rfl ?_
      refine S_bipush (pc := 41) dX12_mask_41 bi_14 ?_
      refine S_istore (pc := 43) dX12_mask_43 (Nat.le_of_ble_eq_true rfl) rfl ?_
      refine S_sub [4, 3, 2, 1, 0] rfl ?_
      refine Sim.bind (hs := fun q7 : Int32 × Int32 × Int32 × Int32 × xH => q7.2.2.2.2) (px := 100) (lsx := fun q7 => [(0, .ref a0), (3, .int q7.1), (4, .int q7.2.1), (5, .int q7.2.2.1), (6, .int q7.2.2.2.1)]) (L_X12_mask_45 K L xN a0 (0 : Int32) a1 a2 (14 : Int32) q4.2) (fun q7 => ?_)
      refine S_iload_n (pc := 100) 1 rfl dX12_mask_100 rfl ?_
      exact Sim.fin ⟨dX12_mask_101, rfl, rfl⟩ rfl
theorem M_X12_mask (l : Launch) (a0 : Nat) (a1 : Int32) (a2 : Int32) (h : xH) {q : Int32 × xH} (hq : f_X12_mask a0 a1 a2 h = some q) : xM l yX12_mask cX12_mask 8 (some .int) 1 [.ref a0, .int a1, .int a2] h (some (.int q.1)) q.2 := xM_i (by decide +kernel) (Nat.le_of_ble_eq_true rfl) (fun K L => W_X12_mask K L a0 a1 a2 h) hq
theorem dX12_next_0 : decode cX12_next 0 = .ok (.aload_n 0, 1) := by decide +kernel
theorem dX12_next_1 : decode cX12_next 1 = .ok (.iload_n 1, 1) := by decide +kernel
theorem dX12_next_2 : decode cX12_next 2 = .ok (.iload_n 2, 1) := by decide +kernel
theorem dX12_next_3 : decode cX12_next 3 = .ok (.invokevirtual 209, 3) := by decide +kernel
theorem dX12_next_6 : decode cX12_next 6 = .ok (.ifCond .eq 10, 3) := by decide +kernel
theorem dX12_next_9 : decode cX12_next 9 = .ok (.iload_n 3, 1) := by decide +kernel
theorem dX12_next_10 : decode cX12_next 10 = .ok (.invokestatic 184, 3) := by decide +kernel
theorem dX12_next_13 : decode cX12_next 13 = .ok (.ifCond .ne 6, 3) := by decide +kernel
theorem dX12_next_16 : decode cX12_next 16 = .ok (.ldc 73, 2) := by decide +kernel
theorem dX12_next_18 : decode cX12_next 18 = .ok (.ireturn, 1) := by decide +kernel
theorem dX12_next_19 : decode cX12_next 19 = .ok (.iload_n 2, 1) := by decide +kernel
theorem dX12_next_20 : decode cX12_next 20 = .ok (.istore 4, 2) := by decide +kernel
theorem dX12_next_22 : decode cX12_next 22 = .ok (.iload 4, 2) := by decide +kernel
theorem dX12_next_24 : decode cX12_next 24 = .ok (.aload_n 0, 1) := by decide +kernel
theorem dX12_next_25 : decode cX12_next 25 = .ok (.iload_n 1, 1) := by decide +kernel
theorem dX12_next_26 : decode cX12_next 26 = .ok (.invokevirtual 167, 3) := by decide +kernel
theorem dX12_next_29 : decode cX12_next 29 = .ok (.if_icmp .ge 26, 3) := by decide +kernel
theorem dX12_next_32 : decode cX12_next 32 = .ok (.aload_n 0, 1) := by decide +kernel
theorem dX12_next_33 : decode cX12_next 33 = .ok (.getfield 25, 3) := by decide +kernel
theorem dX12_next_36 : decode cX12_next 36 = .ok (.iload_n 1, 1) := by decide +kernel
theorem dX12_next_37 : decode cX12_next 37 = .ok (.iload 4, 2) := by decide +kernel
theorem dX12_next_39 : decode cX12_next 39 = .ok (.invokestatic 163, 3) := by decide +kernel
theorem dX12_next_42 : decode cX12_next 42 = .ok (.iload_n 3, 1) := by decide +kernel
theorem dX12_next_43 : decode cX12_next 43 = .ok (.if_icmp .ne 6, 3) := by decide +kernel
theorem dX12_next_46 : decode cX12_next 46 = .ok (.iload 4, 2) := by decide +kernel
theorem dX12_next_48 : decode cX12_next 48 = .ok (.ireturn, 1) := by decide +kernel
theorem dX12_next_49 : decode cX12_next 49 = .ok (.iinc 4 1, 3) := by decide +kernel
theorem dX12_next_52 : decode cX12_next 52 = .ok (.goto (-30), 3) := by decide +kernel
theorem dX12_next_55 : decode cX12_next 55 = .ok (.ldc 59, 2) := by decide +kernel
theorem dX12_next_57 : decode cX12_next 57 = .ok (.ireturn, 1) := by decide +kernel
set_option maxRecDepth 20000 in
set_option maxHeartbeats 4000000 in
theorem L_X12_next_22 (K : xK) (L : xL) : ∀ (n : Nat) (a0 : Nat) (a1 : Int32) (a3 : Int32) (a4 : Int32) (h : xH), Sim K L cX12_next RX12 "next" 5 3 (fun q : Int32 × xH => q.2) (xRi cX12_next) 22 [(0, .ref a0), (1, .int a1), (3, .int a3), (4, .int a4)] [] h (f_X12_next_L22 n a0 a1 a3 a4 h) := by
  intro n
  induction n with
  | zero =>
    intro a0 a1 a3 a4 h
    exact Sim.none
  | succ n ih =>
    intro a0 a1 a3 a4 h
    unfold f_X12_next_L22
    refine S_iload (pc := 22) 3 rfl dX12_next_22 ?_
    refine S_aload_n (pc := 24) 0 rfl dX12_next_24 rfl ?_
    refine S_iload_n (pc := 25) 1 rfl dX12_next_25 rfl ?_
    refine S_call_i (pc := 26) (rest := [.int a4]) (fun q hq => (x_if hq).elim (fun z => R_V (av := [.int a1]) (q := (RX12, TX12, 28)) (M_X12_bitsOf _ a0 a1 h z.2) z.1 rfl wd_1012 wd_1009 wd_1011 wd_50 wd_28 ⟨rfl, hd_X12_bitsOf⟩ ⟨Nat.le_of_ble_eq_true rfl, Nat.le_of_ble_eq_true rfl⟩ rfl (Nat.le_of_ble_eq_true rfl) dX12_next_26) (fun hq => (by cases hq))) (fun _ h => List.mem_cons_of_mem _ (List.mem_cons_of_mem _ (h))) (fun q3 => ?_)
    refine S_icmp_ge (pc := 29) (tgt := 55) dX12_next_29 (by decide) ?_ ?_
    · refine S_ldc (pc := 55) wd_807 dX12_next_55 ?_
      exact Sim.fin ⟨dX12_next_57, rfl, rfl⟩ rfl
    · refine S_aload_n (pc := 32) 0 rfl dX12_next_32 rfl ?_
      refine S_getR (pc := 33) fd_X12_now wd_821 dX12_next_33 (fun v4 => ?_)
      refine S_iload_n (pc := 36) 1 rfl dX12_next_36 rfl ?_
      refine S_iload (pc := 37) 3 rfl dX12_next_37 ?_
      refine S_call_i (pc := 39) (rest := []) (fun q hq => R_S (av := [.ref v4, .int a1, .int a4]) (M_X12_bit _ v4 a1 a4 q3.2 hq) wd_1018 wd_1016 wd_1017 wd_50 hd_X12_bit ⟨Nat.le_of_ble_eq_true rfl, Nat.le_of_ble_eq_true rfl⟩ rfl (Nat.le_of_ble_eq_true rfl) dX12_next_39) (fun _ h => absurd h List.not_mem_nil) (fun q5 => ?_)
      refine S_iload_n (pc := 42) 2 rfl dX12_next_42 rfl ?_
      refine S_icmp_ne (pc := 43) (tgt := 49) dX12_next_43 (by decide) ?_ ?_
      · refine S_iload (pc := 46) 3 rfl dX12_next_46 ?_
        exact Sim.fin ⟨dX12_next_48, rfl, rfl⟩ rfl
      · refine S_iinc (pc := 49) (v := a4 + (1 : Int32)) 3 rfl dX12_next_49 (x_inc ic_1) (Nat.le_of_ble_eq_true rfl) rfl ?_
        refine S_goto (pc := 52) (tgt := 22) dX12_next_52 (by decide) ?_
        refine S_sub [1, 2, 3, 0] rfl ?_
        exact ih a0 a1 a3 (a4 + (1 : Int32)) q5.2
set_option maxRecDepth 20000 in
set_option maxHeartbeats 4000000 in
theorem W_X12_next (K : xK) (L : xL) (a0 : Nat) (a1 : Int32) (a2 : Int32) (a3 : Int32) (h : xH) : Sim K L cX12_next RX12 "next" 5 3 (fun q : Int32 × xH => q.2) (xRi cX12_next) 0 [(0, .ref a0), (1, .int a1), (2, .int a2), (3, .int a3)] [] h (f_X12_next a0 a1 a2 a3 h) := by
  unfold f_X12_next
  refine S_aload_n (pc := 0) 0 rfl dX12_next_0 rfl ?_
  refine S_iload_n (pc := 1) 1 rfl dX12_next_1 rfl ?_
  refine S_iload_n (pc := 2) 2 rfl dX12_next_2 rfl ?_
  refine S_call_i (pc := 3) (rest := []) (fun q hq => (x_if hq).elim (fun z => R_V (av := [.int a1, .int a2]) (q := (RX12, TX12, 28)) (M_X12_isPlace _ a0 a1 a2 h z.2) z.1 rfl wd_1117 wd_1114 wd_1116 wd_50 wd_33 ⟨rfl, hd_X12_isPlace⟩ ⟨Nat.le_of_ble_eq_true rfl, Nat.le_of_ble_eq_true rfl⟩ rfl (Nat.le_of_ble_eq_true rfl) dX12_next_3) (fun hq => (by cases hq))) (fun _ h => absurd h List.not_mem_nil) (fun q1 => ?_)
  refine S_if_eq (pc := 6) (tgt := 16) dX12_next_6 (by decide) ?_ ?_
  · refine S_ldc (pc := 16) wd_903 dX12_next_16 ?_
    exact Sim.fin ⟨dX12_next_18, rfl, rfl⟩ rfl
  · refine S_iload_n (pc := 9) 3 rfl dX12_next_9 rfl ?_
    refine S_call_i (pc := 10) (rest := []) (fun q hq => R_S (av := [.int a3]) (M_X12_isValue _ a3 q1.2 hq) wd_1015 wd_1013 wd_1014 wd_50 hd_X12_isValue ⟨Nat.le_of_ble_eq_true rfl, Nat.le_of_ble_eq_true rfl⟩ rfl (Nat.le_of_ble_eq_true rfl) dX12_next_10) (fun _ h => absurd h List.not_mem_nil) (fun q2 => ?_)
    refine S_if_ne (pc := 13) (tgt := 19) dX12_next_13 (by decide) ?_ ?_
    · refine S_ldc (pc := 16) wd_903 dX12_next_16 ?_
      exact Sim.fin ⟨dX12_next_18, rfl, rfl⟩ rfl
    · refine S_iload_n (pc := 19) 2 rfl dX12_next_19 rfl ?_
      refine S_istore (pc := 20) dX12_next_20 (Nat.le_of_ble_eq_true rfl) rfl ?_
      refine S_sub [1, 2, 4, 0] rfl ?_
      exact L_X12_next_22 K L xN a0 a1 a3 a2 q2.2
theorem M_X12_next (l : Launch) (a0 : Nat) (a1 : Int32) (a2 : Int32) (a3 : Int32) (h : xH) {q : Int32 × xH} (hq : f_X12_next a0 a1 a2 a3 h = some q) : xM l yX12_next cX12_next 5 (some .int) 3 [.ref a0, .int a1, .int a2, .int a3] h (some (.int q.1)) q.2 := xM_i (by decide +kernel) (Nat.le_of_ble_eq_true rfl) (fun K L => W_X12_next K L a0 a1 a2 a3 h) hq
theorem dX12_offset_0 : decode cX12_offset 0 = .ok (.iload_n 1, 1) := by decide +kernel
theorem dX12_offset_1 : decode cX12_offset 1 = .ok (.iconst 0, 1) := by decide +kernel
theorem dX12_offset_2 : decode cX12_offset 2 = .ok (.sipush 32767, 3) := by decide +kernel
theorem dX12_offset_5 : decode cX12_offset 5 = .ok (.invokestatic 65, 3) := by decide +kernel
theorem dX12_offset_8 : decode cX12_offset 8 = .ok (.ifCond .eq 11, 3) := by decide +kernel
theorem dX12_offset_11 : decode cX12_offset 11 = .ok (.aload_n 0, 1) := by decide +kernel
theorem dX12_offset_12 : decode cX12_offset 12 = .ok (.iload_n 1, 1) := by decide +kernel
theorem dX12_offset_13 : decode cX12_offset 13 = .ok (.invokevirtual 201, 3) := by decide +kernel
theorem dX12_offset_16 : decode cX12_offset 16 = .ok (.goto 5, 3) := by decide +kernel
theorem dX12_offset_19 : decode cX12_offset 19 = .ok (.ldc 73, 2) := by decide +kernel
theorem dX12_offset_21 : decode cX12_offset 21 = .ok (.ireturn, 1) := by decide +kernel
set_option maxRecDepth 20000 in
set_option maxHeartbeats 4000000 in
theorem W_X12_offset (K : xK) (L : xL) (a0 : Nat) (a1 : Int32) (h : xH) : Sim K L cX12_offset RX12 "offset" 2 2 (fun q : Int32 × xH => q.2) (xRi cX12_offset) 0 [(0, .ref a0), (1, .int a1)] [] h (f_X12_offset a0 a1 h) := by
  unfold f_X12_offset
  refine S_iload_n (pc := 0) 1 rfl dX12_offset_0 rfl ?_
  refine S_iconst (pc := 1) dX12_offset_1 ic_0 ?_
  refine S_sipush (pc := 2) dX12_offset_2 si_32767 ?_
  refine S_call_i (pc := 5) (rest := []) (fun q hq => R_S (av := [.int a1, .int (0 : Int32), .int (32767 : Int32)]) (M_X12_in _ a1 (0 : Int32) (32767 : Int32) h hq) wd_902 wd_900 wd_901 wd_50 hd_X12_in ⟨Nat.le_of_ble_eq_true rfl, Nat.le_of_ble_eq_true rfl⟩ rfl (Nat.le_of_ble_eq_true rfl) dX12_offset_5) (fun _ h => absurd h List.not_mem_nil) (fun q1 => ?_)
  refine S_if_eq (pc := 8) (tgt := 19) dX12_offset_8 (by decide) ?_ ?_
  · refine S_ldc (pc := 19) wd_903 dX12_offset_19 ?_
    exact Sim.fin ⟨dX12_offset_21, rfl, rfl⟩ rfl
  · refine S_aload_n (pc := 11) 0 rfl dX12_offset_11 rfl ?_
    refine S_iload_n (pc := 12) 1 rfl dX12_offset_12 rfl ?_
    refine S_call_i (pc := 13) (rest := []) (fun q hq => (x_if hq).elim (fun z => R_V (av := [.int a1]) (q := (RX12, TX12, 28)) (M_X12_offsetOf _ a0 a1 q1.2 z.2) z.1 rfl wd_1076 wd_1073 wd_1075 wd_50 wd_30 ⟨rfl, hd_X12_offsetOf⟩ ⟨Nat.le_of_ble_eq_true rfl, Nat.le_of_ble_eq_true rfl⟩ rfl (Nat.le_of_ble_eq_true rfl) dX12_offset_13) (fun hq => (by cases hq))) (fun _ h => absurd h List.not_mem_nil) (fun q2 => ?_)
    refine S_goto (pc := 16) (tgt := 21) dX12_offset_16 (by decide) ?_
    exact Sim.fin ⟨dX12_offset_21, rfl, rfl⟩ rfl
theorem M_X12_offset (l : Launch) (a0 : Nat) (a1 : Int32) (h : xH) {q : Int32 × xH} (hq : f_X12_offset a0 a1 h = some q) : xM l yX12_offset cX12_offset 2 (some .int) 2 [.ref a0, .int a1] h (some (.int q.1)) q.2 := xM_i (by decide +kernel) (Nat.le_of_ble_eq_true rfl) (fun K L => W_X12_offset K L a0 a1 h) hq
theorem dX12_ones_0 : decode cX12_ones 0 = .ok (.iload_n 1, 1) := by decide +kernel
theorem dX12_ones_1 : decode cX12_ones 1 = .ok (.invokestatic 130, 3) := by decide +kernel
theorem dX12_ones_4 : decode cX12_ones 4 = .ok (.ifCond .eq 11, 3) := by decide +kernel
theorem dX12_ones_7 : decode cX12_ones 7 = .ok (.aload_n 0, 1) := by decide +kernel
theorem dX12_ones_8 : decode cX12_ones 8 = .ok (.iload_n 1, 1) := by decide +kernel
theorem dX12_ones_9 : decode cX12_ones 9 = .ok (.invokevirtual 187, 3) := by decide +kernel
theorem dX12_ones_12 : decode cX12_ones 12 = .ok (.goto 5, 3) := by decide +kernel
theorem dX12_ones_15 : decode cX12_ones 15 = .ok (.ldc 73, 2) := by decide +kernel
theorem dX12_ones_17 : decode cX12_ones 17 = .ok (.ireturn, 1) := by decide +kernel
set_option maxRecDepth 20000 in
set_option maxHeartbeats 4000000 in
theorem W_X12_ones (K : xK) (L : xL) (a0 : Nat) (a1 : Int32) (h : xH) : Sim K L cX12_ones RX12 "ones" 2 3 (fun q : Int32 × xH => q.2) (xRi cX12_ones) 0 [(0, .ref a0), (1, .int a1)] [] h (f_X12_ones a0 a1 h) := by
  unfold f_X12_ones
  refine S_iload_n (pc := 0) 1 rfl dX12_ones_0 rfl ?_
  refine S_call_i (pc := 1) (rest := []) (fun q hq => R_S (av := [.int a1]) (M_X12_isVector _ a1 h hq) wd_947 wd_945 wd_946 wd_50 hd_X12_isVector ⟨Nat.le_of_ble_eq_true rfl, Nat.le_of_ble_eq_true rfl⟩ rfl (Nat.le_of_ble_eq_true rfl) dX12_ones_1) (fun _ h => absurd h List.not_mem_nil) (fun q1 => ?_)
  refine S_if_eq (pc := 4) (tgt := 15) dX12_ones_4 (by decide) ?_ ?_
  · refine S_ldc (pc := 15) wd_903 dX12_ones_15 ?_
    exact Sim.fin ⟨dX12_ones_17, rfl, rfl⟩ rfl
  · refine S_aload_n (pc := 7) 0 rfl dX12_ones_7 rfl ?_
    refine S_iload_n (pc := 8) 1 rfl dX12_ones_8 rfl ?_
    refine S_call_i (pc := 9) (rest := []) (fun q hq => (x_if hq).elim (fun z => R_V (av := [.int a1]) (q := (RX12, TX12, 28)) (M_X12_allOnes _ a0 a1 q1.2 z.2) z.1 rfl wd_1034 wd_1031 wd_1033 wd_50 wd_29 ⟨rfl, hd_X12_allOnes⟩ ⟨Nat.le_of_ble_eq_true rfl, Nat.le_of_ble_eq_true rfl⟩ rfl (Nat.le_of_ble_eq_true rfl) dX12_ones_9) (fun hq => (by cases hq))) (fun _ h => absurd h List.not_mem_nil) (fun q2 => ?_)
    refine S_goto (pc := 12) (tgt := 17) dX12_ones_12 (by decide) ?_
    exact Sim.fin ⟨dX12_ones_17, rfl, rfl⟩ rfl
theorem M_X12_ones (l : Launch) (a0 : Nat) (a1 : Int32) (h : xH) {q : Int32 × xH} (hq : f_X12_ones a0 a1 h = some q) : xM l yX12_ones cX12_ones 2 (some .int) 3 [.ref a0, .int a1] h (some (.int q.1)) q.2 := xM_i (by decide +kernel) (Nat.le_of_ble_eq_true rfl) (fun K L => W_X12_ones K L a0 a1 h) hq
theorem dX12_payload_0 : decode cX12_payload 0 = .ok (.iload_n 1, 1) := by decide +kernel
theorem dX12_payload_1 : decode cX12_payload 1 = .ok (.invokestatic 130, 3) := by decide +kernel
theorem dX12_payload_4 : decode cX12_payload 4 = .ok (.ifCond .eq 13, 3) := by decide +kernel
theorem dX12_payload_7 : decode cX12_payload 7 = .ok (.iload_n 2, 1) := by decide +kernel
theorem dX12_payload_8 : decode cX12_payload 8 = .ok (.iconst 0, 1) := by decide +kernel
theorem dX12_payload_9 : decode cX12_payload 9 = .ok (.bipush 6, 2) := by decide +kernel
theorem dX12_payload_11 : decode cX12_payload 11 = .ok (.invokestatic 65, 3) := by decide +kernel
theorem dX12_payload_14 : decode cX12_payload 14 = .ok (.ifCond .ne 7, 3) := by decide +kernel
theorem dX12_payload_17 : decode cX12_payload 17 = .ok (.ldc2_w 207, 3) := by decide +kernel
theorem dX12_payload_20 : decode cX12_payload 20 = .ok (.lreturn, 1) := by decide +kernel
theorem dX12_payload_21 : decode cX12_payload 21 = .ok (.lconst 0, 1) := by decide +kernel
theorem dX12_payload_22 : decode cX12_payload 22 = .ok (.lstore_n 3, 1) := by decide +kernel
theorem dX12_payload_23 : decode cX12_payload 23 = .ok (.iconst 0, 1) := by decide +kernel
theorem dX12_payload_24 : decode cX12_payload 24 = .ok (.istore 5, 2) := by decide +kernel
theorem dX12_payload_26 : decode cX12_payload 26 = .ok (.iconst 0, 1) := by decide +kernel
theorem dX12_payload_27 : decode cX12_payload 27 = .ok (.istore 6, 2) := by decide +kernel
theorem dX12_payload_29 : decode cX12_payload 29 = .ok (.iload 6, 2) := by decide +kernel
theorem dX12_payload_31 : decode cX12_payload 31 = .ok (.aload_n 0, 1) := by decide +kernel
theorem dX12_payload_32 : decode cX12_payload 32 = .ok (.getfield 25, 3) := by decide +kernel
theorem dX12_payload_35 : decode cX12_payload 35 = .ok (.iload_n 1, 1) := by decide +kernel
theorem dX12_payload_36 : decode cX12_payload 36 = .ok (.invokestatic 197, 3) := by decide +kernel
theorem dX12_payload_39 : decode cX12_payload 39 = .ok (.if_icmp .ge 103, 3) := by decide +kernel
theorem dX12_payload_42 : decode cX12_payload 42 = .ok (.aload_n 0, 1) := by decide +kernel
theorem dX12_payload_43 : decode cX12_payload 43 = .ok (.getfield 25, 3) := by decide +kernel
theorem dX12_payload_46 : decode cX12_payload 46 = .ok (.bipush 33, 2) := by decide +kernel
theorem dX12_payload_48 : decode cX12_payload 48 = .ok (.iload_n 1, 1) := by decide +kernel
theorem dX12_payload_49 : decode cX12_payload 49 = .ok (.imul, 1) := by decide +kernel
theorem dX12_payload_50 : decode cX12_payload 50 = .ok (.iconst 1, 1) := by decide +kernel
theorem dX12_payload_51 : decode cX12_payload 51 = .ok (.iadd, 1) := by decide +kernel
theorem dX12_payload_52 : decode cX12_payload 52 = .ok (.iload 6, 2) := by decide +kernel
theorem dX12_payload_54 : decode cX12_payload 54 = .ok (.iadd, 1) := by decide +kernel
theorem dX12_payload_55 : decode cX12_payload 55 = .ok (.iaload, 1) := by decide +kernel
theorem dX12_payload_56 : decode cX12_payload 56 = .ok (.istore 7, 2) := by decide +kernel
theorem dX12_payload_58 : decode cX12_payload 58 = .ok (.aload_n 0, 1) := by decide +kernel
theorem dX12_payload_59 : decode cX12_payload 59 = .ok (.iload 7, 2) := by decide +kernel
theorem dX12_payload_61 : decode cX12_payload 61 = .ok (.invokevirtual 201, 3) := by decide +kernel
theorem dX12_payload_64 : decode cX12_payload 64 = .ok (.i2l, 1) := by decide +kernel
theorem dX12_payload_65 : decode cX12_payload 65 = .ok (.lstore 8, 2) := by decide +kernel
theorem dX12_payload_67 : decode cX12_payload 67 = .ok (.aload_n 0, 1) := by decide +kernel
theorem dX12_payload_68 : decode cX12_payload 68 = .ok (.iload 7, 2) := by decide +kernel
theorem dX12_payload_70 : decode cX12_payload 70 = .ok (.invokestatic 191, 3) := by decide +kernel
theorem dX12_payload_73 : decode cX12_payload 73 = .ok (.invokevirtual 194, 3) := by decide +kernel
theorem dX12_payload_76 : decode cX12_payload 76 = .ok (.istore 10, 2) := by decide +kernel
theorem dX12_payload_78 : decode cX12_payload 78 = .ok (.iconst 0, 1) := by decide +kernel
theorem dX12_payload_79 : decode cX12_payload 79 = .ok (.istore 11, 2) := by decide +kernel
theorem dX12_payload_81 : decode cX12_payload 81 = .ok (.iload 11, 2) := by decide +kernel
theorem dX12_payload_83 : decode cX12_payload 83 = .ok (.iload 10, 2) := by decide +kernel
theorem dX12_payload_85 : decode cX12_payload 85 = .ok (.if_icmp .ge 44, 3) := by decide +kernel
theorem dX12_payload_88 : decode cX12_payload 88 = .ok (.lload_n 3, 1) := by decide +kernel
theorem dX12_payload_89 : decode cX12_payload 89 = .ok (.iload 5, 2) := by decide +kernel
theorem dX12_payload_91 : decode cX12_payload 91 = .ok (.iload 11, 2) := by decide +kernel
theorem dX12_payload_93 : decode cX12_payload 93 = .ok (.iadd, 1) := by decide +kernel
theorem dX12_payload_94 : decode cX12_payload 94 = .ok (.bipush 64, 2) := by decide +kernel
theorem dX12_payload_96 : decode cX12_payload 96 = .ok (.idiv, 1) := by decide +kernel
theorem dX12_payload_97 : decode cX12_payload 97 = .ok (.iload_n 2, 1) := by decide +kernel
theorem dX12_payload_98 : decode cX12_payload 98 = .ok (.if_icmp .ne 22, 3) := by decide +kernel
theorem dX12_payload_101 : decode cX12_payload 101 = .ok (.lload 8, 2) := by decide +kernel
theorem dX12_payload_103 : decode cX12_payload 103 = .ok (.iload 11, 2) := by decide +kernel
theorem dX12_payload_105 : decode cX12_payload 105 = .ok (.lshr, 1) := by decide +kernel
theorem dX12_payload_106 : decode cX12_payload 106 = .ok (.lconst 1, 1) := by decide +kernel
theorem dX12_payload_107 : decode cX12_payload 107 = .ok (.land, 1) := by decide +kernel
theorem dX12_payload_108 : decode cX12_payload 108 = .ok (.iload 5, 2) := by decide +kernel
theorem dX12_payload_110 : decode cX12_payload 110 = .ok (.iload 11, 2) := by decide +kernel
theorem dX12_payload_112 : decode cX12_payload 112 = .ok (.iadd, 1) := by decide +kernel
theorem dX12_payload_113 : decode cX12_payload 113 = .ok (.bipush 64, 2) := by decide +kernel
theorem dX12_payload_115 : decode cX12_payload 115 = .ok (.irem, 1) := by decide +kernel
theorem dX12_payload_116 : decode cX12_payload 116 = .ok (.lshl, 1) := by decide +kernel
theorem dX12_payload_117 : decode cX12_payload 117 = .ok (.goto 4, 3) := by decide +kernel
theorem dX12_payload_120 : decode cX12_payload 120 = .ok (.lconst 0, 1) := by decide +kernel
theorem dX12_payload_121 : decode cX12_payload 121 = .ok (.lor, 1) := by decide +kernel
theorem dX12_payload_122 : decode cX12_payload 122 = .ok (.lstore_n 3, 1) := by decide +kernel
theorem dX12_payload_123 : decode cX12_payload 123 = .ok (.iinc 11 1, 3) := by decide +kernel
theorem dX12_payload_126 : decode cX12_payload 126 = .ok (.goto (-45), 3) := by decide +kernel
theorem dX12_payload_129 : decode cX12_payload 129 = .ok (.iload 5, 2) := by decide +kernel
theorem dX12_payload_131 : decode cX12_payload 131 = .ok (.iload 10, 2) := by decide +kernel
theorem dX12_payload_133 : decode cX12_payload 133 = .ok (.iadd, 1) := by decide +kernel
theorem dX12_payload_134 : decode cX12_payload 134 = .ok (.istore 5, 2) := by decide +kernel
theorem dX12_payload_136 : decode cX12_payload 136 = .ok (.iinc 6 1, 3) := by decide +kernel
theorem dX12_payload_139 : decode cX12_payload 139 = .ok (.goto (-110), 3) := by decide +kernel
theorem dX12_payload_142 : decode cX12_payload 142 = .ok (.lload_n 3, 1) := by decide +kernel
theorem dX12_payload_143 : decode cX12_payload 143 = .ok (.lreturn, 1) := by decide +kernel
set_option maxRecDepth 20000 in
set_option maxHeartbeats 4000000 in
theorem L_X12_payload_81 (K : xK) (L : xL) : ∀ (n : Nat) (a0 : Nat) (a1 : Int32) (a2 : Int32) (a3 : Int64) (a5 : Int32) (a6 : Int32) (a8 : Int64) (a10 : Int32) (a11 : Int32) (h : xH), Sim K L cX12_payload RX12 "payload" 12 2 (fun q : Int64 × Int32 × xH => q.2.2) (fun q pc' ls' st' h' => pc' = 129 ∧ ls' = [(0, .ref a0), (1, .int a1), (2, .int a2), (3, .long q.1), (5, .int a5), (6, .int a6), (8, .long a8), (10, .int a10), (11, .int q.2.1)] ∧ st' = [] ∧ h' = q.2.2) 81 [(0, .ref a0), (1, .int a1), (2, .int a2), (3, .long a3), (5, .int a5), (6, .int a6), (8, .long a8), (10, .int a10), (11, .int a11)] [] h (f_X12_payload_L81 n a0 a1 a2 a3 a5 a6 a8 a10 a11 h) := by
  intro n
  induction n with
  | zero =>
    intro a0 a1 a2 a3 a5 a6 a8 a10 a11 h
    exact Sim.none
  | succ n ih =>
    intro a0 a1 a2 a3 a5 a6 a8 a10 a11 h
    unfold f_X12_payload_L81
    refine S_iload (pc := 81) 8 rfl dX12_payload_81 ?_
    refine S_iload (pc := 83) 7 rfl dX12_payload_83 ?_
    refine S_icmp_ge (pc := 85) (tgt := 129) dX12_payload_85 (by decide) ?_ ?_
    · refine S_sub [0, 1, 2, 3, 4, 5, 6, 7, 8] rfl ?_
      exact Sim.fin ⟨rfl, rfl, rfl, rfl⟩ rfl
    · refine S_lload_n (pc := 88) 3 rfl dX12_payload_88 rfl ?_
      refine S_iload (pc := 89) 4 rfl dX12_payload_89 ?_
      refine S_iload (pc := 91) 8 rfl dX12_payload_91 ?_
      refine S_iadd (pc := 93) dX12_payload_93 ?_
      refine S_bipush (pc := 94) dX12_payload_94 bi_64 ?_
      refine S_idiv (pc := 96) (by decide) dX12_payload_96 ?_
      refine S_iload_n (pc := 97) 2 rfl dX12_payload_97 rfl ?_
      refine S_icmp_ne (pc := 98) (tgt := 120) dX12_payload_98 (by decide) ?_ ?_
      · refine S_lload (pc := 101) 6 rfl dX12_payload_101 ?_
        refine S_iload (pc := 103) 8 rfl dX12_payload_103 ?_
        refine S_lshr (pc := 105) dX12_payload_105 ?_
        refine S_lconst (pc := 106) dX12_payload_106 lc_1 ?_
        refine S_land (pc := 107) dX12_payload_107 ?_
        refine S_iload (pc := 108) 4 rfl dX12_payload_108 ?_
        refine S_iload (pc := 110) 8 rfl dX12_payload_110 ?_
        refine S_iadd (pc := 112) dX12_payload_112 ?_
        refine S_bipush (pc := 113) dX12_payload_113 bi_64 ?_
        refine S_irem (pc := 115) (by decide) dX12_payload_115 ?_
        refine S_lshl (pc := 116) dX12_payload_116 ?_
        refine S_goto (pc := 117) (tgt := 121) dX12_payload_117 (by decide) ?_
        refine S_lor (pc := 121) dX12_payload_121 ?_
        refine S_lstore_n (pc := 122) dX12_payload_122 rfl (Nat.le_of_ble_eq_true rfl) rfl ?_
        refine S_iinc (pc := 123) (v := a11 + (1 : Int32)) 8 rfl dX12_payload_123 (x_inc ic_1) (Nat.le_of_ble_eq_true rfl) rfl ?_
        refine S_goto (pc := 126) (tgt := 81) dX12_payload_126 (by decide) ?_
        refine S_sub [2, 3, 4, 1, 5, 6, 7, 8, 0] rfl ?_
        exact ih a0 a1 a2 (a3 ||| (((a8 >>> (a11.toInt64 &&& 63)) &&& (1 : Int64)) <<< (((a5 + a11) - (a5 + a11) / (64 : Int32) * (64 : Int32)).toInt64 &&& 63))) a5 a6 a8 a10 (a11 + (1 : Int32)) h
      · refine S_lconst (pc := 120) dX12_payload_120 lc_0 ?_
        refine S_lor (pc := 121) dX12_payload_121 ?_
        refine S_lstore_n (pc := 122) dX12_payload_122 rfl (Nat.le_of_ble_eq_true rfl) rfl ?_
        refine S_iinc (pc := 123) (v := a11 + (1 : Int32)) 8 rfl dX12_payload_123 (x_inc ic_1) (Nat.le_of_ble_eq_true rfl) rfl ?_
        refine S_goto (pc := 126) (tgt := 81) dX12_payload_126 (by decide) ?_
        refine S_sub [2, 3, 4, 1, 5, 6, 7, 8, 0] rfl ?_
        exact ih a0 a1 a2 (a3 ||| (0 : Int64)) a5 a6 a8 a10 (a11 + (1 : Int32)) h
set_option maxRecDepth 20000 in
set_option maxHeartbeats 4000000 in
theorem L_X12_payload_29 (K : xK) (L : xL) : ∀ (n : Nat) (a0 : Nat) (a1 : Int32) (a2 : Int32) (a3 : Int64) (a5 : Int32) (a6 : Int32) (h : xH), Sim K L cX12_payload RX12 "payload" 12 2 (fun q : Int64 × Int32 × Int32 × xH => q.2.2.2) (fun q pc' ls' st' h' => pc' = 142 ∧ ls' = [(0, .ref a0), (1, .int a1), (2, .int a2), (3, .long q.1), (5, .int q.2.1), (6, .int q.2.2.1)] ∧ st' = [] ∧ h' = q.2.2.2) 29 [(0, .ref a0), (1, .int a1), (2, .int a2), (3, .long a3), (5, .int a5), (6, .int a6)] [] h (f_X12_payload_L29 n a0 a1 a2 a3 a5 a6 h) := by
  intro n
  induction n with
  | zero =>
    intro a0 a1 a2 a3 a5 a6 h
    exact Sim.none
  | succ n ih =>
    intro a0 a1 a2 a3 a5 a6 h
    unfold f_X12_payload_L29
    refine S_iload (pc := 29) 5 rfl dX12_payload_29 ?_
    refine S_aload_n (pc := 31) 0 rfl dX12_payload_31 rfl ?_
    refine S_getR (pc := 32) fd_X12_now wd_821 dX12_payload_32 (fun v3 => ?_)
    refine S_iload_n (pc := 35) 1 rfl dX12_payload_35 rfl ?_
    refine S_call_i (pc := 36) (rest := [.int a6]) (fun q hq => R_S (av := [.ref v3, .int a1]) (M_X12_blocks _ v3 a1 h hq) wd_1069 wd_1067 wd_1068 wd_50 hd_X12_blocks ⟨Nat.le_of_ble_eq_true rfl, Nat.le_of_ble_eq_true rfl⟩ rfl (Nat.le_of_ble_eq_true rfl) dX12_payload_36) (fun _ h => List.mem_cons_of_mem _ (List.mem_cons_of_mem _ (h))) (fun q4 => ?_)
    refine S_icmp_ge (pc := 39) (tgt := 142) dX12_payload_39 (by decide) ?_ ?_
    · refine S_sub [0, 1, 2, 3, 4, 5] rfl ?_
      exact Sim.fin ⟨rfl, rfl, rfl, rfl⟩ rfl
    · refine S_aload_n (pc := 42) 0 rfl dX12_payload_42 rfl ?_
      refine S_getR (pc := 43) fd_X12_now wd_821 dX12_payload_43 (fun v5 => ?_)
      refine S_bipush (pc := 46) dX12_payload_46 bi_33 ?_
      refine S_iload_n (pc := 48) 1 rfl dX12_payload_48 rfl ?_
      refine S_imul (pc := 49) dX12_payload_49 ?_
      refine S_iconst (pc := 50) dX12_payload_50 ic_1 ?_
      refine S_iadd (pc := 51) dX12_payload_51 ?_
      refine S_iload (pc := 52) 5 rfl dX12_payload_52 ?_
      refine S_iadd (pc := 54) dX12_payload_54 ?_
      refine S_aI (pc := 55) dX12_payload_55 (fun v6 => ?_)
      refine S_istore (pc := 56) dX12_payload_56 (Nat.le_of_ble_eq_true rfl) rfl ?_
      refine S_aload_n (pc := 58) 1 rfl dX12_payload_58 rfl ?_
      refine S_iload (pc := 59) 0 rfl dX12_payload_59 ?_
      refine S_call_i (pc := 61) (rest := []) (fun q hq => (x_if hq).elim (fun z => R_V (av := [.int v6]) (q := (RX12, TX12, 28)) (M_X12_offsetOf _ a0 v6 q4.2 z.2) z.1 rfl wd_1076 wd_1073 wd_1075 wd_50 wd_30 ⟨rfl, hd_X12_offsetOf⟩ ⟨Nat.le_of_ble_eq_true rfl, Nat.le_of_ble_eq_true rfl⟩ rfl (Nat.le_of_ble_eq_true rfl) dX12_payload_61) (fun hq => (by cases hq))) (fun _ h => absurd h List.not_mem_nil) (fun q7 => ?_)
      refine S_i2l (pc := 64) dX12_payload_64 ?_
      refine S_lstore (pc := 65) dX12_payload_65 (Nat.le_of_ble_eq_true rfl) rfl ?_
      refine S_aload_n (pc := 67) 2 rfl dX12_payload_67 rfl ?_
      refine S_iload (pc := 68) 1 rfl dX12_payload_68 ?_
      refine S_call_i (pc := 70) (rest := [.ref a0]) (fun q hq => R_S (av := [.int v6]) (M_X12_sortOf _ v6 q7.2 hq) wd_1072 wd_1070 wd_1071 wd_50 hd_X12_sortOf ⟨Nat.le_of_ble_eq_true rfl, Nat.le_of_ble_eq_true rfl⟩ rfl (Nat.le_of_ble_eq_true rfl) dX12_payload_70) (fun _ h => List.mem_cons_of_mem _ (h)) (fun q8 => ?_)
      refine S_call_i (pc := 73) (rest := []) (fun q hq => (x_if hq).elim (fun z => R_V (av := [.int q8.1]) (q := (RX12, TX12, 28)) (M_X12_widthOf _ a0 q8.1 q8.2 z.2) z.1 rfl wd_1080 wd_1077 wd_1079 wd_50 wd_31 ⟨rfl, hd_X12_widthOf⟩ ⟨Nat.le_of_ble_eq_true rfl, Nat.le_of_ble_eq_true rfl⟩ rfl (Nat.le_of_ble_eq_true rfl) dX12_payload_73) (fun hq => (by cases hq))) (fun _ h => absurd h List.not_mem_nil) (fun q9 => ?_)
      refine S_istore (pc := 76) dX12_payload_76 (Nat.le_of_ble_eq_true rfl) rfl ?_
      refine S_iconst (pc := 78) dX12_payload_78 ic_0 ?_
      refine S_istore (pc := 79) dX12_payload_79 (Nat.le_of_ble_eq_true rfl) rfl ?_
      refine S_sub [4, 5, 6, 7, 8, 9, 2, 1, 0] rfl ?_
      refine Sim.bind (hs := fun q10 : Int64 × Int32 × xH => q10.2.2) (px := 129) (lsx := fun q10 => [(0, .ref a0), (1, .int a1), (2, .int a2), (3, .long q10.1), (5, .int a5), (6, .int a6), (8, .long q7.1.toInt64), (10, .int q9.1), (11, .int q10.2.1)]) (L_X12_payload_81 K L xN a0 a1 a2 a3 a5 a6 q7.1.toInt64 q9.1 (0 : Int32) q9.2) (fun q10 => ?_)
      refine S_iload (pc := 129) 4 rfl dX12_payload_129 ?_
      refine S_iload (pc := 131) 7 rfl dX12_payload_131 ?_
      refine S_iadd (pc := 133) dX12_payload_133 ?_
      refine S_istore (pc := 134) dX12_payload_134 (Nat.le_of_ble_eq_true rfl) rfl ?_
      refine S_iinc (pc := 136) (v := a6 + (1 : Int32)) 5 rfl dX12_payload_136 (x_inc ic_1) (Nat.le_of_ble_eq_true rfl) rfl ?_
      refine S_goto (pc := 139) (tgt := 29) dX12_payload_139 (by decide) ?_
      refine S_sub [2, 3, 4, 5, 1, 0] rfl ?_
      exact ih a0 a1 a2 q10.1 (a5 + q9.1) (a6 + (1 : Int32)) q10.2.2
set_option maxRecDepth 20000 in
set_option maxHeartbeats 4000000 in
theorem W_X12_payload (K : xK) (L : xL) (a0 : Nat) (a1 : Int32) (a2 : Int32) (h : xH) : Sim K L cX12_payload RX12 "payload" 12 2 (fun q : Int64 × xH => q.2) (xRl cX12_payload) 0 [(0, .ref a0), (1, .int a1), (2, .int a2)] [] h (f_X12_payload a0 a1 a2 h) := by
  unfold f_X12_payload
  refine S_iload_n (pc := 0) 1 rfl dX12_payload_0 rfl ?_
  refine S_call_i (pc := 1) (rest := []) (fun q hq => R_S (av := [.int a1]) (M_X12_isVector _ a1 h hq) wd_947 wd_945 wd_946 wd_50 hd_X12_isVector ⟨Nat.le_of_ble_eq_true rfl, Nat.le_of_ble_eq_true rfl⟩ rfl (Nat.le_of_ble_eq_true rfl) dX12_payload_1) (fun _ h => absurd h List.not_mem_nil) (fun q1 => ?_)
  refine S_if_eq (pc := 4) (tgt := 17) dX12_payload_4 (by decide) ?_ ?_
  · refine S_ldc2 (pc := 17) wd_1097 dX12_payload_17 ?_
    exact Sim.fin ⟨dX12_payload_20, rfl, rfl⟩ rfl
  · refine S_iload_n (pc := 7) 2 rfl dX12_payload_7 rfl ?_
    refine S_iconst (pc := 8) dX12_payload_8 ic_0 ?_
    refine S_bipush (pc := 9) dX12_payload_9 bi_6 ?_
    refine S_call_i (pc := 11) (rest := []) (fun q hq => R_S (av := [.int a2, .int (0 : Int32), .int (6 : Int32)]) (M_X12_in _ a2 (0 : Int32) (6 : Int32) q1.2 hq) wd_902 wd_900 wd_901 wd_50 hd_X12_in ⟨Nat.le_of_ble_eq_true rfl, Nat.le_of_ble_eq_true rfl⟩ rfl (Nat.le_of_ble_eq_true rfl) dX12_payload_11) (fun _ h => absurd h List.not_mem_nil) (fun q2 => ?_)
    refine S_if_ne (pc := 14) (tgt := 21) dX12_payload_14 (by decide) ?_ ?_
    · refine S_ldc2 (pc := 17) wd_1097 dX12_payload_17 ?_
      exact Sim.fin ⟨dX12_payload_20, rfl, rfl⟩ rfl
    · refine S_lconst (pc := 21) dX12_payload_21 lc_0 ?_
      refine S_lstore_n (pc := 22) dX12_payload_22 rfl (Nat.le_of_ble_eq_true rfl) rfl ?_
      refine S_iconst (pc := 23) dX12_payload_23 ic_0 ?_
      refine S_istore (pc := 24) dX12_payload_24 (Nat.le_of_ble_eq_true rfl) rfl ?_
      refine S_iconst (pc := 26) dX12_payload_26 ic_0 ?_
      refine S_istore (pc := 27) dX12_payload_27 (Nat.le_of_ble_eq_true rfl) rfl ?_
      refine S_sub [3, 4, 5, 2, 1, 0] rfl ?_
      refine Sim.bind (hs := fun q11 : Int64 × Int32 × Int32 × xH => q11.2.2.2) (px := 142) (lsx := fun q11 => [(0, .ref a0), (1, .int a1), (2, .int a2), (3, .long q11.1), (5, .int q11.2.1), (6, .int q11.2.2.1)]) (L_X12_payload_29 K L xN a0 a1 a2 (0 : Int64) (0 : Int32) (0 : Int32) q2.2) (fun q11 => ?_)
      refine S_lload_n (pc := 142) 3 rfl dX12_payload_142 rfl ?_
      exact Sim.fin ⟨dX12_payload_143, rfl, rfl⟩ rfl
theorem M_X12_payload (l : Launch) (a0 : Nat) (a1 : Int32) (a2 : Int32) (h : xH) {q : Int64 × xH} (hq : f_X12_payload a0 a1 a2 h = some q) : xM l yX12_payload cX12_payload 12 (some .long) 2 [.ref a0, .int a1, .int a2] h (some (.long q.1)) q.2 := xM_l (by decide +kernel) (Nat.le_of_ble_eq_true rfl) (fun K L => W_X12_payload K L a0 a1 a2 h) hq
theorem dX12_put_0 : decode cX12_put 0 = .ok (.aload_n 0, 1) := by decide +kernel
theorem dX12_put_1 : decode cX12_put 1 = .ok (.iload_n 1, 1) := by decide +kernel
theorem dX12_put_2 : decode cX12_put 2 = .ok (.iload_n 2, 1) := by decide +kernel
theorem dX12_put_3 : decode cX12_put 3 = .ok (.invokevirtual 180, 3) := by decide +kernel
theorem dX12_put_6 : decode cX12_put 6 = .ok (.ifCond .eq 10, 3) := by decide +kernel
theorem dX12_put_9 : decode cX12_put 9 = .ok (.iload_n 3, 1) := by decide +kernel
theorem dX12_put_10 : decode cX12_put 10 = .ok (.invokestatic 184, 3) := by decide +kernel
theorem dX12_put_13 : decode cX12_put 13 = .ok (.ifCond .ne 6, 3) := by decide +kernel
theorem dX12_put_16 : decode cX12_put 16 = .ok (.ldc 73, 2) := by decide +kernel
theorem dX12_put_18 : decode cX12_put 18 = .ok (.ireturn, 1) := by decide +kernel
theorem dX12_put_19 : decode cX12_put 19 = .ok (.aload_n 0, 1) := by decide +kernel
theorem dX12_put_20 : decode cX12_put 20 = .ok (.invokevirtual 143, 3) := by decide +kernel
theorem dX12_put_23 : decode cX12_put 23 = .ok (.aload_n 0, 1) := by decide +kernel
theorem dX12_put_24 : decode cX12_put 24 = .ok (.getfield 25, 3) := by decide +kernel
theorem dX12_put_27 : decode cX12_put 27 = .ok (.iload_n 1, 1) := by decide +kernel
theorem dX12_put_28 : decode cX12_put 28 = .ok (.iload_n 2, 1) := by decide +kernel
theorem dX12_put_29 : decode cX12_put 29 = .ok (.invokestatic 163, 3) := by decide +kernel
theorem dX12_put_32 : decode cX12_put 32 = .ok (.istore 4, 2) := by decide +kernel
theorem dX12_put_34 : decode cX12_put 34 = .ok (.aload_n 0, 1) := by decide +kernel
theorem dX12_put_35 : decode cX12_put 35 = .ok (.getfield 25, 3) := by decide +kernel
theorem dX12_put_38 : decode cX12_put 38 = .ok (.iload_n 1, 1) := by decide +kernel
theorem dX12_put_39 : decode cX12_put 39 = .ok (.iload_n 2, 1) := by decide +kernel
theorem dX12_put_40 : decode cX12_put 40 = .ok (.iload_n 3, 1) := by decide +kernel
theorem dX12_put_41 : decode cX12_put 41 = .ok (.invokestatic 159, 3) := by decide +kernel
theorem dX12_put_44 : decode cX12_put 44 = .ok (.iload 4, 2) := by decide +kernel
theorem dX12_put_46 : decode cX12_put 46 = .ok (.ireturn, 1) := by decide +kernel
set_option maxRecDepth 20000 in
set_option maxHeartbeats 4000000 in
theorem W_X12_put (K : xK) (L : xL) (a0 : Nat) (a1 : Int32) (a2 : Int32) (a3 : Int32) (h : xH) : Sim K L cX12_put RX12 "put" 5 3 (fun q : Int32 × xH => q.2) (xRi cX12_put) 0 [(0, .ref a0), (1, .int a1), (2, .int a2), (3, .int a3)] [] h (f_X12_put a0 a1 a2 a3 h) := by
  unfold f_X12_put
  refine S_aload_n (pc := 0) 0 rfl dX12_put_0 rfl ?_
  refine S_iload_n (pc := 1) 1 rfl dX12_put_1 rfl ?_
  refine S_iload_n (pc := 2) 2 rfl dX12_put_2 rfl ?_
  refine S_call_i (pc := 3) (rest := []) (fun q hq => (x_if hq).elim (fun z => R_V (av := [.int a1, .int a2]) (q := (RX12, TX12, 28)) (M_X12_isBit _ a0 a1 a2 h z.2) z.1 rfl wd_1008 wd_1005 wd_1007 wd_50 wd_27 ⟨rfl, hd_X12_isBit⟩ ⟨Nat.le_of_ble_eq_true rfl, Nat.le_of_ble_eq_true rfl⟩ rfl (Nat.le_of_ble_eq_true rfl) dX12_put_3) (fun hq => (by cases hq))) (fun _ h => absurd h List.not_mem_nil) (fun q1 => ?_)
  refine S_if_eq (pc := 6) (tgt := 16) dX12_put_6 (by decide) ?_ ?_
  · refine S_ldc (pc := 16) wd_903 dX12_put_16 ?_
    exact Sim.fin ⟨dX12_put_18, rfl, rfl⟩ rfl
  · refine S_iload_n (pc := 9) 3 rfl dX12_put_9 rfl ?_
    refine S_call_i (pc := 10) (rest := []) (fun q hq => R_S (av := [.int a3]) (M_X12_isValue _ a3 q1.2 hq) wd_1015 wd_1013 wd_1014 wd_50 hd_X12_isValue ⟨Nat.le_of_ble_eq_true rfl, Nat.le_of_ble_eq_true rfl⟩ rfl (Nat.le_of_ble_eq_true rfl) dX12_put_10) (fun _ h => absurd h List.not_mem_nil) (fun q2 => ?_)
    refine S_if_ne (pc := 13) (tgt := 19) dX12_put_13 (by decide) ?_ ?_
    · refine S_ldc (pc := 16) wd_903 dX12_put_16 ?_
      exact Sim.fin ⟨dX12_put_18, rfl, rfl⟩ rfl
    · refine S_aload_n (pc := 19) 0 rfl dX12_put_19 rfl ?_
      refine S_call_v (pc := 20) (rest := []) (fun q hq => (x_if hq).elim (fun z => R_V (av := []) (q := (RX12, TX12, 28)) (M_X12_notes _ a0 q2.2 z.2) z.1 rfl wd_979 wd_976 wd_978 wd_50 wd_24 ⟨rfl, hd_X12_notes⟩ ⟨Nat.le_of_ble_eq_true rfl, Nat.le_of_ble_eq_true rfl⟩ rfl (Nat.le_of_ble_eq_true rfl) dX12_put_20) (fun hq => (by cases hq))) (fun _ h => absurd h List.not_mem_nil) (fun q3 => ?_)
      refine S_aload_n (pc := 23) 0 rfl dX12_put_23 rfl ?_
      refine S_getR (pc := 24) fd_X12_now wd_821 dX12_put_24 (fun v4 => ?_)
      refine S_iload_n (pc := 27) 1 rfl dX12_put_27 rfl ?_
      refine S_iload_n (pc := 28) 2 rfl dX12_put_28 rfl ?_
      refine S_call_i (pc := 29) (rest := []) (fun q hq => R_S (av := [.ref v4, .int a1, .int a2]) (M_X12_bit _ v4 a1 a2 q3 hq) wd_1018 wd_1016 wd_1017 wd_50 hd_X12_bit ⟨Nat.le_of_ble_eq_true rfl, Nat.le_of_ble_eq_true rfl⟩ rfl (Nat.le_of_ble_eq_true rfl) dX12_put_29) (fun _ h => absurd h List.not_mem_nil) (fun q5 => ?_)
      refine S_istore (pc := 32) dX12_put_32 (Nat.le_of_ble_eq_true rfl) rfl ?_
      refine S_aload_n (pc := 34) 1 rfl dX12_put_34 rfl ?_
      refine S_getR (pc := 35) fd_X12_now wd_821 dX12_put_35 (fun v6 => ?_)
      refine S_iload_n (pc := 38) 2 rfl dX12_put_38 rfl ?_
      refine S_iload_n (pc := 39) 3 rfl dX12_put_39 rfl ?_
      refine S_iload_n (pc := 40) 4 rfl dX12_put_40 rfl ?_
      refine S_call_v (pc := 41) (rest := []) (fun q hq => R_S (av := [.ref v6, .int a1, .int a2, .int a3]) (M_X12_puts _ v6 a1 a2 a3 q5.2 hq) wd_996 wd_994 wd_995 wd_50 hd_X12_puts ⟨Nat.le_of_ble_eq_true rfl, Nat.le_of_ble_eq_true rfl⟩ rfl (Nat.le_of_ble_eq_true rfl) dX12_put_41) (fun _ h => absurd h List.not_mem_nil) (fun q7 => ?_)
      refine S_iload (pc := 44) 0 rfl dX12_put_44 ?_
      exact Sim.fin ⟨dX12_put_46, rfl, rfl⟩ rfl
theorem M_X12_put (l : Launch) (a0 : Nat) (a1 : Int32) (a2 : Int32) (a3 : Int32) (h : xH) {q : Int32 × xH} (hq : f_X12_put a0 a1 a2 a3 h = some q) : xM l yX12_put cX12_put 5 (some .int) 3 [.ref a0, .int a1, .int a2, .int a3] h (some (.int q.1)) q.2 := xM_i (by decide +kernel) (Nat.le_of_ble_eq_true rfl) (fun K L => W_X12_put K L a0 a1 a2 a3 h) hq
theorem dX12_rank_0 : decode cX12_rank 0 = .ok (.aload_n 0, 1) := by decide +kernel
theorem dX12_rank_1 : decode cX12_rank 1 = .ok (.iload_n 1, 1) := by decide +kernel
theorem dX12_rank_2 : decode cX12_rank 2 = .ok (.iload_n 2, 1) := by decide +kernel
theorem dX12_rank_3 : decode cX12_rank 3 = .ok (.invokevirtual 209, 3) := by decide +kernel
theorem dX12_rank_6 : decode cX12_rank 6 = .ok (.ifCond .eq 10, 3) := by decide +kernel
theorem dX12_rank_9 : decode cX12_rank 9 = .ok (.iload_n 3, 1) := by decide +kernel
theorem dX12_rank_10 : decode cX12_rank 10 = .ok (.invokestatic 184, 3) := by decide +kernel
theorem dX12_rank_13 : decode cX12_rank 13 = .ok (.ifCond .ne 6, 3) := by decide +kernel
theorem dX12_rank_16 : decode cX12_rank 16 = .ok (.ldc 73, 2) := by decide +kernel
theorem dX12_rank_18 : decode cX12_rank 18 = .ok (.ireturn, 1) := by decide +kernel
theorem dX12_rank_19 : decode cX12_rank 19 = .ok (.aload_n 0, 1) := by decide +kernel
theorem dX12_rank_20 : decode cX12_rank 20 = .ok (.getfield 25, 3) := by decide +kernel
theorem dX12_rank_23 : decode cX12_rank 23 = .ok (.iload_n 1, 1) := by decide +kernel
theorem dX12_rank_24 : decode cX12_rank 24 = .ok (.iload_n 2, 1) := by decide +kernel
theorem dX12_rank_25 : decode cX12_rank 25 = .ok (.invokestatic 170, 3) := by decide +kernel
theorem dX12_rank_28 : decode cX12_rank 28 = .ok (.istore 4, 2) := by decide +kernel
theorem dX12_rank_30 : decode cX12_rank 30 = .ok (.iload_n 3, 1) := by decide +kernel
theorem dX12_rank_31 : decode cX12_rank 31 = .ok (.iconst 1, 1) := by decide +kernel
theorem dX12_rank_32 : decode cX12_rank 32 = .ok (.if_icmp .ne 8, 3) := by decide +kernel
theorem dX12_rank_35 : decode cX12_rank 35 = .ok (.iload 4, 2) := by decide +kernel
theorem dX12_rank_37 : decode cX12_rank 37 = .ok (.goto 7, 3) := by decide +kernel
theorem dX12_rank_40 : decode cX12_rank 40 = .ok (.iload_n 2, 1) := by decide +kernel
theorem dX12_rank_41 : decode cX12_rank 41 = .ok (.iload 4, 2) := by decide +kernel
theorem dX12_rank_43 : decode cX12_rank 43 = .ok (.isub, 1) := by decide +kernel
theorem dX12_rank_44 : decode cX12_rank 44 = .ok (.ireturn, 1) := by decide +kernel
set_option maxRecDepth 20000 in
set_option maxHeartbeats 4000000 in
theorem W_X12_rank (K : xK) (L : xL) (a0 : Nat) (a1 : Int32) (a2 : Int32) (a3 : Int32) (h : xH) : Sim K L cX12_rank RX12 "rank" 5 3 (fun q : Int32 × xH => q.2) (xRi cX12_rank) 0 [(0, .ref a0), (1, .int a1), (2, .int a2), (3, .int a3)] [] h (f_X12_rank a0 a1 a2 a3 h) := by
  unfold f_X12_rank
  refine S_aload_n (pc := 0) 0 rfl dX12_rank_0 rfl ?_
  refine S_iload_n (pc := 1) 1 rfl dX12_rank_1 rfl ?_
  refine S_iload_n (pc := 2) 2 rfl dX12_rank_2 rfl ?_
  refine S_call_i (pc := 3) (rest := []) (fun q hq => (x_if hq).elim (fun z => R_V (av := [.int a1, .int a2]) (q := (RX12, TX12, 28)) (M_X12_isPlace _ a0 a1 a2 h z.2) z.1 rfl wd_1117 wd_1114 wd_1116 wd_50 wd_33 ⟨rfl, hd_X12_isPlace⟩ ⟨Nat.le_of_ble_eq_true rfl, Nat.le_of_ble_eq_true rfl⟩ rfl (Nat.le_of_ble_eq_true rfl) dX12_rank_3) (fun hq => (by cases hq))) (fun _ h => absurd h List.not_mem_nil) (fun q1 => ?_)
  refine S_if_eq (pc := 6) (tgt := 16) dX12_rank_6 (by decide) ?_ ?_
  · refine S_ldc (pc := 16) wd_903 dX12_rank_16 ?_
    exact Sim.fin ⟨dX12_rank_18, rfl, rfl⟩ rfl
  · refine S_iload_n (pc := 9) 3 rfl dX12_rank_9 rfl ?_
    refine S_call_i (pc := 10) (rest := []) (fun q hq => R_S (av := [.int a3]) (M_X12_isValue _ a3 q1.2 hq) wd_1015 wd_1013 wd_1014 wd_50 hd_X12_isValue ⟨Nat.le_of_ble_eq_true rfl, Nat.le_of_ble_eq_true rfl⟩ rfl (Nat.le_of_ble_eq_true rfl) dX12_rank_10) (fun _ h => absurd h List.not_mem_nil) (fun q2 => ?_)
    refine S_if_ne (pc := 13) (tgt := 19) dX12_rank_13 (by decide) ?_ ?_
    · refine S_ldc (pc := 16) wd_903 dX12_rank_16 ?_
      exact Sim.fin ⟨dX12_rank_18, rfl, rfl⟩ rfl
    · refine S_aload_n (pc := 19) 0 rfl dX12_rank_19 rfl ?_
      refine S_getR (pc := 20) fd_X12_now wd_821 dX12_rank_20 (fun v3 => ?_)
      refine S_iload_n (pc := 23) 1 rfl dX12_rank_23 rfl ?_
      refine S_iload_n (pc := 24) 2 rfl dX12_rank_24 rfl ?_
      refine S_call_i (pc := 25) (rest := []) (fun q hq => R_S (av := [.ref v3, .int a1, .int a2]) (M_X12_onesAhead _ v3 a1 a2 q2.2 hq) wd_1037 wd_1035 wd_1036 wd_50 hd_X12_onesAhead ⟨Nat.le_of_ble_eq_true rfl, Nat.le_of_ble_eq_true rfl⟩ rfl (Nat.le_of_ble_eq_true rfl) dX12_rank_25) (fun _ h => absurd h List.not_mem_nil) (fun q4 => ?_)
      refine S_istore (pc := 28) dX12_rank_28 (Nat.le_of_ble_eq_true rfl) rfl ?_
      refine S_iload_n (pc := 30) 4 rfl dX12_rank_30 rfl ?_
      refine S_iconst (pc := 31) dX12_rank_31 ic_1 ?_
      refine S_icmp_ne (pc := 32) (tgt := 40) dX12_rank_32 (by decide) ?_ ?_
      · refine S_iload (pc := 35) 0 rfl dX12_rank_35 ?_
        refine S_goto (pc := 37) (tgt := 44) dX12_rank_37 (by decide) ?_
        exact Sim.fin ⟨dX12_rank_44, rfl, rfl⟩ rfl
      · refine S_iload_n (pc := 40) 3 rfl dX12_rank_40 rfl ?_
        refine S_iload (pc := 41) 0 rfl dX12_rank_41 ?_
        refine S_isub (pc := 43) dX12_rank_43 ?_
        exact Sim.fin ⟨dX12_rank_44, rfl, rfl⟩ rfl
theorem M_X12_rank (l : Launch) (a0 : Nat) (a1 : Int32) (a2 : Int32) (a3 : Int32) (h : xH) {q : Int32 × xH} (hq : f_X12_rank a0 a1 a2 a3 h = some q) : xM l yX12_rank cX12_rank 5 (some .int) 3 [.ref a0, .int a1, .int a2, .int a3] h (some (.int q.1)) q.2 := xM_i (by decide +kernel) (Nat.le_of_ble_eq_true rfl) (fun K L => W_X12_rank K L a0 a1 a2 a3 h) hq
theorem dX12_restore_0 : decode cX12_restore 0 = .ok (.iload_n 1, 1) := by decide +kernel
theorem dX12_restore_1 : decode cX12_restore 1 = .ok (.iconst 0, 1) := by decide +kernel
theorem dX12_restore_2 : decode cX12_restore 2 = .ok (.iconst 1, 1) := by decide +kernel
theorem dX12_restore_3 : decode cX12_restore 3 = .ok (.invokestatic 65, 3) := by decide +kernel
theorem dX12_restore_6 : decode cX12_restore 6 = .ok (.ifCond .ne 6, 3) := by decide +kernel
theorem dX12_restore_9 : decode cX12_restore 9 = .ok (.ldc 73, 2) := by decide +kernel
theorem dX12_restore_11 : decode cX12_restore 11 = .ok (.ireturn, 1) := by decide +kernel
theorem dX12_restore_12 : decode cX12_restore 12 = .ok (.aload_n 0, 1) := by decide +kernel
theorem dX12_restore_13 : decode cX12_restore 13 = .ok (.getfield 37, 3) := by decide +kernel
theorem dX12_restore_16 : decode cX12_restore 16 = .ok (.iload_n 1, 1) := by decide +kernel
theorem dX12_restore_17 : decode cX12_restore 17 = .ok (.baload, 1) := by decide +kernel
theorem dX12_restore_18 : decode cX12_restore 18 = .ok (.ifCond .ne 6, 3) := by decide +kernel
theorem dX12_restore_21 : decode cX12_restore 21 = .ok (.ldc 190, 2) := by decide +kernel
theorem dX12_restore_23 : decode cX12_restore 23 = .ok (.ireturn, 1) := by decide +kernel
theorem dX12_restore_24 : decode cX12_restore 24 = .ok (.aload_n 0, 1) := by decide +kernel
theorem dX12_restore_25 : decode cX12_restore 25 = .ok (.getfield 34, 3) := by decide +kernel
theorem dX12_restore_28 : decode cX12_restore 28 = .ok (.sipush 132, 3) := by decide +kernel
theorem dX12_restore_31 : decode cX12_restore 31 = .ok (.iload_n 1, 1) := by decide +kernel
theorem dX12_restore_32 : decode cX12_restore 32 = .ok (.imul, 1) := by decide +kernel
theorem dX12_restore_33 : decode cX12_restore 33 = .ok (.aload_n 0, 1) := by decide +kernel
theorem dX12_restore_34 : decode cX12_restore 34 = .ok (.getfield 25, 3) := by decide +kernel
theorem dX12_restore_37 : decode cX12_restore 37 = .ok (.iconst 0, 1) := by decide +kernel
theorem dX12_restore_38 : decode cX12_restore 38 = .ok (.invokestatic 176, 3) := by decide +kernel
theorem dX12_restore_41 : decode cX12_restore 41 = .ok (.aload_n 0, 1) := by decide +kernel
theorem dX12_restore_42 : decode cX12_restore 42 = .ok (.iconst 0, 1) := by decide +kernel
theorem dX12_restore_43 : decode cX12_restore 43 = .ok (.putfield 173, 3) := by decide +kernel
theorem dX12_restore_46 : decode cX12_restore 46 = .ok (.aload_n 0, 1) := by decide +kernel
theorem dX12_restore_47 : decode cX12_restore 47 = .ok (.invokevirtual 223, 3) := by decide +kernel
theorem dX12_restore_50 : decode cX12_restore 50 = .ok (.ireturn, 1) := by decide +kernel
set_option maxRecDepth 20000 in
set_option maxHeartbeats 4000000 in
theorem W_X12_restore (K : xK) (L : xL) (a0 : Nat) (a1 : Int32) (h : xH) : Sim K L cX12_restore RX12 "restore" 2 4 (fun q : Int32 × xH => q.2) (xRi cX12_restore) 0 [(0, .ref a0), (1, .int a1)] [] h (f_X12_restore a0 a1 h) := by
  unfold f_X12_restore
  refine S_iload_n (pc := 0) 1 rfl dX12_restore_0 rfl ?_
  refine S_iconst (pc := 1) dX12_restore_1 ic_0 ?_
  refine S_iconst (pc := 2) dX12_restore_2 ic_1 ?_
  refine S_call_i (pc := 3) (rest := []) (fun q hq => R_S (av := [.int a1, .int (0 : Int32), .int (1 : Int32)]) (M_X12_in _ a1 (0 : Int32) (1 : Int32) h hq) wd_902 wd_900 wd_901 wd_50 hd_X12_in ⟨Nat.le_of_ble_eq_true rfl, Nat.le_of_ble_eq_true rfl⟩ rfl (Nat.le_of_ble_eq_true rfl) dX12_restore_3) (fun _ h => absurd h List.not_mem_nil) (fun q1 => ?_)
  refine S_if_ne (pc := 6) (tgt := 12) dX12_restore_6 (by decide) ?_ ?_
  · refine S_ldc (pc := 9) wd_903 dX12_restore_9 ?_
    exact Sim.fin ⟨dX12_restore_11, rfl, rfl⟩ rfl
  · refine S_aload_n (pc := 12) 0 rfl dX12_restore_12 rfl ?_
    refine S_getR (pc := 13) fd_X12_kept wd_826 dX12_restore_13 (fun v2 => ?_)
    refine S_iload_n (pc := 16) 1 rfl dX12_restore_16 rfl ?_
    refine S_aZ (pc := 17) dX12_restore_17 (fun v3 => ?_)
    refine S_if_ne (pc := 18) (tgt := 24) dX12_restore_18 (by decide) ?_ ?_
    · refine S_ldc (pc := 21) wd_1050 dX12_restore_21 ?_
      exact Sim.fin ⟨dX12_restore_23, rfl, rfl⟩ rfl
    · refine S_aload_n (pc := 24) 0 rfl dX12_restore_24 rfl ?_
      refine S_getR (pc := 25) fd_X12_images wd_825 dX12_restore_25 (fun v4 => ?_)
      refine S_sipush (pc := 28) dX12_restore_28 si_132 ?_
      refine S_iload_n (pc := 31) 1 rfl dX12_restore_31 rfl ?_
      refine S_imul (pc := 32) dX12_restore_32 ?_
      refine S_aload_n (pc := 33) 0 rfl dX12_restore_33 rfl ?_
      refine S_getR (pc := 34) fd_X12_now wd_821 dX12_restore_34 (fun v5 => ?_)
      refine S_iconst (pc := 37) dX12_restore_37 ic_0 ?_
      refine S_call_v (pc := 38) (rest := []) (fun q hq => R_S (av := [.ref v4, .int ((132 : Int32) * a1), .ref v5, .int (0 : Int32)]) (M_X12_copies _ v4 ((132 : Int32) * a1) v5 (0 : Int32) q1.2 hq) wd_982 wd_980 wd_981 wd_50 hd_X12_copies ⟨Nat.le_of_ble_eq_true rfl, Nat.le_of_ble_eq_true rfl⟩ rfl (Nat.le_of_ble_eq_true rfl) dX12_restore_38) (fun _ h => absurd h List.not_mem_nil) (fun q6 => ?_)
      refine S_aload_n (pc := 41) 0 rfl dX12_restore_41 rfl ?_
      refine S_iconst (pc := 42) dX12_restore_42 ic_0 ?_
      refine S_putI (pc := 43) fd_X12_acts wd_824 rfl rfl dX12_restore_43 (fun h7 => ?_)
      refine S_aload_n (pc := 46) 0 rfl dX12_restore_46 rfl ?_
      refine S_call_i (pc := 47) (rest := []) (fun q hq => (x_if hq).elim (fun z => R_V (av := []) (q := (RX12, TX12, 28)) (M_X12_onesOfAll _ a0 h7 z.2) z.1 rfl wd_1168 wd_1165 wd_1167 wd_50 wd_34 ⟨rfl, hd_X12_onesOfAll⟩ ⟨Nat.le_of_ble_eq_true rfl, Nat.le_of_ble_eq_true rfl⟩ rfl (Nat.le_of_ble_eq_true rfl) dX12_restore_47) (fun hq => (by cases hq))) (fun _ h => absurd h List.not_mem_nil) (fun q8 => ?_)
      exact Sim.fin ⟨dX12_restore_50, rfl, rfl⟩ rfl
theorem M_X12_restore (l : Launch) (a0 : Nat) (a1 : Int32) (h : xH) {q : Int32 × xH} (hq : f_X12_restore a0 a1 h = some q) : xM l yX12_restore cX12_restore 2 (some .int) 4 [.ref a0, .int a1] h (some (.int q.1)) q.2 := xM_i (by decide +kernel) (Nat.le_of_ble_eq_true rfl) (fun K L => W_X12_restore K L a0 a1 h) hq
theorem dX12_row_0 : decode cX12_row 0 = .ok (.iload_n 1, 1) := by decide +kernel
theorem dX12_row_1 : decode cX12_row 1 = .ok (.invokestatic 69, 3) := by decide +kernel
theorem dX12_row_4 : decode cX12_row 4 = .ok (.ifCond .eq 18, 3) := by decide +kernel
theorem dX12_row_7 : decode cX12_row 7 = .ok (.iload_n 2, 1) := by decide +kernel
theorem dX12_row_8 : decode cX12_row 8 = .ok (.iconst 0, 1) := by decide +kernel
theorem dX12_row_9 : decode cX12_row 9 = .ok (.iconst 2, 1) := by decide +kernel
theorem dX12_row_10 : decode cX12_row 10 = .ok (.invokestatic 65, 3) := by decide +kernel
theorem dX12_row_13 : decode cX12_row 13 = .ok (.ifCond .eq 9, 3) := by decide +kernel
theorem dX12_row_16 : decode cX12_row 16 = .ok (.iload_n 3, 1) := by decide +kernel
theorem dX12_row_17 : decode cX12_row 17 = .ok (.bipush 40, 2) := by decide +kernel
theorem dX12_row_19 : decode cX12_row 19 = .ok (.if_icmp .le 6, 3) := by decide +kernel
theorem dX12_row_22 : decode cX12_row 22 = .ok (.ldc 73, 2) := by decide +kernel
theorem dX12_row_24 : decode cX12_row 24 = .ok (.ireturn, 1) := by decide +kernel
theorem dX12_row_25 : decode cX12_row 25 = .ok (.iload_n 3, 1) := by decide +kernel
theorem dX12_row_26 : decode cX12_row 26 = .ok (.ifCond .ge 9, 3) := by decide +kernel
theorem dX12_row_29 : decode cX12_row 29 = .ok (.aload_n 0, 1) := by decide +kernel
theorem dX12_row_30 : decode cX12_row 30 = .ok (.iconst 4, 1) := by decide +kernel
theorem dX12_row_31 : decode cX12_row 31 = .ok (.invokevirtual 74, 3) := by decide +kernel
theorem dX12_row_34 : decode cX12_row 34 = .ok (.ireturn, 1) := by decide +kernel
theorem dX12_row_35 : decode cX12_row 35 = .ok (.aload_n 0, 1) := by decide +kernel
theorem dX12_row_36 : decode cX12_row 36 = .ok (.getfield 7, 3) := by decide +kernel
theorem dX12_row_39 : decode cX12_row 39 = .ok (.iload_n 1, 1) := by decide +kernel
theorem dX12_row_40 : decode cX12_row 40 = .ok (.iload_n 2, 1) := by decide +kernel
theorem dX12_row_41 : decode cX12_row 41 = .ok (.iastore, 1) := by decide +kernel
theorem dX12_row_42 : decode cX12_row 42 = .ok (.aload_n 0, 1) := by decide +kernel
theorem dX12_row_43 : decode cX12_row 43 = .ok (.getfield 13, 3) := by decide +kernel
theorem dX12_row_46 : decode cX12_row 46 = .ok (.iload_n 1, 1) := by decide +kernel
theorem dX12_row_47 : decode cX12_row 47 = .ok (.iload_n 3, 1) := by decide +kernel
theorem dX12_row_48 : decode cX12_row 48 = .ok (.iastore, 1) := by decide +kernel
theorem dX12_row_49 : decode cX12_row 49 = .ok (.iconst 0, 1) := by decide +kernel
theorem dX12_row_50 : decode cX12_row 50 = .ok (.istore 4, 2) := by decide +kernel
theorem dX12_row_52 : decode cX12_row 52 = .ok (.iload 4, 2) := by decide +kernel
theorem dX12_row_54 : decode cX12_row 54 = .ok (.bipush 40, 2) := by decide +kernel
theorem dX12_row_56 : decode cX12_row 56 = .ok (.if_icmp .ge 22, 3) := by decide +kernel
theorem dX12_row_59 : decode cX12_row 59 = .ok (.aload_n 0, 1) := by decide +kernel
theorem dX12_row_60 : decode cX12_row 60 = .ok (.getfield 16, 3) := by decide +kernel
theorem dX12_row_63 : decode cX12_row 63 = .ok (.bipush 40, 2) := by decide +kernel
theorem dX12_row_65 : decode cX12_row 65 = .ok (.iload_n 1, 1) := by decide +kernel
theorem dX12_row_66 : decode cX12_row 66 = .ok (.imul, 1) := by decide +kernel
theorem dX12_row_67 : decode cX12_row 67 = .ok (.iload 4, 2) := by decide +kernel
theorem dX12_row_69 : decode cX12_row 69 = .ok (.iadd, 1) := by decide +kernel
theorem dX12_row_70 : decode cX12_row 70 = .ok (.iconst 0, 1) := by decide +kernel
theorem dX12_row_71 : decode cX12_row 71 = .ok (.iastore, 1) := by decide +kernel
theorem dX12_row_72 : decode cX12_row 72 = .ok (.iinc 4 1, 3) := by decide +kernel
theorem dX12_row_75 : decode cX12_row 75 = .ok (.goto (-23), 3) := by decide +kernel
theorem dX12_row_78 : decode cX12_row 78 = .ok (.aload_n 0, 1) := by decide +kernel
theorem dX12_row_79 : decode cX12_row 79 = .ok (.iload_n 3, 1) := by decide +kernel
theorem dX12_row_80 : decode cX12_row 80 = .ok (.invokevirtual 78, 3) := by decide +kernel
theorem dX12_row_83 : decode cX12_row 83 = .ok (.ireturn, 1) := by decide +kernel
set_option maxRecDepth 20000 in
set_option maxHeartbeats 4000000 in
theorem L_X12_row_52 (K : xK) (L : xL) : ∀ (n : Nat) (a0 : Nat) (a1 : Int32) (a3 : Int32) (a4 : Int32) (h : xH), Sim K L cX12_row RX12 "row" 5 2 (fun q : Int32 × xH => q.2) (fun q pc' ls' st' h' => pc' = 78 ∧ ls' = [(0, .ref a0), (1, .int a1), (3, .int a3), (4, .int q.1)] ∧ st' = [] ∧ h' = q.2) 52 [(0, .ref a0), (1, .int a1), (3, .int a3), (4, .int a4)] [] h (f_X12_row_L52 n a0 a1 a3 a4 h) := by
  intro n
  induction n with
  | zero =>
    intro a0 a1 a3 a4 h
    exact Sim.none
  | succ n ih =>
    intro a0 a1 a3 a4 h
    unfold f_X12_row_L52
    refine S_iload (pc := 52) 3 rfl dX12_row_52 ?_
    refine S_bipush (pc := 54) dX12_row_54 bi_40 ?_
    refine S_icmp_ge (pc := 56) (tgt := 78) dX12_row_56 (by decide) ?_ ?_
    · refine S_sub [0, 1, 2, 3] rfl ?_
      exact Sim.fin ⟨rfl, rfl, rfl, rfl⟩ rfl
    · refine S_aload_n (pc := 59) 0 rfl dX12_row_59 rfl ?_
      refine S_getR (pc := 60) fd_X12_items wd_810 dX12_row_60 (fun v7 => ?_)
      refine S_bipush (pc := 63) dX12_row_63 bi_40 ?_
      refine S_iload_n (pc := 65) 1 rfl dX12_row_65 rfl ?_
      refine S_imul (pc := 66) dX12_row_66 ?_
      refine S_iload (pc := 67) 3 rfl dX12_row_67 ?_
      refine S_iadd (pc := 69) dX12_row_69 ?_
      refine S_iconst (pc := 70) dX12_row_70 ic_0 ?_
      refine S_uI (pc := 71) dX12_row_71 (fun h8 => ?_)
      refine S_iinc (pc := 72) (v := a4 + (1 : Int32)) 3 rfl dX12_row_72 (x_inc ic_1) (Nat.le_of_ble_eq_true rfl) rfl ?_
      refine S_goto (pc := 75) (tgt := 52) dX12_row_75 (by decide) ?_
      refine S_sub [1, 2, 3, 0] rfl ?_
      exact ih a0 a1 a3 (a4 + (1 : Int32)) h8
set_option maxRecDepth 20000 in
set_option maxHeartbeats 4000000 in
theorem W_X12_row (K : xK) (L : xL) (a0 : Nat) (a1 : Int32) (a2 : Int32) (a3 : Int32) (h : xH) : Sim K L cX12_row RX12 "row" 5 2 (fun q : Int32 × xH => q.2) (xRi cX12_row) 0 [(0, .ref a0), (1, .int a1), (2, .int a2), (3, .int a3)] [] h (f_X12_row a0 a1 a2 a3 h) := by
  unfold f_X12_row
  refine S_iload_n (pc := 0) 1 rfl dX12_row_0 rfl ?_
  refine S_call_i (pc := 1) (rest := []) (fun q hq => R_S (av := [.int a1]) (M_X12_isRow _ a1 h hq) wd_899 wd_897 wd_898 wd_50 hd_X12_isRow ⟨Nat.le_of_ble_eq_true rfl, Nat.le_of_ble_eq_true rfl⟩ rfl (Nat.le_of_ble_eq_true rfl) dX12_row_1) (fun _ h => absurd h List.not_mem_nil) (fun q1 => ?_)
  refine S_if_eq (pc := 4) (tgt := 22) dX12_row_4 (by decide) ?_ ?_
  · refine S_ldc (pc := 22) wd_903 dX12_row_22 ?_
    exact Sim.fin ⟨dX12_row_24, rfl, rfl⟩ rfl
  · refine S_iload_n (pc := 7) 2 rfl dX12_row_7 rfl ?_
    refine S_iconst (pc := 8) dX12_row_8 ic_0 ?_
    refine S_iconst (pc := 9) dX12_row_9 ic_2 ?_
    refine S_call_i (pc := 10) (rest := []) (fun q hq => R_S (av := [.int a2, .int (0 : Int32), .int (2 : Int32)]) (M_X12_in _ a2 (0 : Int32) (2 : Int32) q1.2 hq) wd_902 wd_900 wd_901 wd_50 hd_X12_in ⟨Nat.le_of_ble_eq_true rfl, Nat.le_of_ble_eq_true rfl⟩ rfl (Nat.le_of_ble_eq_true rfl) dX12_row_10) (fun _ h => absurd h List.not_mem_nil) (fun q2 => ?_)
    refine S_if_eq (pc := 13) (tgt := 22) dX12_row_13 (by decide) ?_ ?_
    · refine S_ldc (pc := 22) wd_903 dX12_row_22 ?_
      exact Sim.fin ⟨dX12_row_24, rfl, rfl⟩ rfl
    · refine S_iload_n (pc := 16) 3 rfl dX12_row_16 rfl ?_
      refine S_bipush (pc := 17) dX12_row_17 bi_40 ?_
      refine S_icmp_le (pc := 19) (tgt := 25) dX12_row_19 (by decide) ?_ ?_
      · refine S_iload_n (pc := 25) 3 rfl dX12_row_25 rfl ?_
        refine S_if_ge (pc := 26) (tgt := 35) dX12_row_26 (by decide) ?_ ?_
        · refine S_aload_n (pc := 35) 0 rfl dX12_row_35 rfl ?_
          refine S_getR (pc := 36) fd_X12_lane wd_808 dX12_row_36 (fun v3 => ?_)
          refine S_iload_n (pc := 39) 1 rfl dX12_row_39 rfl ?_
          refine S_iload_n (pc := 40) 2 rfl dX12_row_40 rfl ?_
          refine S_uI (pc := 41) dX12_row_41 (fun h4 => ?_)
          refine S_aload_n (pc := 42) 0 rfl dX12_row_42 rfl ?_
          refine S_getR (pc := 43) fd_X12_many wd_809 dX12_row_43 (fun v5 => ?_)
          refine S_iload_n (pc := 46) 1 rfl dX12_row_46 rfl ?_
          refine S_iload_n (pc := 47) 3 rfl dX12_row_47 rfl ?_
          refine S_uI (pc := 48) dX12_row_48 (fun h6 => ?_)
          refine S_iconst (pc := 49) dX12_row_49 ic_0 ?_
          refine S_istore (pc := 50) dX12_row_50 (Nat.le_of_ble_eq_true rfl) rfl ?_
          refine S_sub [1, 2, 4, 0] rfl ?_
          refine Sim.bind (hs := fun q9 : Int32 × xH => q9.2) (px := 78) (lsx := fun q9 => [(0, .ref a0), (1, .int a1), (3, .int a3), (4, .int q9.1)]) (L_X12_row_52 K L xN a0 a1 a3 (0 : Int32) h6) (fun q9 => ?_)
          refine S_aload_n (pc := 78) 0 rfl dX12_row_78 rfl ?_
          refine S_iload_n (pc := 79) 2 rfl dX12_row_79 rfl ?_
          refine S_call_i (pc := 80) (rest := []) (fun q hq => (x_if hq).elim (fun z => R_V (av := [.int a3]) (q := (RX12, TX12, 28)) (M_X12_well _ a0 a3 q9.2 z.2) z.1 rfl wd_912 wd_909 wd_911 wd_50 wd_15 ⟨rfl, hd_X12_well⟩ ⟨Nat.le_of_ble_eq_true rfl, Nat.le_of_ble_eq_true rfl⟩ rfl (Nat.le_of_ble_eq_true rfl) dX12_row_80) (fun hq => (by cases hq))) (fun _ h => absurd h List.not_mem_nil) (fun q10 => ?_)
          exact Sim.fin ⟨dX12_row_83, rfl, rfl⟩ rfl
        · refine S_aload_n (pc := 29) 0 rfl dX12_row_29 rfl ?_
          refine S_iconst (pc := 30) dX12_row_30 ic_4 ?_
          refine S_call_i (pc := 31) (rest := []) (fun q hq => (x_if hq).elim (fun z => R_V (av := [.int (4 : Int32)]) (q := (RX12, TX12, 28)) (M_X12_found _ a0 (4 : Int32) q2.2 z.2) z.1 rfl wd_907 wd_904 wd_906 wd_50 wd_14 ⟨rfl, hd_X12_found⟩ ⟨Nat.le_of_ble_eq_true rfl, Nat.le_of_ble_eq_true rfl⟩ rfl (Nat.le_of_ble_eq_true rfl) dX12_row_31) (fun hq => (by cases hq))) (fun _ h => absurd h List.not_mem_nil) (fun q11 => ?_)
          exact Sim.fin ⟨dX12_row_34, rfl, rfl⟩ rfl
      · refine S_ldc (pc := 22) wd_903 dX12_row_22 ?_
        exact Sim.fin ⟨dX12_row_24, rfl, rfl⟩ rfl
theorem M_X12_row (l : Launch) (a0 : Nat) (a1 : Int32) (a2 : Int32) (a3 : Int32) (h : xH) {q : Int32 × xH} (hq : f_X12_row a0 a1 a2 a3 h = some q) : xM l yX12_row cX12_row 5 (some .int) 2 [.ref a0, .int a1, .int a2, .int a3] h (some (.int q.1)) q.2 := xM_i (by decide +kernel) (Nat.le_of_ble_eq_true rfl) (fun K L => W_X12_row K L a0 a1 a2 a3 h) hq
