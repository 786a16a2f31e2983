theorem dX12_select_0 : decode cX12_select 0 = .ok (.iload_n 1, 1) := by decide +kernel
theorem dX12_select_1 : decode cX12_select 1 = .ok (.invokestatic 130, 3) := by decide +kernel
theorem dX12_select_4 : decode cX12_select 4 = .ok (.ifCond .eq 14, 3) := by decide +kernel
theorem dX12_select_7 : decode cX12_select 7 = .ok (.iload_n 3, 1) := by decide +kernel
theorem dX12_select_8 : decode cX12_select 8 = .ok (.invokestatic 184, 3) := by decide +kernel
theorem dX12_select_11 : decode cX12_select 11 = .ok (.ifCond .eq 7, 3) := by decide +kernel
theorem dX12_select_14 : decode cX12_select 14 = .ok (.iload_n 2, 1) := by decide +kernel
theorem dX12_select_15 : decode cX12_select 15 = .ok (.ifCond .ge 6, 3) := by decide +kernel
theorem dX12_select_18 : decode cX12_select 18 = .ok (.ldc 73, 2) := by decide +kernel
theorem dX12_select_20 : decode cX12_select 20 = .ok (.ireturn, 1) := by decide +kernel
theorem dX12_select_21 : decode cX12_select 21 = .ok (.iconst 0, 1) := by decide +kernel
theorem dX12_select_22 : decode cX12_select 22 = .ok (.istore 4, 2) := by decide +kernel
theorem dX12_select_24 : decode cX12_select 24 = .ok (.iconst 0, 1) := by decide +kernel
theorem dX12_select_25 : decode cX12_select 25 = .ok (.istore 5, 2) := by decide +kernel
theorem dX12_select_27 : decode cX12_select 27 = .ok (.iload 5, 2) := by decide +kernel
theorem dX12_select_29 : decode cX12_select 29 = .ok (.aload_n 0, 1) := by decide +kernel
theorem dX12_select_30 : decode cX12_select 30 = .ok (.iload_n 1, 1) := by decide +kernel
theorem dX12_select_31 : decode cX12_select 31 = .ok (.invokevirtual 167, 3) := by decide +kernel
theorem dX12_select_34 : decode cX12_select 34 = .ok (.if_icmp .ge 35, 3) := by decide +kernel
theorem dX12_select_37 : decode cX12_select 37 = .ok (.aload_n 0, 1) := by decide +kernel
theorem dX12_select_38 : decode cX12_select 38 = .ok (.getfield 25, 3) := by decide +kernel
theorem dX12_select_41 : decode cX12_select 41 = .ok (.iload_n 1, 1) := by decide +kernel
theorem dX12_select_42 : decode cX12_select 42 = .ok (.iload 5, 2) := by decide +kernel
theorem dX12_select_44 : decode cX12_select 44 = .ok (.invokestatic 163, 3) := by decide +kernel
theorem dX12_select_47 : decode cX12_select 47 = .ok (.iload_n 3, 1) := by decide +kernel
theorem dX12_select_48 : decode cX12_select 48 = .ok (.if_icmp .ne 15, 3) := by decide +kernel
theorem dX12_select_51 : decode cX12_select 51 = .ok (.iload 4, 2) := by decide +kernel
theorem dX12_select_53 : decode cX12_select 53 = .ok (.iload_n 2, 1) := by decide +kernel
theorem dX12_select_54 : decode cX12_select 54 = .ok (.if_icmp .ne 6, 3) := by decide +kernel
theorem dX12_select_57 : decode cX12_select 57 = .ok (.iload 5, 2) := by decide +kernel
theorem dX12_select_59 : decode cX12_select 59 = .ok (.ireturn, 1) := by decide +kernel
theorem dX12_select_60 : decode cX12_select 60 = .ok (.iinc 4 1, 3) := by decide +kernel
theorem dX12_select_63 : decode cX12_select 63 = .ok (.iinc 5 1, 3) := by decide +kernel
theorem dX12_select_66 : decode cX12_select 66 = .ok (.goto (-39), 3) := by decide +kernel
theorem dX12_select_69 : decode cX12_select 69 = .ok (.ldc 59, 2) := by decide +kernel
theorem dX12_select_71 : decode cX12_select 71 = .ok (.ireturn, 1) := by decide +kernel
set_option maxRecDepth 20000 in
set_option maxHeartbeats 4000000 in
theorem L_X12_select_27 (K : xK) (L : xL) : ∀ (n : Nat) (a0 : Nat) (a1 : Int32) (a2 : Int32) (a3 : Int32) (a4 : Int32) (a5 : Int32) (h : xH), Sim K L cX12_select RX12 "select" 6 2 (fun q : Int32 × xH => q.2) (xRi cX12_select) 27 [(0, .ref a0), (1, .int a1), (2, .int a2), (3, .int a3), (4, .int a4), (5, .int a5)] [] h (f_X12_select_L27 n a0 a1 a2 a3 a4 a5 h) := by
  intro n
  induction n with
  | zero =>
    intro a0 a1 a2 a3 a4 a5 h
    exact Sim.none
  | succ n ih =>
    intro a0 a1 a2 a3 a4 a5 h
    unfold f_X12_select_L27
    refine S_iload (pc := 27) 5 rfl dX12_select_27 ?_
    refine S_aload_n (pc := 29) 0 rfl dX12_select_29 rfl ?_
    refine S_iload_n (pc := 30) 1 rfl dX12_select_30 rfl ?_
    refine S_call_i (pc := 31) (rest := [.int a5]) (fun q hq => (x_if hq).elim (fun z => R_V (av := [.int a1]) (q := (RX12, TX12, 28)) (M_X12_bitsOf _ a0 a1 h z.2) z.1 rfl wd_1012 wd_1009 wd_1011 wd_50 wd_28 ⟨rfl, hd_X12_bitsOf⟩ ⟨Nat.le_of_ble_eq_true rfl, Nat.le_of_ble_eq_true rfl⟩ rfl (Nat.le_of_ble_eq_true rfl) dX12_select_31) (fun hq => (by cases hq))) (fun _ h => List.mem_cons_of_mem _ (List.mem_cons_of_mem _ (h))) (fun q3 => ?_)
    refine S_icmp_ge (pc := 34) (tgt := 69) dX12_select_34 (by decide) ?_ ?_
    · refine S_ldc (pc := 69) wd_807 dX12_select_69 ?_
      exact Sim.fin ⟨dX12_select_71, rfl, rfl⟩ rfl
    · refine S_aload_n (pc := 37) 0 rfl dX12_select_37 rfl ?_
      refine S_getR (pc := 38) fd_X12_now wd_821 dX12_select_38 (fun v4 => ?_)
      refine S_iload_n (pc := 41) 1 rfl dX12_select_41 rfl ?_
      refine S_iload (pc := 42) 5 rfl dX12_select_42 ?_
      refine S_call_i (pc := 44) (rest := []) (fun q hq => R_S (av := [.ref v4, .int a1, .int a5]) (M_X12_bit _ v4 a1 a5 q3.2 hq) wd_1018 wd_1016 wd_1017 wd_50 hd_X12_bit ⟨Nat.le_of_ble_eq_true rfl, Nat.le_of_ble_eq_true rfl⟩ rfl (Nat.le_of_ble_eq_true rfl) dX12_select_44) (fun _ h => absurd h List.not_mem_nil) (fun q5 => ?_)
      refine S_iload_n (pc := 47) 3 rfl dX12_select_47 rfl ?_
      refine S_icmp_ne (pc := 48) (tgt := 63) dX12_select_48 (by decide) ?_ ?_
      · refine S_iload (pc := 51) 4 rfl dX12_select_51 ?_
        refine S_iload_n (pc := 53) 2 rfl dX12_select_53 rfl ?_
        refine S_icmp_ne (pc := 54) (tgt := 60) dX12_select_54 (by decide) ?_ ?_
        · refine S_iload (pc := 57) 5 rfl dX12_select_57 ?_
          exact Sim.fin ⟨dX12_select_59, rfl, rfl⟩ rfl
        · refine S_iinc (pc := 60) (v := a4 + (1 : Int32)) 4 rfl dX12_select_60 (x_inc ic_1) (Nat.le_of_ble_eq_true rfl) rfl ?_
          refine S_iinc (pc := 63) (v := a5 + (1 : Int32)) 5 rfl dX12_select_63 (x_inc ic_1) (Nat.le_of_ble_eq_true rfl) rfl ?_
          refine S_goto (pc := 66) (tgt := 27) dX12_select_66 (by decide) ?_
          refine S_sub [2, 3, 4, 5, 1, 0] rfl ?_
          exact ih a0 a1 a2 a3 (a4 + (1 : Int32)) (a5 + (1 : Int32)) q5.2
      · refine S_iinc (pc := 63) (v := a5 + (1 : Int32)) 5 rfl dX12_select_63 (x_inc ic_1) (Nat.le_of_ble_eq_true rfl) rfl ?_
        refine S_goto (pc := 66) (tgt := 27) dX12_select_66 (by decide) ?_
        refine S_sub [1, 2, 3, 4, 5, 0] rfl ?_
        exact ih a0 a1 a2 a3 a4 (a5 + (1 : Int32)) q5.2
set_option maxRecDepth 20000 in
set_option maxHeartbeats 4000000 in
theorem W_X12_select (K : xK) (L : xL) (a0 : Nat) (a1 : Int32) (a2 : Int32) (a3 : Int32) (h : xH) : Sim K L cX12_select RX12 "select" 6 2 (fun q : Int32 × xH => q.2) (xRi cX12_select) 0 [(0, .ref a0), (1, .int a1), (2, .int a2), (3, .int a3)] [] h (f_X12_select a0 a1 a2 a3 h) := by
  unfold f_X12_select
  refine S_iload_n (pc := 0) 1 rfl dX12_select_0 rfl ?_
  refine S_call_i (pc := 1) (rest := []) (fun q hq => R_S (av := [.int a1]) (M_X12_isVector _ a1 h hq) wd_947 wd_945 wd_946 wd_50 hd_X12_isVector ⟨Nat.le_of_ble_eq_true rfl, Nat.le_of_ble_eq_true rfl⟩ rfl (Nat.le_of_ble_eq_true rfl) dX12_select_1) (fun _ h => absurd h List.not_mem_nil) (fun q1 => ?_)
  refine S_if_eq (pc := 4) (tgt := 18) dX12_select_4 (by decide) ?_ ?_
  · refine S_ldc (pc := 18) wd_903 dX12_select_18 ?_
    exact Sim.fin ⟨dX12_select_20, rfl, rfl⟩ rfl
  · refine S_iload_n (pc := 7) 3 rfl dX12_select_7 rfl ?_
    refine S_call_i (pc := 8) (rest := []) (fun q hq => R_S (av := [.int a3]) (M_X12_isValue _ a3 q1.2 hq) wd_1015 wd_1013 wd_1014 wd_50 hd_X12_isValue ⟨Nat.le_of_ble_eq_true rfl, Nat.le_of_ble_eq_true rfl⟩ rfl (Nat.le_of_ble_eq_true rfl) dX12_select_8) (fun _ h => absurd h List.not_mem_nil) (fun q2 => ?_)
    refine S_if_eq (pc := 11) (tgt := 18) dX12_select_11 (by decide) ?_ ?_
    · refine S_ldc (pc := 18) wd_903 dX12_select_18 ?_
      exact Sim.fin ⟨dX12_select_20, rfl, rfl⟩ rfl
    · refine S_iload_n (pc := 14) 2 rfl dX12_select_14 rfl ?_
      refine S_if_ge (pc := 15) (tgt := 21) dX12_select_15 (by decide) ?_ ?_
      · refine S_iconst (pc := 21) dX12_select_21 ic_0 ?_
        refine S_istore (pc := 22) dX12_select_22 (Nat.le_of_ble_eq_true rfl) rfl ?_
        refine S_iconst (pc := 24) dX12_select_24 ic_0 ?_
        refine S_istore (pc := 25) dX12_select_25 (Nat.le_of_ble_eq_true rfl) rfl ?_
        refine S_sub [2, 3, 4, 5, 1, 0] rfl ?_
        exact L_X12_select_27 K L xN a0 a1 a2 a3 (0 : Int32) (0 : Int32) q2.2
      · refine S_ldc (pc := 18) wd_903 dX12_select_18 ?_
        exact Sim.fin ⟨dX12_select_20, rfl, rfl⟩ rfl
theorem M_X12_select (l : Launch) (a0 : Nat) (a1 : Int32) (a2 : Int32) (a3 : Int32) (h : xH) {q : Int32 × xH} (hq : f_X12_select a0 a1 a2 a3 h = some q) : xM l yX12_select cX12_select 6 (some .int) 2 [.ref a0, .int a1, .int a2, .int a3] h (some (.int q.1)) q.2 := xM_i (by decide +kernel) (Nat.le_of_ble_eq_true rfl) (fun K L => W_X12_select K L a0 a1 a2 a3 h) hq
theorem dX12_set_0 : decode cX12_set 0 = .ok (.iload_n 1, 1) := by decide +kernel
theorem dX12_set_1 : decode cX12_set 1 = .ok (.invokestatic 69, 3) := by decide +kernel
theorem dX12_set_4 : decode cX12_set 4 = .ok (.ifCond .ne 6, 3) := by decide +kernel
theorem dX12_set_7 : decode cX12_set 7 = .ok (.ldc 73, 2) := by decide +kernel
theorem dX12_set_9 : decode cX12_set 9 = .ok (.ireturn, 1) := by decide +kernel
theorem dX12_set_10 : decode cX12_set 10 = .ok (.aload_n 0, 1) := by decide +kernel
theorem dX12_set_11 : decode cX12_set 11 = .ok (.iload_n 1, 1) := by decide +kernel
theorem dX12_set_12 : decode cX12_set 12 = .ok (.invokevirtual 81, 3) := by decide +kernel
theorem dX12_set_15 : decode cX12_set 15 = .ok (.ifCond .eq 9, 3) := by decide +kernel
theorem dX12_set_18 : decode cX12_set 18 = .ok (.aload_n 0, 1) := by decide +kernel
theorem dX12_set_19 : decode cX12_set 19 = .ok (.iconst 1, 1) := by decide +kernel
theorem dX12_set_20 : decode cX12_set 20 = .ok (.invokevirtual 74, 3) := by decide +kernel
theorem dX12_set_23 : decode cX12_set 23 = .ok (.ireturn, 1) := by decide +kernel
theorem dX12_set_24 : decode cX12_set 24 = .ok (.iload_n 2, 1) := by decide +kernel
theorem dX12_set_25 : decode cX12_set 25 = .ok (.iconst 0, 1) := by decide +kernel
theorem dX12_set_26 : decode cX12_set 26 = .ok (.aload_n 0, 1) := by decide +kernel
theorem dX12_set_27 : decode cX12_set 27 = .ok (.getfield 13, 3) := by decide +kernel
theorem dX12_set_30 : decode cX12_set 30 = .ok (.iload_n 1, 1) := by decide +kernel
theorem dX12_set_31 : decode cX12_set 31 = .ok (.iaload, 1) := by decide +kernel
theorem dX12_set_32 : decode cX12_set 32 = .ok (.iconst 1, 1) := by decide +kernel
theorem dX12_set_33 : decode cX12_set 33 = .ok (.isub, 1) := by decide +kernel
theorem dX12_set_34 : decode cX12_set 34 = .ok (.invokestatic 65, 3) := by decide +kernel
theorem dX12_set_37 : decode cX12_set 37 = .ok (.ifCond .ne 9, 3) := by decide +kernel
theorem dX12_set_40 : decode cX12_set 40 = .ok (.aload_n 0, 1) := by decide +kernel
theorem dX12_set_41 : decode cX12_set 41 = .ok (.iconst 2, 1) := by decide +kernel
theorem dX12_set_42 : decode cX12_set 42 = .ok (.invokevirtual 74, 3) := by decide +kernel
theorem dX12_set_45 : decode cX12_set 45 = .ok (.ireturn, 1) := by decide +kernel
theorem dX12_set_46 : decode cX12_set 46 = .ok (.aload_n 0, 1) := by decide +kernel
theorem dX12_set_47 : decode cX12_set 47 = .ok (.getfield 16, 3) := by decide +kernel
theorem dX12_set_50 : decode cX12_set 50 = .ok (.bipush 40, 2) := by decide +kernel
theorem dX12_set_52 : decode cX12_set 52 = .ok (.iload_n 1, 1) := by decide +kernel
theorem dX12_set_53 : decode cX12_set 53 = .ok (.imul, 1) := by decide +kernel
theorem dX12_set_54 : decode cX12_set 54 = .ok (.iload_n 2, 1) := by decide +kernel
theorem dX12_set_55 : decode cX12_set 55 = .ok (.iadd, 1) := by decide +kernel
theorem dX12_set_56 : decode cX12_set 56 = .ok (.aload_n 0, 1) := by decide +kernel
theorem dX12_set_57 : decode cX12_set 57 = .ok (.getfield 7, 3) := by decide +kernel
theorem dX12_set_60 : decode cX12_set 60 = .ok (.iload_n 1, 1) := by decide +kernel
theorem dX12_set_61 : decode cX12_set 61 = .ok (.iaload, 1) := by decide +kernel
theorem dX12_set_62 : decode cX12_set 62 = .ok (.iload_n 3, 1) := by decide +kernel
theorem dX12_set_63 : decode cX12_set 63 = .ok (.invokestatic 84, 3) := by decide +kernel
theorem dX12_set_66 : decode cX12_set 66 = .ok (.iastore, 1) := by decide +kernel
theorem dX12_set_67 : decode cX12_set 67 = .ok (.aload_n 0, 1) := by decide +kernel
theorem dX12_set_68 : decode cX12_set 68 = .ok (.aload_n 0, 1) := by decide +kernel
theorem dX12_set_69 : decode cX12_set 69 = .ok (.getfield 16, 3) := by decide +kernel
theorem dX12_set_72 : decode cX12_set 72 = .ok (.bipush 40, 2) := by decide +kernel
theorem dX12_set_74 : decode cX12_set 74 = .ok (.iload_n 1, 1) := by decide +kernel
theorem dX12_set_75 : decode cX12_set 75 = .ok (.imul, 1) := by decide +kernel
theorem dX12_set_76 : decode cX12_set 76 = .ok (.iload_n 2, 1) := by decide +kernel
theorem dX12_set_77 : decode cX12_set 77 = .ok (.iadd, 1) := by decide +kernel
theorem dX12_set_78 : decode cX12_set 78 = .ok (.iaload, 1) := by decide +kernel
theorem dX12_set_79 : decode cX12_set 79 = .ok (.invokevirtual 78, 3) := by decide +kernel
theorem dX12_set_82 : decode cX12_set 82 = .ok (.ireturn, 1) := by decide +kernel
set_option maxRecDepth 20000 in
set_option maxHeartbeats 4000000 in
theorem W_X12_set (K : xK) (L : xL) (a0 : Nat) (a1 : Int32) (a2 : Int32) (a3 : Int32) (h : xH) : Sim K L cX12_set RX12 "set" 4 2 (fun q : Int32 × xH => q.2) (xRi cX12_set) 0 [(0, .ref a0), (1, .int a1), (2, .int a2), (3, .int a3)] [] h (f_X12_set a0 a1 a2 a3 h) := by
  unfold f_X12_set
  refine S_iload_n (pc := 0) 1 rfl dX12_set_0 rfl ?_
  refine S_call_i (pc := 1) (rest := []) (fun q hq => R_S (av := [.int a1]) (M_X12_isRow _ a1 h hq) wd_899 wd_897 wd_898 wd_50 hd_X12_isRow ⟨Nat.le_of_ble_eq_true rfl, Nat.le_of_ble_eq_true rfl⟩ rfl (Nat.le_of_ble_eq_true rfl) dX12_set_1) (fun _ h => absurd h List.not_mem_nil) (fun q1 => ?_)
  refine S_if_ne (pc := 4) (tgt := 10) dX12_set_4 (by decide) ?_ ?_
  · refine S_ldc (pc := 7) wd_903 dX12_set_7 ?_
    exact Sim.fin ⟨dX12_set_9, rfl, rfl⟩ rfl
  · refine S_aload_n (pc := 10) 0 rfl dX12_set_10 rfl ?_
    refine S_iload_n (pc := 11) 1 rfl dX12_set_11 rfl ?_
    refine S_call_i (pc := 12) (rest := []) (fun q hq => (x_if hq).elim (fun z => R_V (av := [.int a1]) (q := (RX12, TX12, 28)) (M_X12_isMissing _ a0 a1 q1.2 z.2) z.1 rfl wd_920 wd_917 wd_919 wd_50 wd_16 ⟨rfl, hd_X12_isMissing⟩ ⟨Nat.le_of_ble_eq_true rfl, Nat.le_of_ble_eq_true rfl⟩ rfl (Nat.le_of_ble_eq_true rfl) dX12_set_12) (fun hq => (by cases hq))) (fun _ h => absurd h List.not_mem_nil) (fun q2 => ?_)
    refine S_if_eq (pc := 15) (tgt := 24) dX12_set_15 (by decide) ?_ ?_
    · refine S_iload_n (pc := 24) 2 rfl dX12_set_24 rfl ?_
      refine S_iconst (pc := 25) dX12_set_25 ic_0 ?_
      refine S_aload_n (pc := 26) 0 rfl dX12_set_26 rfl ?_
      refine S_getR (pc := 27) fd_X12_many wd_809 dX12_set_27 (fun v3 => ?_)
      refine S_iload_n (pc := 30) 1 rfl dX12_set_30 rfl ?_
      refine S_aI (pc := 31) dX12_set_31 (fun v4 => ?_)
      refine S_iconst (pc := 32) dX12_set_32 ic_1 ?_
      refine S_isub (pc := 33) dX12_set_33 ?_
      refine S_call_i (pc := 34) (rest := []) (fun q hq => R_S (av := [.int a2, .int (0 : Int32), .int (v4 - (1 : Int32))]) (M_X12_in _ a2 (0 : Int32) (v4 - (1 : Int32)) q2.2 hq) wd_902 wd_900 wd_901 wd_50 hd_X12_in ⟨Nat.le_of_ble_eq_true rfl, Nat.le_of_ble_eq_true rfl⟩ rfl (Nat.le_of_ble_eq_true rfl) dX12_set_34) (fun _ h => absurd h List.not_mem_nil) (fun q5 => ?_)
      refine S_if_ne (pc := 37) (tgt := 46) dX12_set_37 (by decide) ?_ ?_
      · refine S_aload_n (pc := 40) 0 rfl dX12_set_40 rfl ?_
        refine S_iconst (pc := 41) dX12_set_41 ic_2 ?_
        refine S_call_i (pc := 42) (rest := []) (fun q hq => (x_if hq).elim (fun z => R_V (av := [.int (2 : Int32)]) (q := (RX12, TX12, 28)) (M_X12_found _ a0 (2 : Int32) q5.2 z.2) z.1 rfl wd_907 wd_904 wd_906 wd_50 wd_14 ⟨rfl, hd_X12_found⟩ ⟨Nat.le_of_ble_eq_true rfl, Nat.le_of_ble_eq_true rfl⟩ rfl (Nat.le_of_ble_eq_true rfl) dX12_set_42) (fun hq => (by cases hq))) (fun _ h => absurd h List.not_mem_nil) (fun q6 => ?_)
        exact Sim.fin ⟨dX12_set_45, rfl, rfl⟩ rfl
      · refine S_aload_n (pc := 46) 0 rfl dX12_set_46 rfl ?_
        refine S_getR (pc := 47) fd_X12_items wd_810 dX12_set_47 (fun v7 => ?_)
        refine S_bipush (pc := 50) dX12_set_50 bi_40 ?_
        refine S_iload_n (pc := 52) 1 rfl dX12_set_52 rfl ?_
        refine S_imul (pc := 53) dX12_set_53 ?_
        refine S_iload_n (pc := 54) 2 rfl dX12_set_54 rfl ?_
        refine S_iadd (pc := 55) dX12_set_55 ?_
        refine S_aload_n (pc := 56) 0 rfl dX12_set_56 rfl ?_
        refine S_getR (pc := 57) fd_X12_lane wd_808 dX12_set_57 (fun v8 => ?_)
        refine S_iload_n (pc := 60) 1 rfl dX12_set_60 rfl ?_
        refine S_aI (pc := 61) dX12_set_61 (fun v9 => ?_)
        refine S_iload_n (pc := 62) 3 rfl dX12_set_62 rfl ?_
        refine S_call_i (pc := 63) (rest := [.int (((40 : Int32) * a1) + a2), .ref v7]) (fun q hq => R_S (av := [.int v9, .int a3]) (M_X12_lowest _ v9 a3 q5.2 hq) wd_923 wd_921 wd_922 wd_50 hd_X12_lowest ⟨Nat.le_of_ble_eq_true rfl, Nat.le_of_ble_eq_true rfl⟩ rfl (Nat.le_of_ble_eq_true rfl) dX12_set_63) (fun _ h => List.mem_cons_of_mem _ (List.mem_cons_of_mem _ (h))) (fun q10 => ?_)
        refine S_uI (pc := 66) dX12_set_66 (fun h11 => ?_)
        refine S_aload_n (pc := 67) 0 rfl dX12_set_67 rfl ?_
        refine S_aload_n (pc := 68) 0 rfl dX12_set_68 rfl ?_
        refine S_getR (pc := 69) fd_X12_items wd_810 dX12_set_69 (fun v12 => ?_)
        refine S_bipush (pc := 72) dX12_set_72 bi_40 ?_
        refine S_iload_n (pc := 74) 1 rfl dX12_set_74 rfl ?_
        refine S_imul (pc := 75) dX12_set_75 ?_
        refine S_iload_n (pc := 76) 2 rfl dX12_set_76 rfl ?_
        refine S_iadd (pc := 77) dX12_set_77 ?_
        refine S_aI (pc := 78) dX12_set_78 (fun v13 => ?_)
        refine S_call_i (pc := 79) (rest := []) (fun q hq => (x_if hq).elim (fun z => R_V (av := [.int v13]) (q := (RX12, TX12, 28)) (M_X12_well _ a0 v13 h11 z.2) z.1 rfl wd_912 wd_909 wd_911 wd_50 wd_15 ⟨rfl, hd_X12_well⟩ ⟨Nat.le_of_ble_eq_true rfl, Nat.le_of_ble_eq_true rfl⟩ rfl (Nat.le_of_ble_eq_true rfl) dX12_set_79) (fun hq => (by cases hq))) (fun _ h => absurd h List.not_mem_nil) (fun q14 => ?_)
        exact Sim.fin ⟨dX12_set_82, rfl, rfl⟩ rfl
    · refine S_aload_n (pc := 18) 0 rfl dX12_set_18 rfl ?_
      refine S_iconst (pc := 19) dX12_set_19 ic_1 ?_
      refine S_call_i (pc := 20) (rest := []) (fun q hq => (x_if hq).elim (fun z => R_V (av := [.int (1 : Int32)]) (q := (RX12, TX12, 28)) (M_X12_found _ a0 (1 : Int32) q2.2 z.2) z.1 rfl wd_907 wd_904 wd_906 wd_50 wd_14 ⟨rfl, hd_X12_found⟩ ⟨Nat.le_of_ble_eq_true rfl, Nat.le_of_ble_eq_true rfl⟩ rfl (Nat.le_of_ble_eq_true rfl) dX12_set_20) (fun hq => (by cases hq))) (fun _ h => absurd h List.not_mem_nil) (fun q15 => ?_)
      exact Sim.fin ⟨dX12_set_23, rfl, rfl⟩ rfl
theorem M_X12_set (l : Launch) (a0 : Nat) (a1 : Int32) (a2 : Int32) (a3 : Int32) (h : xH) {q : Int32 × xH} (hq : f_X12_set a0 a1 a2 a3 h = some q) : xM l yX12_set cX12_set 4 (some .int) 2 [.ref a0, .int a1, .int a2, .int a3] h (some (.int q.1)) q.2 := xM_i (by decide +kernel) (Nat.le_of_ble_eq_true rfl) (fun K L => W_X12_set K L a0 a1 a2 a3 h) hq
theorem dX12_size_0 : decode cX12_size 0 = .ok (.iload_n 1, 1) := by decide +kernel
theorem dX12_size_1 : decode cX12_size 1 = .ok (.invokestatic 130, 3) := by decide +kernel
theorem dX12_size_4 : decode cX12_size 4 = .ok (.ifCond .ne 6, 3) := by decide +kernel
theorem dX12_size_7 : decode cX12_size 7 = .ok (.ldc 73, 2) := by decide +kernel
theorem dX12_size_9 : decode cX12_size 9 = .ok (.ireturn, 1) := by decide +kernel
theorem dX12_size_10 : decode cX12_size 10 = .ok (.aload_n 0, 1) := by decide +kernel
theorem dX12_size_11 : decode cX12_size 11 = .ok (.getfield 25, 3) := by decide +kernel
theorem dX12_size_14 : decode cX12_size 14 = .ok (.iload_n 1, 1) := by decide +kernel
theorem dX12_size_15 : decode cX12_size 15 = .ok (.invokestatic 197, 3) := by decide +kernel
theorem dX12_size_18 : decode cX12_size 18 = .ok (.istore_n 3, 1) := by decide +kernel
theorem dX12_size_19 : decode cX12_size 19 = .ok (.aload_n 0, 1) := by decide +kernel
theorem dX12_size_20 : decode cX12_size 20 = .ok (.aload_n 0, 1) := by decide +kernel
theorem dX12_size_21 : decode cX12_size 21 = .ok (.getfield 25, 3) := by decide +kernel
theorem dX12_size_24 : decode cX12_size 24 = .ok (.iload_n 1, 1) := by decide +kernel
theorem dX12_size_25 : decode cX12_size 25 = .ok (.iload_n 3, 1) := by decide +kernel
theorem dX12_size_26 : decode cX12_size 26 = .ok (.invokevirtual 204, 3) := by decide +kernel
theorem dX12_size_29 : decode cX12_size 29 = .ok (.istore 4, 2) := by decide +kernel
theorem dX12_size_31 : decode cX12_size 31 = .ok (.bipush 18, 2) := by decide +kernel
theorem dX12_size_33 : decode cX12_size 33 = .ok (.iload_n 3, 1) := by decide +kernel
theorem dX12_size_34 : decode cX12_size 34 = .ok (.iconst 3, 1) := by decide +kernel
theorem dX12_size_35 : decode cX12_size 35 = .ok (.iadd, 1) := by decide +kernel
theorem dX12_size_36 : decode cX12_size 36 = .ok (.iconst 4, 1) := by decide +kernel
theorem dX12_size_37 : decode cX12_size 37 = .ok (.idiv, 1) := by decide +kernel
theorem dX12_size_38 : decode cX12_size 38 = .ok (.imul, 1) := by decide +kernel
theorem dX12_size_39 : decode cX12_size 39 = .ok (.istore 5, 2) := by decide +kernel
theorem dX12_size_41 : decode cX12_size 41 = .ok (.iload_n 2, 1) := by decide +kernel
theorem dX12_size_42 : decode cX12_size 42 = .ok (.tableswitch 59 0 4 #[34, 37, 41, 44, 54], 34) := by decide +kernel
theorem dX12_size_76 : decode cX12_size 76 = .ok (.iload 4, 2) := by decide +kernel
theorem dX12_size_78 : decode cX12_size 78 = .ok (.ireturn, 1) := by decide +kernel
theorem dX12_size_79 : decode cX12_size 79 = .ok (.iconst 4, 1) := by decide +kernel
theorem dX12_size_80 : decode cX12_size 80 = .ok (.iload_n 3, 1) := by decide +kernel
theorem dX12_size_81 : decode cX12_size 81 = .ok (.imul, 1) := by decide +kernel
theorem dX12_size_82 : decode cX12_size 82 = .ok (.ireturn, 1) := by decide +kernel
theorem dX12_size_83 : decode cX12_size 83 = .ok (.iload 5, 2) := by decide +kernel
theorem dX12_size_85 : decode cX12_size 85 = .ok (.ireturn, 1) := by decide +kernel
theorem dX12_size_86 : decode cX12_size 86 = .ok (.iload 4, 2) := by decide +kernel
theorem dX12_size_88 : decode cX12_size 88 = .ok (.iconst 4, 1) := by decide +kernel
theorem dX12_size_89 : decode cX12_size 89 = .ok (.iload_n 3, 1) := by decide +kernel
theorem dX12_size_90 : decode cX12_size 90 = .ok (.imul, 1) := by decide +kernel
theorem dX12_size_91 : decode cX12_size 91 = .ok (.iadd, 1) := by decide +kernel
theorem dX12_size_92 : decode cX12_size 92 = .ok (.iload 5, 2) := by decide +kernel
theorem dX12_size_94 : decode cX12_size 94 = .ok (.iadd, 1) := by decide +kernel
theorem dX12_size_95 : decode cX12_size 95 = .ok (.ireturn, 1) := by decide +kernel
theorem dX12_size_96 : decode cX12_size 96 = .ok (.bipush 15, 2) := by decide +kernel
theorem dX12_size_98 : decode cX12_size 98 = .ok (.iload_n 3, 1) := by decide +kernel
theorem dX12_size_99 : decode cX12_size 99 = .ok (.imul, 1) := by decide +kernel
theorem dX12_size_100 : decode cX12_size 100 = .ok (.ireturn, 1) := by decide +kernel
theorem dX12_size_101 : decode cX12_size 101 = .ok (.ldc 73, 2) := by decide +kernel
theorem dX12_size_103 : decode cX12_size 103 = .ok (.ireturn, 1) := by decide +kernel
set_option maxRecDepth 20000 in
set_option maxHeartbeats 4000000 in
theorem W_X12_size (K : xK) (L : xL) (a0 : Nat) (a1 : Int32) (a2 : Int32) (h : xH) : Sim K L cX12_size RX12 "size" 6 2 (fun q : Int32 × xH => q.2) (xRi cX12_size) 0 [(0, .ref a0), (1, .int a1), (2, .int a2)] [] h (f_X12_size a0 a1 a2 h) := by
  unfold f_X12_size
  refine S_iload_n (pc := 0) 1 rfl dX12_size_0 rfl ?_
  refine S_call_i (pc := 1) (rest := []) (fun q hq => R_S (av := [.int a1]) (M_X12_isVector _ a1 h hq) wd_947 wd_945 wd_946 wd_50 hd_X12_isVector ⟨Nat.le_of_ble_eq_true rfl, Nat.le_of_ble_eq_true rfl⟩ rfl (Nat.le_of_ble_eq_true rfl) dX12_size_1) (fun _ h => absurd h List.not_mem_nil) (fun q1 => ?_)
  refine S_if_ne (pc := 4) (tgt := 10) dX12_size_4 (by decide) ?_ ?_
  · refine S_ldc (pc := 7) wd_903 dX12_size_7 ?_
    exact Sim.fin ⟨dX12_size_9, rfl, rfl⟩ rfl
  · refine S_aload_n (pc := 10) 0 rfl dX12_size_10 rfl ?_
    refine S_getR (pc := 11) fd_X12_now wd_821 dX12_size_11 (fun v2 => ?_)
    refine S_iload_n (pc := 14) 1 rfl dX12_size_14 rfl ?_
    refine S_call_i (pc := 15) (rest := []) (fun q hq => R_S (av := [.ref v2, .int a1]) (M_X12_blocks _ v2 a1 q1.2 hq) wd_1069 wd_1067 wd_1068 wd_50 hd_X12_blocks ⟨Nat.le_of_ble_eq_true rfl, Nat.le_of_ble_eq_true rfl⟩ rfl (Nat.le_of_ble_eq_true rfl) dX12_size_15) (fun _ h => absurd h List.not_mem_nil) (fun q3 => ?_)
    refine S_istore_n (pc := 18) dX12_size_18 rfl (Nat.le_of_ble_eq_true rfl) rfl ?_
    refine S_aload_n (pc := 19) 1 rfl dX12_size_19 rfl ?_
    refine S_aload_n (pc := 20) 1 rfl dX12_size_20 rfl ?_
    refine S_getR (pc := 21) fd_X12_now wd_821 dX12_size_21 (fun v4 => ?_)
    refine S_iload_n (pc := 24) 2 rfl dX12_size_24 rfl ?_
    refine S_iload_n (pc := 25) 0 rfl dX12_size_25 rfl ?_
    refine S_call_i (pc := 26) (rest := []) (fun q hq => (x_if hq).elim (fun z => R_V (av := [.ref v4, .int a1, .int q3.1]) (q := (RX12, TX12, 28)) (M_X12_begins _ a0 v4 a1 q3.1 q3.2 z.2) z.1 rfl wd_1084 wd_1081 wd_1083 wd_50 wd_32 ⟨rfl, hd_X12_begins⟩ ⟨Nat.le_of_ble_eq_true rfl, Nat.le_of_ble_eq_true rfl⟩ rfl (Nat.le_of_ble_eq_true rfl) dX12_size_26) (fun hq => (by cases hq))) (fun _ h => absurd h List.not_mem_nil) (fun q5 => ?_)
    refine S_istore (pc := 29) dX12_size_29 (Nat.le_of_ble_eq_true rfl) rfl ?_
    refine S_bipush (pc := 31) dX12_size_31 bi_18 ?_
    refine S_iload_n (pc := 33) 1 rfl dX12_size_33 rfl ?_
    refine S_iconst (pc := 34) dX12_size_34 ic_3 ?_
    refine S_iadd (pc := 35) dX12_size_35 ?_
    refine S_iconst (pc := 36) dX12_size_36 ic_4 ?_
    refine S_idiv (pc := 37) (by decide) dX12_size_37 ?_
    refine S_imul (pc := 38) dX12_size_38 ?_
    refine S_istore (pc := 39) dX12_size_39 (Nat.le_of_ble_eq_true rfl) rfl ?_
    refine S_iload_n (pc := 41) 5 rfl dX12_size_41 rfl ?_
    refine S_tabIn (pc := 42) (v := 0) (tgt := 76) dX12_size_42 (by decide) (by decide) rfl (by decide) ?_ (fun hs6 => ?_)
    · refine S_iload (pc := 76) 1 rfl dX12_size_76 ?_
      exact Sim.fin ⟨dX12_size_78, rfl, rfl⟩ rfl
    refine S_tabIn (pc := 42) (v := 1) (tgt := 79) dX12_size_42 (by decide) (by decide) rfl (by decide) ?_ (fun hs7 => ?_)
    · refine S_iconst (pc := 79) dX12_size_79 ic_4 ?_
      refine S_iload_n (pc := 80) 2 rfl dX12_size_80 rfl ?_
      refine S_imul (pc := 81) dX12_size_81 ?_
      exact Sim.fin ⟨dX12_size_82, rfl, rfl⟩ rfl
    refine S_tabIn (pc := 42) (v := 2) (tgt := 83) dX12_size_42 (by decide) (by decide) rfl (by decide) ?_ (fun hs8 => ?_)
    · refine S_iload (pc := 83) 0 rfl dX12_size_83 ?_
      exact Sim.fin ⟨dX12_size_85, rfl, rfl⟩ rfl
    refine S_tabIn (pc := 42) (v := 3) (tgt := 86) dX12_size_42 (by decide) (by decide) rfl (by decide) ?_ (fun hs9 => ?_)
    · refine S_iload (pc := 86) 1 rfl dX12_size_86 ?_
      refine S_iconst (pc := 88) dX12_size_88 ic_4 ?_
      refine S_iload_n (pc := 89) 2 rfl dX12_size_89 rfl ?_
      refine S_imul (pc := 90) dX12_size_90 ?_
      refine S_iadd (pc := 91) dX12_size_91 ?_
      refine S_iload (pc := 92) 0 rfl dX12_size_92 ?_
      refine S_iadd (pc := 94) dX12_size_94 ?_
      exact Sim.fin ⟨dX12_size_95, rfl, rfl⟩ rfl
    refine S_tabIn (pc := 42) (v := 4) (tgt := 96) dX12_size_42 (by decide) (by decide) rfl (by decide) ?_ (fun hs10 => ?_)
    · refine S_bipush (pc := 96) dX12_size_96 bi_15 ?_
      refine S_iload_n (pc := 98) 2 rfl dX12_size_98 rfl ?_
      refine S_imul (pc := 99) dX12_size_99 ?_
      exact Sim.fin ⟨dX12_size_100, rfl, rfl⟩ rfl
    refine S_tabOut (pc := 42) (tgt := 101) dX12_size_42 (by have := lv_neT hs6 (show (0 : Int32).toInt = 0 from by decide); have := lv_neT hs7 (show (1 : Int32).toInt = 1 from by decide); have := lv_neT hs8 (show (2 : Int32).toInt = 2 from by decide); have := lv_neT hs9 (show (3 : Int32).toInt = 3 from by decide); have := lv_neT hs10 (show (4 : Int32).toInt = 4 from by decide); omega) (by decide) ?_
    refine S_ldc (pc := 101) wd_903 dX12_size_101 ?_
    exact Sim.fin ⟨dX12_size_103, rfl, rfl⟩ rfl
theorem M_X12_size (l : Launch) (a0 : Nat) (a1 : Int32) (a2 : Int32) (h : xH) {q : Int32 × xH} (hq : f_X12_size a0 a1 a2 h = some q) : xM l yX12_size cX12_size 6 (some .int) 2 [.ref a0, .int a1, .int a2] h (some (.int q.1)) q.2 := xM_i (by decide +kernel) (Nat.le_of_ble_eq_true rfl) (fun K L => W_X12_size K L a0 a1 a2 h) hq
theorem dX12_status_0 : decode cX12_status 0 = .ok (.aload_n 0, 1) := by decide +kernel
theorem dX12_status_1 : decode cX12_status 1 = .ok (.getfield 60, 3) := by decide +kernel
theorem dX12_status_4 : decode cX12_status 4 = .ok (.ireturn, 1) := by decide +kernel
set_option maxRecDepth 20000 in
set_option maxHeartbeats 4000000 in
theorem W_X12_status (K : xK) (L : xL) (a0 : Nat) (h : xH) : Sim K L cX12_status RX12 "status" 1 0 (fun q : Int32 × xH => q.2) (xRi cX12_status) 0 [(0, .ref a0)] [] h (f_X12_status a0 h) := by
  unfold f_X12_status
  refine S_aload_n (pc := 0) 0 rfl dX12_status_0 rfl ?_
  refine S_getI (pc := 1) fd_X12_status wd_812 dX12_status_1 (fun v1 => ?_)
  exact Sim.fin ⟨dX12_status_4, rfl, rfl⟩ rfl
theorem M_X12_status (l : Launch) (a0 : Nat) (h : xH) {q : Int32 × xH} (hq : f_X12_status a0 h = some q) : xM l yX12_status cX12_status 1 (some .int) 0 [.ref a0] h (some (.int q.1)) q.2 := xM_i (by decide +kernel) (Nat.le_of_ble_eq_true rfl) (fun K L => W_X12_status K L a0 h) hq
theorem dX12_stretches_0 : decode cX12_stretches 0 = .ok (.iload_n 1, 1) := by decide +kernel
theorem dX12_stretches_1 : decode cX12_stretches 1 = .ok (.invokestatic 130, 3) := by decide +kernel
theorem dX12_stretches_4 : decode cX12_stretches 4 = .ok (.ifCond .ne 6, 3) := by decide +kernel
theorem dX12_stretches_7 : decode cX12_stretches 7 = .ok (.ldc 73, 2) := by decide +kernel
theorem dX12_stretches_9 : decode cX12_stretches 9 = .ok (.ireturn, 1) := by decide +kernel
theorem dX12_stretches_10 : decode cX12_stretches 10 = .ok (.iconst 0, 1) := by decide +kernel
theorem dX12_stretches_11 : decode cX12_stretches 11 = .ok (.istore_n 2, 1) := by decide +kernel
theorem dX12_stretches_12 : decode cX12_stretches 12 = .ok (.iconst 0, 1) := by decide +kernel
theorem dX12_stretches_13 : decode cX12_stretches 13 = .ok (.istore_n 3, 1) := by decide +kernel
theorem dX12_stretches_14 : decode cX12_stretches 14 = .ok (.iload_n 3, 1) := by decide +kernel
theorem dX12_stretches_15 : decode cX12_stretches 15 = .ok (.aload_n 0, 1) := by decide +kernel
theorem dX12_stretches_16 : decode cX12_stretches 16 = .ok (.iload_n 1, 1) := by decide +kernel
theorem dX12_stretches_17 : decode cX12_stretches 17 = .ok (.invokevirtual 167, 3) := by decide +kernel
theorem dX12_stretches_20 : decode cX12_stretches 20 = .ok (.if_icmp .ge 44, 3) := by decide +kernel
theorem dX12_stretches_23 : decode cX12_stretches 23 = .ok (.iload_n 2, 1) := by decide +kernel
theorem dX12_stretches_24 : decode cX12_stretches 24 = .ok (.iload_n 3, 1) := by decide +kernel
theorem dX12_stretches_25 : decode cX12_stretches 25 = .ok (.ifCond .eq 26, 3) := by decide +kernel
theorem dX12_stretches_28 : decode cX12_stretches 28 = .ok (.aload_n 0, 1) := by decide +kernel
theorem dX12_stretches_29 : decode cX12_stretches 29 = .ok (.getfield 25, 3) := by decide +kernel
theorem dX12_stretches_32 : decode cX12_stretches 32 = .ok (.iload_n 1, 1) := by decide +kernel
theorem dX12_stretches_33 : decode cX12_stretches 33 = .ok (.iload_n 3, 1) := by decide +kernel
theorem dX12_stretches_34 : decode cX12_stretches 34 = .ok (.invokestatic 163, 3) := by decide +kernel
theorem dX12_stretches_37 : decode cX12_stretches 37 = .ok (.aload_n 0, 1) := by decide +kernel
theorem dX12_stretches_38 : decode cX12_stretches 38 = .ok (.getfield 25, 3) := by decide +kernel
theorem dX12_stretches_41 : decode cX12_stretches 41 = .ok (.iload_n 1, 1) := by decide +kernel
theorem dX12_stretches_42 : decode cX12_stretches 42 = .ok (.iload_n 3, 1) := by decide +kernel
theorem dX12_stretches_43 : decode cX12_stretches 43 = .ok (.iconst 1, 1) := by decide +kernel
theorem dX12_stretches_44 : decode cX12_stretches 44 = .ok (.isub, 1) := by decide +kernel
theorem dX12_stretches_45 : decode cX12_stretches 45 = .ok (.invokestatic 163, 3) := by decide +kernel
theorem dX12_stretches_48 : decode cX12_stretches 48 = .ok (.if_icmp .eq 7, 3) := by decide +kernel
theorem dX12_stretches_51 : decode cX12_stretches 51 = .ok (.iconst 1, 1) := by decide +kernel
theorem dX12_stretches_52 : decode cX12_stretches 52 = .ok (.goto 4, 3) := by decide +kernel
theorem dX12_stretches_55 : decode cX12_stretches 55 = .ok (.iconst 0, 1) := by decide +kernel
theorem dX12_stretches_56 : decode cX12_stretches 56 = .ok (.iadd, 1) := by decide +kernel
theorem dX12_stretches_57 : decode cX12_stretches 57 = .ok (.istore_n 2, 1) := by decide +kernel
theorem dX12_stretches_58 : decode cX12_stretches 58 = .ok (.iinc 3 1, 3) := by decide +kernel
theorem dX12_stretches_61 : decode cX12_stretches 61 = .ok (.goto (-47), 3) := by decide +kernel
theorem dX12_stretches_64 : decode cX12_stretches 64 = .ok (.iload_n 2, 1) := by decide +kernel
theorem dX12_stretches_65 : decode cX12_stretches 65 = .ok (.ireturn, 1) := by decide +kernel
set_option maxRecDepth 20000 in
set_option maxHeartbeats 4000000 in
theorem L_X12_stretches_14 (K : xK) (L : xL) : ∀ (n : Nat) (a0 : Nat) (a1 : Int32) (a2 : Int32) (a3 : Int32) (h : xH), Sim K L cX12_stretches RX12 "stretches" 4 2 (fun q : Int32 × Int32 × xH => q.2.2) (fun q pc' ls' st' h' => pc' = 64 ∧ ls' = [(0, .ref a0), (1, .int a1), (2, .int q.1), (3, .int q.2.1)] ∧ st' = [] ∧ h' = q.2.2) 14 [(0, .ref a0), (1, .int a1), (2, .int a2), (3, .int a3)] [] h (f_X12_stretches_L14 n a0 a1 a2 a3 h) := by
  intro n
  induction n with
  | zero =>
    intro a0 a1 a2 a3 h
    exact Sim.none
  | succ n ih =>
    intro a0 a1 a2 a3 h
    unfold f_X12_stretches_L14
    refine S_iload_n (pc := 14) 3 rfl dX12_stretches_14 rfl ?_
    refine S_aload_n (pc := 15) 0 rfl dX12_stretches_15 rfl ?_
    refine S_iload_n (pc := 16) 1 rfl dX12_stretches_16 rfl ?_
    refine S_call_i (pc := 17) (rest := [.int a3]) (fun q hq => (x_if hq).elim (fun z => R_V (av := [.int a1]) (q := (RX12, TX12, 28)) (M_X12_bitsOf _ a0 a1 h z.2) z.1 rfl wd_1012 wd_1009 wd_1011 wd_50 wd_28 ⟨rfl, hd_X12_bitsOf⟩ ⟨Nat.le_of_ble_eq_true rfl, Nat.le_of_ble_eq_true rfl⟩ rfl (Nat.le_of_ble_eq_true rfl) dX12_stretches_17) (fun hq => (by cases hq))) (fun _ h => List.mem_cons_of_mem _ (List.mem_cons_of_mem _ (h))) (fun q2 => ?_)
    refine S_icmp_ge (pc := 20) (tgt := 64) dX12_stretches_20 (by decide) ?_ ?_
    · refine S_sub [0, 1, 2, 3] rfl ?_
      exact Sim.fin ⟨rfl, rfl, rfl, rfl⟩ rfl
    · refine S_iload_n (pc := 23) 2 rfl dX12_stretches_23 rfl ?_
      refine S_iload_n (pc := 24) 3 rfl dX12_stretches_24 rfl ?_
      refine S_if_eq (pc := 25) (tgt := 51) dX12_stretches_25 (by decide) ?_ ?_
      · refine S_iconst (pc := 51) dX12_stretches_51 ic_1 ?_
        refine S_goto (pc := 52) (tgt := 56) dX12_stretches_52 (by decide) ?_
        refine S_iadd (pc := 56) dX12_stretches_56 ?_
        refine S_istore_n (pc := 57) dX12_stretches_57 rfl (Nat.le_of_ble_eq_true rfl) rfl ?_
        refine S_iinc (pc := 58) (v := a3 + (1 : Int32)) 3 rfl dX12_stretches_58 (x_inc ic_1) (Nat.le_of_ble_eq_true rfl) rfl ?_
        refine S_goto (pc := 61) (tgt := 14) dX12_stretches_61 (by decide) ?_
        refine S_sub [2, 3, 1, 0] rfl ?_
        exact ih a0 a1 (a2 + (1 : Int32)) (a3 + (1 : Int32)) q2.2
      · refine S_aload_n (pc := 28) 0 rfl dX12_stretches_28 rfl ?_
        refine S_getR (pc := 29) fd_X12_now wd_821 dX12_stretches_29 (fun v3 => ?_)
        refine S_iload_n (pc := 32) 1 rfl dX12_stretches_32 rfl ?_
        refine S_iload_n (pc := 33) 3 rfl dX12_stretches_33 rfl ?_
        refine S_call_i (pc := 34) (rest := [.int a2]) (fun q hq => R_S (av := [.ref v3, .int a1, .int a3]) (M_X12_bit _ v3 a1 a3 q2.2 hq) wd_1018 wd_1016 wd_1017 wd_50 hd_X12_bit ⟨Nat.le_of_ble_eq_true rfl, Nat.le_of_ble_eq_true rfl⟩ rfl (Nat.le_of_ble_eq_true rfl) dX12_stretches_34) (fun _ h => List.mem_cons_of_mem _ (List.mem_cons_of_mem _ (List.mem_cons_of_mem _ (h)))) (fun q4 => ?_)
        refine S_aload_n (pc := 37) 0 rfl dX12_stretches_37 rfl ?_
        refine S_getR (pc := 38) fd_X12_now wd_821 dX12_stretches_38 (fun v5 => ?_)
        refine S_iload_n (pc := 41) 1 rfl dX12_stretches_41 rfl ?_
        refine S_iload_n (pc := 42) 3 rfl dX12_stretches_42 rfl ?_
        refine S_iconst (pc := 43) dX12_stretches_43 ic_1 ?_
        refine S_isub (pc := 44) dX12_stretches_44 ?_
        refine S_call_i (pc := 45) (rest := [.int q4.1, .int a2]) (fun q hq => R_S (av := [.ref v5, .int a1, .int (a3 - (1 : Int32))]) (M_X12_bit _ v5 a1 (a3 - (1 : Int32)) q4.2 hq) wd_1018 wd_1016 wd_1017 wd_50 hd_X12_bit ⟨Nat.le_of_ble_eq_true rfl, Nat.le_of_ble_eq_true rfl⟩ rfl (Nat.le_of_ble_eq_true rfl) dX12_stretches_45) (fun _ h => List.mem_cons_of_mem _ (List.mem_cons_of_mem _ (List.mem_cons_of_mem _ (h)))) (fun q6 => ?_)
        refine Sim.cut (pc' := 56) (st' := [.int (if q4.1 = q6.1 then (0 : Int32) else (1 : Int32)), .int a2]) ?_ (fun kc => ?_)
        · refine S_iadd (pc := 56) dX12_stretches_56 ?_
          refine S_istore_n (pc := 57) dX12_stretches_57 rfl (Nat.le_of_ble_eq_true rfl) rfl ?_
          refine S_iinc (pc := 58) (v := a3 + (1 : Int32)) 3 rfl dX12_stretches_58 (x_inc ic_1) (Nat.le_of_ble_eq_true rfl) rfl ?_
          refine S_goto (pc := 61) (tgt := 14) dX12_stretches_61 (by decide) ?_
          refine S_sub [2, 3, 1, 0] rfl ?_
          exact ih a0 a1 (a2 + (if q4.1 = q6.1 then (0 : Int32) else (1 : Int32))) (a3 + (1 : Int32)) q6.2
        · refine D_icmp_eq (pc := 48) (tgt := 55) dX12_stretches_48 (by decide) (fun c7 => ?_) (fun c7 => ?_)
          · refine S_iconst (pc := 55) dX12_stretches_55 ic_0 ?_
            exact x_st (by rw [if_pos c7]) kc
          · refine S_iconst (pc := 51) dX12_stretches_51 ic_1 ?_
            refine S_goto (pc := 52) (tgt := 56) dX12_stretches_52 (by decide) ?_
            exact x_st (by rw [if_neg c7]) kc
set_option maxRecDepth 20000 in
set_option maxHeartbeats 4000000 in
theorem W_X12_stretches (K : xK) (L : xL) (a0 : Nat) (a1 : Int32) (h : xH) : Sim K L cX12_stretches RX12 "stretches" 4 2 (fun q : Int32 × xH => q.2) (xRi cX12_stretches) 0 [(0, .ref a0), (1, .int a1)] [] h (f_X12_stretches a0 a1 h) := by
  unfold f_X12_stretches
  refine S_iload_n (pc := 0) 1 rfl dX12_stretches_0 rfl ?_
  refine S_call_i (pc := 1) (rest := []) (fun q hq => R_S (av := [.int a1]) (M_X12_isVector _ a1 h hq) wd_947 wd_945 wd_946 wd_50 hd_X12_isVector ⟨Nat.le_of_ble_eq_true rfl, Nat.le_of_ble_eq_true rfl⟩ rfl (Nat.le_of_ble_eq_true rfl) dX12_stretches_1) (fun _ h => absurd h List.not_mem_nil) (fun q1 => ?_)
  refine S_if_ne (pc := 4) (tgt := 10) dX12_stretches_4 (by decide) ?_ ?_
  · refine S_ldc (pc := 7) wd_903 dX12_stretches_7 ?_
    exact Sim.fin ⟨dX12_stretches_9, rfl, rfl⟩ rfl
  · refine S_iconst (pc := 10) dX12_stretches_10 ic_0 ?_
    refine S_istore_n (pc := 11) dX12_stretches_11 rfl (Nat.le_of_ble_eq_true rfl) rfl ?_
    refine S_iconst (pc := 12) dX12_stretches_12 ic_0 ?_
    refine S_istore_n (pc := 13) dX12_stretches_13 rfl (Nat.le_of_ble_eq_true rfl) rfl ?_
    refine S_sub [2, 3, 1, 0] rfl ?_
    refine Sim.bind (hs := fun q8 : Int32 × Int32 × xH => q8.2.2) (px := 64) (lsx := fun q8 => [(0, .ref a0), (1, .int a1), (2, .int q8.1), (3, .int q8.2.1)]) (L_X12_stretches_14 K L xN a0 a1 (0 : Int32) (0 : Int32) q1.2) (fun q8 => ?_)
    refine S_iload_n (pc := 64) 2 rfl dX12_stretches_64 rfl ?_
    exact Sim.fin ⟨dX12_stretches_65, rfl, rfl⟩ rfl
theorem M_X12_stretches (l : Launch) (a0 : Nat) (a1 : Int32) (h : xH) {q : Int32 × xH} (hq : f_X12_stretches a0 a1 h = some q) : xM l yX12_stretches cX12_stretches 4 (some .int) 2 [.ref a0, .int a1] h (some (.int q.1)) q.2 := xM_i (by decide +kernel) (Nat.le_of_ble_eq_true rfl) (fun K L => W_X12_stretches K L a0 a1 h) hq
theorem dX12_take_0 : decode cX12_take 0 = .ok (.iload_n 1, 1) := by decide +kernel
theorem dX12_take_1 : decode cX12_take 1 = .ok (.invokestatic 130, 3) := by decide +kernel
theorem dX12_take_4 : decode cX12_take 4 = .ok (.ifCond .eq 24, 3) := by decide +kernel
theorem dX12_take_7 : decode cX12_take 7 = .ok (.iload_n 3, 1) := by decide +kernel
theorem dX12_take_8 : decode cX12_take 8 = .ok (.invokestatic 69, 3) := by decide +kernel
theorem dX12_take_11 : decode cX12_take 11 = .ok (.ifCond .eq 17, 3) := by decide +kernel
theorem dX12_take_14 : decode cX12_take 14 = .ok (.iload_n 2, 1) := by decide +kernel
theorem dX12_take_15 : decode cX12_take 15 = .ok (.sipush 480, 3) := by decide +kernel
theorem dX12_take_18 : decode cX12_take 18 = .ok (.if_icmp .gt 10, 3) := by decide +kernel
theorem dX12_take_21 : decode cX12_take 21 = .ok (.iload 4, 2) := by decide +kernel
theorem dX12_take_23 : decode cX12_take 23 = .ok (.bipush 40, 2) := by decide +kernel
theorem dX12_take_25 : decode cX12_take 25 = .ok (.if_icmp .le 6, 3) := by decide +kernel
theorem dX12_take_28 : decode cX12_take 28 = .ok (.ldc 73, 2) := by decide +kernel
theorem dX12_take_30 : decode cX12_take 30 = .ok (.ireturn, 1) := by decide +kernel
theorem dX12_take_31 : decode cX12_take 31 = .ok (.iload_n 2, 1) := by decide +kernel
theorem dX12_take_32 : decode cX12_take 32 = .ok (.ifCond .ge 9, 3) := by decide +kernel
theorem dX12_take_35 : decode cX12_take 35 = .ok (.aload_n 0, 1) := by decide +kernel
theorem dX12_take_36 : decode cX12_take 36 = .ok (.iconst 4, 1) := by decide +kernel
theorem dX12_take_37 : decode cX12_take 37 = .ok (.invokevirtual 74, 3) := by decide +kernel
theorem dX12_take_40 : decode cX12_take 40 = .ok (.ireturn, 1) := by decide +kernel
theorem dX12_take_41 : decode cX12_take 41 = .ok (.aload_n 0, 1) := by decide +kernel
theorem dX12_take_42 : decode cX12_take 42 = .ok (.iload_n 3, 1) := by decide +kernel
theorem dX12_take_43 : decode cX12_take 43 = .ok (.invokevirtual 81, 3) := by decide +kernel
theorem dX12_take_46 : decode cX12_take 46 = .ok (.ifCond .eq 9, 3) := by decide +kernel
theorem dX12_take_49 : decode cX12_take 49 = .ok (.aload_n 0, 1) := by decide +kernel
theorem dX12_take_50 : decode cX12_take 50 = .ok (.iconst 1, 1) := by decide +kernel
theorem dX12_take_51 : decode cX12_take 51 = .ok (.invokevirtual 74, 3) := by decide +kernel
theorem dX12_take_54 : decode cX12_take 54 = .ok (.ireturn, 1) := by decide +kernel
theorem dX12_take_55 : decode cX12_take 55 = .ok (.aload_n 0, 1) := by decide +kernel
theorem dX12_take_56 : decode cX12_take 56 = .ok (.iload_n 3, 1) := by decide +kernel
theorem dX12_take_57 : decode cX12_take 57 = .ok (.iconst 0, 1) := by decide +kernel
theorem dX12_take_58 : decode cX12_take 58 = .ok (.iload 4, 2) := by decide +kernel
theorem dX12_take_60 : decode cX12_take 60 = .ok (.invokevirtual 88, 3) := by decide +kernel
theorem dX12_take_63 : decode cX12_take 63 = .ok (.ifCond .ne 9, 3) := by decide +kernel
theorem dX12_take_66 : decode cX12_take 66 = .ok (.aload_n 0, 1) := by decide +kernel
theorem dX12_take_67 : decode cX12_take 67 = .ok (.iconst 2, 1) := by decide +kernel
theorem dX12_take_68 : decode cX12_take 68 = .ok (.invokevirtual 74, 3) := by decide +kernel
theorem dX12_take_71 : decode cX12_take 71 = .ok (.ireturn, 1) := by decide +kernel
theorem dX12_take_72 : decode cX12_take 72 = .ok (.iconst 0, 1) := by decide +kernel
theorem dX12_take_73 : decode cX12_take 73 = .ok (.istore 5, 2) := by decide +kernel
theorem dX12_take_75 : decode cX12_take 75 = .ok (.iload 5, 2) := by decide +kernel
theorem dX12_take_77 : decode cX12_take 77 = .ok (.iload 4, 2) := by decide +kernel
theorem dX12_take_79 : decode cX12_take 79 = .ok (.if_icmp .ge 37, 3) := by decide +kernel
theorem dX12_take_82 : decode cX12_take 82 = .ok (.aload_n 0, 1) := by decide +kernel
theorem dX12_take_83 : decode cX12_take 83 = .ok (.getfield 16, 3) := by decide +kernel
theorem dX12_take_86 : decode cX12_take 86 = .ok (.bipush 40, 2) := by decide +kernel
theorem dX12_take_88 : decode cX12_take 88 = .ok (.iload_n 3, 1) := by decide +kernel
theorem dX12_take_89 : decode cX12_take 89 = .ok (.imul, 1) := by decide +kernel
theorem dX12_take_90 : decode cX12_take 90 = .ok (.iload 5, 2) := by decide +kernel
theorem dX12_take_92 : decode cX12_take 92 = .ok (.iadd, 1) := by decide +kernel
theorem dX12_take_93 : decode cX12_take 93 = .ok (.iaload, 1) := by decide +kernel
theorem dX12_take_94 : decode cX12_take 94 = .ok (.iconst 0, 1) := by decide +kernel
theorem dX12_take_95 : decode cX12_take 95 = .ok (.iload_n 2, 1) := by decide +kernel
theorem dX12_take_96 : decode cX12_take 96 = .ok (.iconst 1, 1) := by decide +kernel
theorem dX12_take_97 : decode cX12_take 97 = .ok (.isub, 1) := by decide +kernel
theorem dX12_take_98 : decode cX12_take 98 = .ok (.invokestatic 65, 3) := by decide +kernel
theorem dX12_take_101 : decode cX12_take 101 = .ok (.ifCond .ne 9, 3) := by decide +kernel
theorem dX12_take_104 : decode cX12_take 104 = .ok (.aload_n 0, 1) := by decide +kernel
theorem dX12_take_105 : decode cX12_take 105 = .ok (.iconst 2, 1) := by decide +kernel
theorem dX12_take_106 : decode cX12_take 106 = .ok (.invokevirtual 74, 3) := by decide +kernel
theorem dX12_take_109 : decode cX12_take 109 = .ok (.ireturn, 1) := by decide +kernel
theorem dX12_take_110 : decode cX12_take 110 = .ok (.iinc 5 1, 3) := by decide +kernel
theorem dX12_take_113 : decode cX12_take 113 = .ok (.goto (-38), 3) := by decide +kernel
theorem dX12_take_116 : decode cX12_take 116 = .ok (.aload_n 0, 1) := by decide +kernel
theorem dX12_take_117 : decode cX12_take 117 = .ok (.invokevirtual 143, 3) := by decide +kernel
theorem dX12_take_120 : decode cX12_take 120 = .ok (.aload_n 0, 1) := by decide +kernel
theorem dX12_take_121 : decode cX12_take 121 = .ok (.iload_n 1, 1) := by decide +kernel
theorem dX12_take_122 : decode cX12_take 122 = .ok (.iload_n 2, 1) := by decide +kernel
theorem dX12_take_123 : decode cX12_take 123 = .ok (.invokevirtual 146, 3) := by decide +kernel
theorem dX12_take_126 : decode cX12_take 126 = .ok (.iconst 0, 1) := by decide +kernel
theorem dX12_take_127 : decode cX12_take 127 = .ok (.istore 5, 2) := by decide +kernel
theorem dX12_take_129 : decode cX12_take 129 = .ok (.iload 5, 2) := by decide +kernel
theorem dX12_take_131 : decode cX12_take 131 = .ok (.iload 4, 2) := by decide +kernel
theorem dX12_take_133 : decode cX12_take 133 = .ok (.if_icmp .ge 30, 3) := by decide +kernel
theorem dX12_take_136 : decode cX12_take 136 = .ok (.aload_n 0, 1) := by decide +kernel
theorem dX12_take_137 : decode cX12_take 137 = .ok (.getfield 25, 3) := by decide +kernel
theorem dX12_take_140 : decode cX12_take 140 = .ok (.iload_n 1, 1) := by decide +kernel
theorem dX12_take_141 : decode cX12_take 141 = .ok (.aload_n 0, 1) := by decide +kernel
theorem dX12_take_142 : decode cX12_take 142 = .ok (.getfield 16, 3) := by decide +kernel
theorem dX12_take_145 : decode cX12_take 145 = .ok (.bipush 40, 2) := by decide +kernel
theorem dX12_take_147 : decode cX12_take 147 = .ok (.iload_n 3, 1) := by decide +kernel
theorem dX12_take_148 : decode cX12_take 148 = .ok (.imul, 1) := by decide +kernel
theorem dX12_take_149 : decode cX12_take 149 = .ok (.iload 5, 2) := by decide +kernel
theorem dX12_take_151 : decode cX12_take 151 = .ok (.iadd, 1) := by decide +kernel
theorem dX12_take_152 : decode cX12_take 152 = .ok (.iaload, 1) := by decide +kernel
theorem dX12_take_153 : decode cX12_take 153 = .ok (.iconst 1, 1) := by decide +kernel
theorem dX12_take_154 : decode cX12_take 154 = .ok (.invokestatic 159, 3) := by decide +kernel
theorem dX12_take_157 : decode cX12_take 157 = .ok (.iinc 5 1, 3) := by decide +kernel
theorem dX12_take_160 : decode cX12_take 160 = .ok (.goto (-31), 3) := by decide +kernel
theorem dX12_take_163 : decode cX12_take 163 = .ok (.aload_n 0, 1) := by decide +kernel
theorem dX12_take_164 : decode cX12_take 164 = .ok (.aload_n 0, 1) := by decide +kernel
theorem dX12_take_165 : decode cX12_take 165 = .ok (.iload_n 1, 1) := by decide +kernel
theorem dX12_take_166 : decode cX12_take 166 = .ok (.invokevirtual 187, 3) := by decide +kernel
theorem dX12_take_169 : decode cX12_take 169 = .ok (.invokevirtual 78, 3) := by decide +kernel
theorem dX12_take_172 : decode cX12_take 172 = .ok (.ireturn, 1) := by decide +kernel
set_option maxRecDepth 20000 in
set_option maxHeartbeats 4000000 in
theorem L_X12_take_129 (K : xK) (L : xL) : ∀ (n : Nat) (a0 : Nat) (a1 : Int32) (a3 : Int32) (a4 : Int32) (a5 : Int32) (h : xH), Sim K L cX12_take RX12 "take" 6 3 (fun q : Int32 × xH => q.2) (fun q pc' ls' st' h' => pc' = 163 ∧ ls' = [(0, .ref a0), (1, .int a1), (3, .int a3), (4, .int a4), (5, .int q.1)] ∧ st' = [] ∧ h' = q.2) 129 [(0, .ref a0), (1, .int a1), (3, .int a3), (4, .int a4), (5, .int a5)] [] h (f_X12_take_L129 n a0 a1 a3 a4 a5 h) := by
  intro n
  induction n with
  | zero =>
    intro a0 a1 a3 a4 a5 h
    exact Sim.none
  | succ n ih =>
    intro a0 a1 a3 a4 a5 h
    unfold f_X12_take_L129
    refine S_iload (pc := 129) 4 rfl dX12_take_129 ?_
    refine S_iload (pc := 131) 3 rfl dX12_take_131 ?_
    refine S_icmp_ge (pc := 133) (tgt := 163) dX12_take_133 (by decide) ?_ ?_
    · refine S_sub [0, 1, 2, 3, 4] rfl ?_
      exact Sim.fin ⟨rfl, rfl, rfl, rfl⟩ rfl
    · refine S_aload_n (pc := 136) 0 rfl dX12_take_136 rfl ?_
      refine S_getR (pc := 137) fd_X12_now wd_821 dX12_take_137 (fun v8 => ?_)
      refine S_iload_n (pc := 140) 1 rfl dX12_take_140 rfl ?_
      refine S_aload_n (pc := 141) 0 rfl dX12_take_141 rfl ?_
      refine S_getR (pc := 142) fd_X12_items wd_810 dX12_take_142 (fun v9 => ?_)
      refine S_bipush (pc := 145) dX12_take_145 bi_40 ?_
      refine S_iload_n (pc := 147) 2 rfl dX12_take_147 rfl ?_
      refine S_imul (pc := 148) dX12_take_148 ?_
      refine S_iload (pc := 149) 4 rfl dX12_take_149 ?_
      refine S_iadd (pc := 151) dX12_take_151 ?_
      refine S_aI (pc := 152) dX12_take_152 (fun v10 => ?_)
      refine S_iconst (pc := 153) dX12_take_153 ic_1 ?_
      refine S_call_v (pc := 154) (rest := []) (fun q hq => R_S (av := [.ref v8, .int a1, .int v10, .int (1 : Int32)]) (M_X12_puts _ v8 a1 v10 (1 : Int32) h hq) wd_996 wd_994 wd_995 wd_50 hd_X12_puts ⟨Nat.le_of_ble_eq_true rfl, Nat.le_of_ble_eq_true rfl⟩ rfl (Nat.le_of_ble_eq_true rfl) dX12_take_154) (fun _ h => absurd h List.not_mem_nil) (fun q11 => ?_)
      refine S_iinc (pc := 157) (v := a5 + (1 : Int32)) 4 rfl dX12_take_157 (x_inc ic_1) (Nat.le_of_ble_eq_true rfl) rfl ?_
      refine S_goto (pc := 160) (tgt := 129) dX12_take_160 (by decide) ?_
      refine S_sub [1, 2, 3, 4, 0] rfl ?_
      exact ih a0 a1 a3 a4 (a5 + (1 : Int32)) q11
set_option maxRecDepth 20000 in
set_option maxHeartbeats 4000000 in
theorem L_X12_take_75 (K : xK) (L : xL) : ∀ (n : Nat) (a0 : Nat) (a1 : Int32) (a2 : Int32) (a3 : Int32) (a4 : Int32) (a5 : Int32) (h : xH), Sim K L cX12_take RX12 "take" 6 3 (fun q : Int32 × xH => q.2) (xRi cX12_take) 75 [(0, .ref a0), (1, .int a1), (2, .int a2), (3, .int a3), (4, .int a4), (5, .int a5)] [] h (f_X12_take_L75 n a0 a1 a2 a3 a4 a5 h) := by
  intro n
  induction n with
  | zero =>
    intro a0 a1 a2 a3 a4 a5 h
    exact Sim.none
  | succ n ih =>
    intro a0 a1 a2 a3 a4 a5 h
    unfold f_X12_take_L75
    refine S_iload (pc := 75) 5 rfl dX12_take_75 ?_
    refine S_iload (pc := 77) 4 rfl dX12_take_77 ?_
    refine S_icmp_ge (pc := 79) (tgt := 116) dX12_take_79 (by decide) ?_ ?_
    · refine S_aload_n (pc := 116) 0 rfl dX12_take_116 rfl ?_
      refine S_call_v (pc := 117) (rest := []) (fun q hq => (x_if hq).elim (fun z => R_V (av := []) (q := (RX12, TX12, 28)) (M_X12_notes _ a0 h z.2) z.1 rfl wd_979 wd_976 wd_978 wd_50 wd_24 ⟨rfl, hd_X12_notes⟩ ⟨Nat.le_of_ble_eq_true rfl, Nat.le_of_ble_eq_true rfl⟩ rfl (Nat.le_of_ble_eq_true rfl) dX12_take_117) (fun hq => (by cases hq))) (fun _ h => absurd h List.not_mem_nil) (fun q6 => ?_)
      refine S_aload_n (pc := 120) 0 rfl dX12_take_120 rfl ?_
      refine S_iload_n (pc := 121) 1 rfl dX12_take_121 rfl ?_
      refine S_iload_n (pc := 122) 2 rfl dX12_take_122 rfl ?_
      refine S_call_v (pc := 123) (rest := []) (fun q hq => (x_if hq).elim (fun z => R_V (av := [.int a1, .int a2]) (q := (RX12, TX12, 28)) (M_X12_empties _ a0 a1 a2 q6 z.2) z.1 rfl wd_986 wd_983 wd_985 wd_50 wd_25 ⟨rfl, hd_X12_empties⟩ ⟨Nat.le_of_ble_eq_true rfl, Nat.le_of_ble_eq_true rfl⟩ rfl (Nat.le_of_ble_eq_true rfl) dX12_take_123) (fun hq => (by cases hq))) (fun _ h => absurd h List.not_mem_nil) (fun q7 => ?_)
      refine S_iconst (pc := 126) dX12_take_126 ic_0 ?_
      refine S_istore (pc := 127) dX12_take_127 (Nat.le_of_ble_eq_true rfl) rfl ?_
      refine S_sub [1, 2, 4, 5, 0] rfl ?_
      refine Sim.bind (hs := fun q12 : Int32 × xH => q12.2) (px := 163) (lsx := fun q12 => [(0, .ref a0), (1, .int a1), (3, .int a3), (4, .int a4), (5, .int q12.1)]) (L_X12_take_129 K L xN a0 a1 a3 a4 (0 : Int32) q7) (fun q12 => ?_)
      refine S_aload_n (pc := 163) 0 rfl dX12_take_163 rfl ?_
      refine S_aload_n (pc := 164) 0 rfl dX12_take_164 rfl ?_
      refine S_iload_n (pc := 165) 1 rfl dX12_take_165 rfl ?_
      refine S_call_i (pc := 166) (rest := [.ref a0]) (fun q hq => (x_if hq).elim (fun z => R_V (av := [.int a1]) (q := (RX12, TX12, 28)) (M_X12_allOnes _ a0 a1 q12.2 z.2) z.1 rfl wd_1034 wd_1031 wd_1033 wd_50 wd_29 ⟨rfl, hd_X12_allOnes⟩ ⟨Nat.le_of_ble_eq_true rfl, Nat.le_of_ble_eq_true rfl⟩ rfl (Nat.le_of_ble_eq_true rfl) dX12_take_166) (fun hq => (by cases hq))) (fun _ h => List.mem_cons_of_mem _ (List.mem_cons_of_mem _ (h))) (fun q13 => ?_)
      refine S_call_i (pc := 169) (rest := []) (fun q hq => (x_if hq).elim (fun z => R_V (av := [.int q13.1]) (q := (RX12, TX12, 28)) (M_X12_well _ a0 q13.1 q13.2 z.2) z.1 rfl wd_912 wd_909 wd_911 wd_50 wd_15 ⟨rfl, hd_X12_well⟩ ⟨Nat.le_of_ble_eq_true rfl, Nat.le_of_ble_eq_true rfl⟩ rfl (Nat.le_of_ble_eq_true rfl) dX12_take_169) (fun hq => (by cases hq))) (fun _ h => absurd h List.not_mem_nil) (fun q14 => ?_)
      exact Sim.fin ⟨dX12_take_172, rfl, rfl⟩ rfl
    · refine S_aload_n (pc := 82) 0 rfl dX12_take_82 rfl ?_
      refine S_getR (pc := 83) fd_X12_items wd_810 dX12_take_83 (fun v15 => ?_)
      refine S_bipush (pc := 86) dX12_take_86 bi_40 ?_
      refine S_iload_n (pc := 88) 3 rfl dX12_take_88 rfl ?_
      refine S_imul (pc := 89) dX12_take_89 ?_
      refine S_iload (pc := 90) 5 rfl dX12_take_90 ?_
      refine S_iadd (pc := 92) dX12_take_92 ?_
      refine S_aI (pc := 93) dX12_take_93 (fun v16 => ?_)
      refine S_iconst (pc := 94) dX12_take_94 ic_0 ?_
      refine S_iload_n (pc := 95) 2 rfl dX12_take_95 rfl ?_
      refine S_iconst (pc := 96) dX12_take_96 ic_1 ?_
      refine S_isub (pc := 97) dX12_take_97 ?_
      refine S_call_i (pc := 98) (rest := []) (fun q hq => R_S (av := [.int v16, .int (0 : Int32), .int (a2 - (1 : Int32))]) (M_X12_in _ v16 (0 : Int32) (a2 - (1 : Int32)) h hq) wd_902 wd_900 wd_901 wd_50 hd_X12_in ⟨Nat.le_of_ble_eq_true rfl, Nat.le_of_ble_eq_true rfl⟩ rfl (Nat.le_of_ble_eq_true rfl) dX12_take_98) (fun _ h => absurd h List.not_mem_nil) (fun q17 => ?_)
      refine S_if_ne (pc := 101) (tgt := 110) dX12_take_101 (by decide) ?_ ?_
      · refine S_aload_n (pc := 104) 0 rfl dX12_take_104 rfl ?_
        refine S_iconst (pc := 105) dX12_take_105 ic_2 ?_
        refine S_call_i (pc := 106) (rest := []) (fun q hq => (x_if hq).elim (fun z => R_V (av := [.int (2 : Int32)]) (q := (RX12, TX12, 28)) (M_X12_found _ a0 (2 : Int32) q17.2 z.2) z.1 rfl wd_907 wd_904 wd_906 wd_50 wd_14 ⟨rfl, hd_X12_found⟩ ⟨Nat.le_of_ble_eq_true rfl, Nat.le_of_ble_eq_true rfl⟩ rfl (Nat.le_of_ble_eq_true rfl) dX12_take_106) (fun hq => (by cases hq))) (fun _ h => absurd h List.not_mem_nil) (fun q18 => ?_)
        exact Sim.fin ⟨dX12_take_109, rfl, rfl⟩ rfl
      · refine S_iinc (pc := 110) (v := a5 + (1 : Int32)) 5 rfl dX12_take_110 (x_inc ic_1) (Nat.le_of_ble_eq_true rfl) rfl ?_
        refine S_goto (pc := 113) (tgt := 75) dX12_take_113 (by decide) ?_
        refine S_sub [1, 2, 3, 4, 5, 0] rfl ?_
        exact ih a0 a1 a2 a3 a4 (a5 + (1 : Int32)) q17.2
set_option maxRecDepth 20000 in
set_option maxHeartbeats 4000000 in
theorem W_X12_take (K : xK) (L : xL) (a0 : Nat) (a1 : Int32) (a2 : Int32) (a3 : Int32) (a4 : Int32) (h : xH) : Sim K L cX12_take RX12 "take" 6 3 (fun q : Int32 × xH => q.2) (xRi cX12_take) 0 [(0, .ref a0), (1, .int a1), (2, .int a2), (3, .int a3), (4, .int a4)] [] h (f_X12_take a0 a1 a2 a3 a4 h) := by
  unfold f_X12_take
  refine S_iload_n (pc := 0) 1 rfl dX12_take_0 rfl ?_
  refine S_call_i (pc := 1) (rest := []) (fun q hq => R_S (av := [.int a1]) (M_X12_isVector _ a1 h hq) wd_947 wd_945 wd_946 wd_50 hd_X12_isVector ⟨Nat.le_of_ble_eq_true rfl, Nat.le_of_ble_eq_true rfl⟩ rfl (Nat.le_of_ble_eq_true rfl) dX12_take_1) (fun _ h => absurd h List.not_mem_nil) (fun q1 => ?_)
  refine S_if_eq (pc := 4) (tgt := 28) dX12_take_4 (by decide) ?_ ?_
  · refine S_ldc (pc := 28) wd_903 dX12_take_28 ?_
    exact Sim.fin ⟨dX12_take_30, rfl, rfl⟩ rfl
  · refine S_iload_n (pc := 7) 3 rfl dX12_take_7 rfl ?_
    refine S_call_i (pc := 8) (rest := []) (fun q hq => R_S (av := [.int a3]) (M_X12_isRow _ a3 q1.2 hq) wd_899 wd_897 wd_898 wd_50 hd_X12_isRow ⟨Nat.le_of_ble_eq_true rfl, Nat.le_of_ble_eq_true rfl⟩ rfl (Nat.le_of_ble_eq_true rfl) dX12_take_8) (fun _ h => absurd h List.not_mem_nil) (fun q2 => ?_)
    refine S_if_eq (pc := 11) (tgt := 28) dX12_take_11 (by decide) ?_ ?_
    · refine S_ldc (pc := 28) wd_903 dX12_take_28 ?_
      exact Sim.fin ⟨dX12_take_30, rfl, rfl⟩ rfl
    · refine S_iload_n (pc := 14) 2 rfl dX12_take_14 rfl ?_
      refine S_sipush (pc := 15) dX12_take_15 si_480 ?_
      refine S_icmp_gt (pc := 18) (tgt := 28) dX12_take_18 (by decide) ?_ ?_
      · refine S_ldc (pc := 28) wd_903 dX12_take_28 ?_
        exact Sim.fin ⟨dX12_take_30, rfl, rfl⟩ rfl
      · refine S_iload (pc := 21) 4 rfl dX12_take_21 ?_
        refine S_bipush (pc := 23) dX12_take_23 bi_40 ?_
        refine S_icmp_le (pc := 25) (tgt := 31) dX12_take_25 (by decide) ?_ ?_
        · refine S_iload_n (pc := 31) 2 rfl dX12_take_31 rfl ?_
          refine S_if_ge (pc := 32) (tgt := 41) dX12_take_32 (by decide) ?_ ?_
          · refine S_aload_n (pc := 41) 0 rfl dX12_take_41 rfl ?_
            refine S_iload_n (pc := 42) 3 rfl dX12_take_42 rfl ?_
            refine S_call_i (pc := 43) (rest := []) (fun q hq => (x_if hq).elim (fun z => R_V (av := [.int a3]) (q := (RX12, TX12, 28)) (M_X12_isMissing _ a0 a3 q2.2 z.2) z.1 rfl wd_920 wd_917 wd_919 wd_50 wd_16 ⟨rfl, hd_X12_isMissing⟩ ⟨Nat.le_of_ble_eq_true rfl, Nat.le_of_ble_eq_true rfl⟩ rfl (Nat.le_of_ble_eq_true rfl) dX12_take_43) (fun hq => (by cases hq))) (fun _ h => absurd h List.not_mem_nil) (fun q3 => ?_)
            refine S_if_eq (pc := 46) (tgt := 55) dX12_take_46 (by decide) ?_ ?_
            · refine S_aload_n (pc := 55) 0 rfl dX12_take_55 rfl ?_
              refine S_iload_n (pc := 56) 3 rfl dX12_take_56 rfl ?_
              refine S_iconst (pc := 57) dX12_take_57 ic_0 ?_
              refine S_iload (pc := 58) 4 rfl dX12_take_58 ?_
              refine S_call_i (pc := 60) (rest := []) (fun q hq => (x_if hq).elim (fun z => R_V (av := [.int a3, .int (0 : Int32), .int a4]) (q := (RX12, TX12, 28)) (M_X12_isPart _ a0 a3 (0 : Int32) a4 q3.2 z.2) z.1 rfl wd_931 wd_928 wd_930 wd_50 wd_17 ⟨rfl, hd_X12_isPart⟩ ⟨Nat.le_of_ble_eq_true rfl, Nat.le_of_ble_eq_true rfl⟩ rfl (Nat.le_of_ble_eq_true rfl) dX12_take_60) (fun hq => (by cases hq))) (fun _ h => absurd h List.not_mem_nil) (fun q4 => ?_)
              refine S_if_ne (pc := 63) (tgt := 72) dX12_take_63 (by decide) ?_ ?_
              · refine S_aload_n (pc := 66) 0 rfl dX12_take_66 rfl ?_
                refine S_iconst (pc := 67) dX12_take_67 ic_2 ?_
                refine S_call_i (pc := 68) (rest := []) (fun q hq => (x_if hq).elim (fun z => R_V (av := [.int (2 : Int32)]) (q := (RX12, TX12, 28)) (M_X12_found _ a0 (2 : Int32) q4.2 z.2) z.1 rfl wd_907 wd_904 wd_906 wd_50 wd_14 ⟨rfl, hd_X12_found⟩ ⟨Nat.le_of_ble_eq_true rfl, Nat.le_of_ble_eq_true rfl⟩ rfl (Nat.le_of_ble_eq_true rfl) dX12_take_68) (fun hq => (by cases hq))) (fun _ h => absurd h List.not_mem_nil) (fun q5 => ?_)
                exact Sim.fin ⟨dX12_take_71, rfl, rfl⟩ rfl
              · refine S_iconst (pc := 72) dX12_take_72 ic_0 ?_
                refine S_istore (pc := 73) dX12_take_73 (Nat.le_of_ble_eq_true rfl) rfl ?_
                refine S_sub [1, 2, 3, 4, 5, 0] rfl ?_
                exact L_X12_take_75 K L xN a0 a1 a2 a3 a4 (0 : Int32) q4.2
            · refine S_aload_n (pc := 49) 0 rfl dX12_take_49 rfl ?_
              refine S_iconst (pc := 50) dX12_take_50 ic_1 ?_
              refine S_call_i (pc := 51) (rest := []) (fun q hq => (x_if hq).elim (fun z => R_V (av := [.int (1 : Int32)]) (q := (RX12, TX12, 28)) (M_X12_found _ a0 (1 : Int32) q3.2 z.2) z.1 rfl wd_907 wd_904 wd_906 wd_50 wd_14 ⟨rfl, hd_X12_found⟩ ⟨Nat.le_of_ble_eq_true rfl, Nat.le_of_ble_eq_true rfl⟩ rfl (Nat.le_of_ble_eq_true rfl) dX12_take_51) (fun hq => (by cases hq))) (fun _ h => absurd h List.not_mem_nil) (fun q19 => ?_)
              exact Sim.fin ⟨dX12_take_54, rfl, rfl⟩ rfl
          · refine S_aload_n (pc := 35) 0 rfl dX12_take_35 rfl ?_
            refine S_iconst (pc := 36) dX12_take_36 ic_4 ?_
            refine S_call_i (pc := 37) (rest := []) (fun q hq => (x_if hq).elim (fun z => R_V (av := [.int (4 : Int32)]) (q := (RX12, TX12, 28)) (M_X12_found _ a0 (4 : Int32) q2.2 z.2) z.1 rfl wd_907 wd_904 wd_906 wd_50 wd_14 ⟨rfl, hd_X12_found⟩ ⟨Nat.le_of_ble_eq_true rfl, Nat.le_of_ble_eq_true rfl⟩ rfl (Nat.le_of_ble_eq_true rfl) dX12_take_37) (fun hq => (by cases hq))) (fun _ h => absurd h List.not_mem_nil) (fun q20 => ?_)
            exact Sim.fin ⟨dX12_take_40, rfl, rfl⟩ rfl
        · refine S_ldc (pc := 28) wd_903 dX12_take_28 ?_
          exact Sim.fin ⟨dX12_take_30, rfl, rfl⟩ rfl
theorem M_X12_take (l : Launch) (a0 : Nat) (a1 : Int32) (a2 : Int32) (a3 : Int32) (a4 : Int32) (h : xH) {q : Int32 × xH} (hq : f_X12_take a0 a1 a2 a3 a4 h = some q) : xM l yX12_take cX12_take 6 (some .int) 3 [.ref a0, .int a1, .int a2, .int a3, .int a4] h (some (.int q.1)) q.2 := xM_i (by decide +kernel) (Nat.le_of_ble_eq_true rfl) (fun K L => W_X12_take K L a0 a1 a2 a3 a4 h) hq
theorem dX12_tell_0 : decode cX12_tell 0 = .ok (.iload_n 1, 1) := by decide +kernel
theorem dX12_tell_1 : decode cX12_tell 1 = .ok (.invokestatic 130, 3) := by decide +kernel
theorem dX12_tell_4 : decode cX12_tell 4 = .ok (.ifCond .eq 14, 3) := by decide +kernel
theorem dX12_tell_7 : decode cX12_tell 7 = .ok (.iload_n 2, 1) := by decide +kernel
theorem dX12_tell_8 : decode cX12_tell 8 = .ok (.ifCond .lt 10, 3) := by decide +kernel
theorem dX12_tell_11 : decode cX12_tell 11 = .ok (.iload_n 3, 1) := by decide +kernel
theorem dX12_tell_12 : decode cX12_tell 12 = .ok (.invokestatic 69, 3) := by decide +kernel
theorem dX12_tell_15 : decode cX12_tell 15 = .ok (.ifCond .ne 6, 3) := by decide +kernel
theorem dX12_tell_18 : decode cX12_tell 18 = .ok (.ldc 73, 2) := by decide +kernel
theorem dX12_tell_20 : decode cX12_tell 20 = .ok (.ireturn, 1) := by decide +kernel
theorem dX12_tell_21 : decode cX12_tell 21 = .ok (.aload_n 0, 1) := by decide +kernel
theorem dX12_tell_22 : decode cX12_tell 22 = .ok (.iload_n 3, 1) := by decide +kernel
theorem dX12_tell_23 : decode cX12_tell 23 = .ok (.invokevirtual 81, 3) := by decide +kernel
theorem dX12_tell_26 : decode cX12_tell 26 = .ok (.ifCond .eq 9, 3) := by decide +kernel
theorem dX12_tell_29 : decode cX12_tell 29 = .ok (.aload_n 0, 1) := by decide +kernel
theorem dX12_tell_30 : decode cX12_tell 30 = .ok (.iconst 1, 1) := by decide +kernel
theorem dX12_tell_31 : decode cX12_tell 31 = .ok (.invokevirtual 74, 3) := by decide +kernel
theorem dX12_tell_34 : decode cX12_tell 34 = .ok (.ireturn, 1) := by decide +kernel
theorem dX12_tell_35 : decode cX12_tell 35 = .ok (.iload 4, 2) := by decide +kernel
theorem dX12_tell_37 : decode cX12_tell 37 = .ok (.iconst 0, 1) := by decide +kernel
theorem dX12_tell_38 : decode cX12_tell 38 = .ok (.aload_n 0, 1) := by decide +kernel
theorem dX12_tell_39 : decode cX12_tell 39 = .ok (.getfield 13, 3) := by decide +kernel
theorem dX12_tell_42 : decode cX12_tell 42 = .ok (.iload_n 3, 1) := by decide +kernel
theorem dX12_tell_43 : decode cX12_tell 43 = .ok (.iaload, 1) := by decide +kernel
theorem dX12_tell_44 : decode cX12_tell 44 = .ok (.invokestatic 65, 3) := by decide +kernel
theorem dX12_tell_47 : decode cX12_tell 47 = .ok (.ifCond .ne 9, 3) := by decide +kernel
theorem dX12_tell_50 : decode cX12_tell 50 = .ok (.aload_n 0, 1) := by decide +kernel
theorem dX12_tell_51 : decode cX12_tell 51 = .ok (.iconst 2, 1) := by decide +kernel
theorem dX12_tell_52 : decode cX12_tell 52 = .ok (.invokevirtual 74, 3) := by decide +kernel
theorem dX12_tell_55 : decode cX12_tell 55 = .ok (.ireturn, 1) := by decide +kernel
theorem dX12_tell_56 : decode cX12_tell 56 = .ok (.iload_n 2, 1) := by decide +kernel
theorem dX12_tell_57 : decode cX12_tell 57 = .ok (.istore 5, 2) := by decide +kernel
theorem dX12_tell_59 : decode cX12_tell 59 = .ok (.iconst 0, 1) := by decide +kernel
theorem dX12_tell_60 : decode cX12_tell 60 = .ok (.istore 6, 2) := by decide +kernel
theorem dX12_tell_62 : decode cX12_tell 62 = .ok (.iconst 0, 1) := by decide +kernel
theorem dX12_tell_63 : decode cX12_tell 63 = .ok (.istore 7, 2) := by decide +kernel
theorem dX12_tell_65 : decode cX12_tell 65 = .ok (.iload 7, 2) := by decide +kernel
theorem dX12_tell_67 : decode cX12_tell 67 = .ok (.aload_n 0, 1) := by decide +kernel
theorem dX12_tell_68 : decode cX12_tell 68 = .ok (.iload_n 1, 1) := by decide +kernel
theorem dX12_tell_69 : decode cX12_tell 69 = .ok (.invokevirtual 167, 3) := by decide +kernel
theorem dX12_tell_72 : decode cX12_tell 72 = .ok (.if_icmp .ge 86, 3) := by decide +kernel
theorem dX12_tell_75 : decode cX12_tell 75 = .ok (.aload_n 0, 1) := by decide +kernel
theorem dX12_tell_76 : decode cX12_tell 76 = .ok (.getfield 25, 3) := by decide +kernel
theorem dX12_tell_79 : decode cX12_tell 79 = .ok (.iload_n 1, 1) := by decide +kernel
theorem dX12_tell_80 : decode cX12_tell 80 = .ok (.iload 7, 2) := by decide +kernel
theorem dX12_tell_82 : decode cX12_tell 82 = .ok (.invokestatic 163, 3) := by decide +kernel
theorem dX12_tell_85 : decode cX12_tell 85 = .ok (.iconst 1, 1) := by decide +kernel
theorem dX12_tell_86 : decode cX12_tell 86 = .ok (.if_icmp .ne 66, 3) := by decide +kernel
theorem dX12_tell_89 : decode cX12_tell 89 = .ok (.iload 5, 2) := by decide +kernel
theorem dX12_tell_91 : decode cX12_tell 91 = .ok (.ifCond .ne 46, 3) := by decide +kernel
theorem dX12_tell_94 : decode cX12_tell 94 = .ok (.iload 4, 2) := by decide +kernel
theorem dX12_tell_96 : decode cX12_tell 96 = .ok (.iload 6, 2) := by decide +kernel
theorem dX12_tell_98 : decode cX12_tell 98 = .ok (.iadd, 1) := by decide +kernel
theorem dX12_tell_99 : decode cX12_tell 99 = .ok (.aload_n 0, 1) := by decide +kernel
theorem dX12_tell_100 : decode cX12_tell 100 = .ok (.getfield 13, 3) := by decide +kernel
theorem dX12_tell_103 : decode cX12_tell 103 = .ok (.iload_n 3, 1) := by decide +kernel
theorem dX12_tell_104 : decode cX12_tell 104 = .ok (.iaload, 1) := by decide +kernel
theorem dX12_tell_105 : decode cX12_tell 105 = .ok (.if_icmp .ge 32, 3) := by decide +kernel
theorem dX12_tell_108 : decode cX12_tell 108 = .ok (.aload_n 0, 1) := by decide +kernel
theorem dX12_tell_109 : decode cX12_tell 109 = .ok (.getfield 16, 3) := by decide +kernel
theorem dX12_tell_112 : decode cX12_tell 112 = .ok (.bipush 40, 2) := by decide +kernel
theorem dX12_tell_114 : decode cX12_tell 114 = .ok (.iload_n 3, 1) := by decide +kernel
theorem dX12_tell_115 : decode cX12_tell 115 = .ok (.imul, 1) := by decide +kernel
theorem dX12_tell_116 : decode cX12_tell 116 = .ok (.iload 4, 2) := by decide +kernel
theorem dX12_tell_118 : decode cX12_tell 118 = .ok (.iadd, 1) := by decide +kernel
theorem dX12_tell_119 : decode cX12_tell 119 = .ok (.iload 6, 2) := by decide +kernel
theorem dX12_tell_121 : decode cX12_tell 121 = .ok (.iadd, 1) := by decide +kernel
theorem dX12_tell_122 : decode cX12_tell 122 = .ok (.aload_n 0, 1) := by decide +kernel
theorem dX12_tell_123 : decode cX12_tell 123 = .ok (.getfield 7, 3) := by decide +kernel
theorem dX12_tell_126 : decode cX12_tell 126 = .ok (.iload_n 3, 1) := by decide +kernel
theorem dX12_tell_127 : decode cX12_tell 127 = .ok (.iaload, 1) := by decide +kernel
theorem dX12_tell_128 : decode cX12_tell 128 = .ok (.iload 7, 2) := by decide +kernel
theorem dX12_tell_130 : decode cX12_tell 130 = .ok (.invokestatic 84, 3) := by decide +kernel
theorem dX12_tell_133 : decode cX12_tell 133 = .ok (.iastore, 1) := by decide +kernel
theorem dX12_tell_134 : decode cX12_tell 134 = .ok (.iinc 6 1, 3) := by decide +kernel
theorem dX12_tell_137 : decode cX12_tell 137 = .ok (.iload 5, 2) := by decide +kernel
theorem dX12_tell_139 : decode cX12_tell 139 = .ok (.iload 5, 2) := by decide +kernel
theorem dX12_tell_141 : decode cX12_tell 141 = .ok (.ifCond .le 7, 3) := by decide +kernel
theorem dX12_tell_144 : decode cX12_tell 144 = .ok (.iconst 1, 1) := by decide +kernel
theorem dX12_tell_145 : decode cX12_tell 145 = .ok (.goto 4, 3) := by decide +kernel
theorem dX12_tell_148 : decode cX12_tell 148 = .ok (.iconst 0, 1) := by decide +kernel
theorem dX12_tell_149 : decode cX12_tell 149 = .ok (.isub, 1) := by decide +kernel
theorem dX12_tell_150 : decode cX12_tell 150 = .ok (.istore 5, 2) := by decide +kernel
theorem dX12_tell_152 : decode cX12_tell 152 = .ok (.iinc 7 1, 3) := by decide +kernel
theorem dX12_tell_155 : decode cX12_tell 155 = .ok (.goto (-90), 3) := by decide +kernel
theorem dX12_tell_158 : decode cX12_tell 158 = .ok (.aload_n 0, 1) := by decide +kernel
theorem dX12_tell_159 : decode cX12_tell 159 = .ok (.iload 6, 2) := by decide +kernel
theorem dX12_tell_161 : decode cX12_tell 161 = .ok (.invokevirtual 78, 3) := by decide +kernel
theorem dX12_tell_164 : decode cX12_tell 164 = .ok (.ireturn, 1) := by decide +kernel
set_option maxRecDepth 20000 in
set_option maxHeartbeats 4000000 in
theorem L_X12_tell_65 (K : xK) (L : xL) : ∀ (n : Nat) (a0 : Nat) (a1 : Int32) (a3 : Int32) (a4 : Int32) (a5 : Int32) (a6 : Int32) (a7 : Int32) (h : xH), Sim K L cX12_tell RX12 "tell" 8 2 (fun q : Int32 × Int32 × Int32 × xH => q.2.2.2) (fun q pc' ls' st' h' => pc' = 158 ∧ ls' = [(0, .ref a0), (1, .int a1), (3, .int a3), (4, .int a4), (5, .int q.1), (6, .int q.2.1), (7, .int q.2.2.1)] ∧ st' = [] ∧ h' = q.2.2.2) 65 [(0, .ref a0), (1, .int a1), (3, .int a3), (4, .int a4), (5, .int a5), (6, .int a6), (7, .int a7)] [] h (f_X12_tell_L65 n a0 a1 a3 a4 a5 a6 a7 h) := by
  intro n
  induction n with
  | zero =>
    intro a0 a1 a3 a4 a5 a6 a7 h
    exact Sim.none
  | succ n ih =>
    intro a0 a1 a3 a4 a5 a6 a7 h
    unfold f_X12_tell_L65
    refine S_iload (pc := 65) 6 rfl dX12_tell_65 ?_
    refine S_aload_n (pc := 67) 0 rfl dX12_tell_67 rfl ?_
    refine S_iload_n (pc := 68) 1 rfl dX12_tell_68 rfl ?_
    refine S_call_i (pc := 69) (rest := [.int a7]) (fun q hq => (x_if hq).elim (fun z => R_V (av := [.int a1]) (q := (RX12, TX12, 28)) (M_X12_bitsOf _ a0 a1 h z.2) z.1 rfl wd_1012 wd_1009 wd_1011 wd_50 wd_28 ⟨rfl, hd_X12_bitsOf⟩ ⟨Nat.le_of_ble_eq_true rfl, Nat.le_of_ble_eq_true rfl⟩ rfl (Nat.le_of_ble_eq_true rfl) dX12_tell_69) (fun hq => (by cases hq))) (fun _ h => List.mem_cons_of_mem _ (List.mem_cons_of_mem _ (h))) (fun q8 => ?_)
    refine S_icmp_ge (pc := 72) (tgt := 158) dX12_tell_72 (by decide) ?_ ?_
    · refine S_sub [0, 1, 2, 3, 4, 5, 6] rfl ?_
      exact Sim.fin ⟨rfl, rfl, rfl, rfl⟩ rfl
    · refine S_aload_n (pc := 75) 0 rfl dX12_tell_75 rfl ?_
      refine S_getR (pc := 76) fd_X12_now wd_821 dX12_tell_76 (fun v9 => ?_)
      refine S_iload_n (pc := 79) 1 rfl dX12_tell_79 rfl ?_
      refine S_iload (pc := 80) 6 rfl dX12_tell_80 ?_
      refine S_call_i (pc := 82) (rest := []) (fun q hq => R_S (av := [.ref v9, .int a1, .int a7]) (M_X12_bit _ v9 a1 a7 q8.2 hq) wd_1018 wd_1016 wd_1017 wd_50 hd_X12_bit ⟨Nat.le_of_ble_eq_true rfl, Nat.le_of_ble_eq_true rfl⟩ rfl (Nat.le_of_ble_eq_true rfl) dX12_tell_82) (fun _ h => absurd h List.not_mem_nil) (fun q10 => ?_)
      refine S_iconst (pc := 85) dX12_tell_85 ic_1 ?_
      refine S_icmp_ne (pc := 86) (tgt := 152) dX12_tell_86 (by decide) ?_ ?_
      · refine S_iload (pc := 89) 4 rfl dX12_tell_89 ?_
        refine S_if_ne (pc := 91) (tgt := 137) dX12_tell_91 (by decide) ?_ ?_
        · refine S_iload (pc := 94) 3 rfl dX12_tell_94 ?_
          refine S_iload (pc := 96) 5 rfl dX12_tell_96 ?_
          refine S_iadd (pc := 98) dX12_tell_98 ?_
          refine S_aload_n (pc := 99) 0 rfl dX12_tell_99 rfl ?_
          refine S_getR (pc := 100) fd_X12_many wd_809 dX12_tell_100 (fun v11 => ?_)
          refine S_iload_n (pc := 103) 2 rfl dX12_tell_103 rfl ?_
          refine S_aI (pc := 104) dX12_tell_104 (fun v12 => ?_)
          refine S_icmp_ge (pc := 105) (tgt := 137) dX12_tell_105 (by decide) ?_ ?_
          · refine S_iload (pc := 137) 4 rfl dX12_tell_137 ?_
            refine S_iload (pc := 139) 4 rfl dX12_tell_139 ?_
            refine Sim.cut (pc' := 149) (st' := [.int (if a5 ≤ 0 then (0 : Int32) else (1 : Int32)), .int a5]) ?_ (fun kc => ?_)
            · refine S_isub (pc := 149) dX12_tell_149 ?_
              refine S_istore (pc := 150) dX12_tell_150 (Nat.le_of_ble_eq_true rfl) rfl ?_
              refine S_iinc (pc := 152) (v := a7 + (1 : Int32)) 6 rfl dX12_tell_152 (x_inc ic_1) (Nat.le_of_ble_eq_true rfl) rfl ?_
              refine S_goto (pc := 155) (tgt := 65) dX12_tell_155 (by decide) ?_
              refine S_sub [2, 3, 4, 5, 1, 6, 0] rfl ?_
              exact ih a0 a1 a3 a4 (a5 - (if a5 ≤ 0 then (0 : Int32) else (1 : Int32))) a6 (a7 + (1 : Int32)) q10.2
            · refine D_if_le (pc := 141) (tgt := 148) dX12_tell_141 (by decide) (fun c13 => ?_) (fun c13 => ?_)
              · refine S_iconst (pc := 148) dX12_tell_148 ic_0 ?_
                exact x_st (by rw [if_pos c13]) kc
              · refine S_iconst (pc := 144) dX12_tell_144 ic_1 ?_
                refine S_goto (pc := 145) (tgt := 149) dX12_tell_145 (by decide) ?_
                exact x_st (by rw [if_neg c13]) kc
          · refine S_aload_n (pc := 108) 0 rfl dX12_tell_108 rfl ?_
            refine S_getR (pc := 109) fd_X12_items wd_810 dX12_tell_109 (fun v14 => ?_)
            refine S_bipush (pc := 112) dX12_tell_112 bi_40 ?_
            refine S_iload_n (pc := 114) 2 rfl dX12_tell_114 rfl ?_
            refine S_imul (pc := 115) dX12_tell_115 ?_
            refine S_iload (pc := 116) 3 rfl dX12_tell_116 ?_
            refine S_iadd (pc := 118) dX12_tell_118 ?_
            refine S_iload (pc := 119) 5 rfl dX12_tell_119 ?_
            refine S_iadd (pc := 121) dX12_tell_121 ?_
            refine S_aload_n (pc := 122) 0 rfl dX12_tell_122 rfl ?_
            refine S_getR (pc := 123) fd_X12_lane wd_808 dX12_tell_123 (fun v15 => ?_)
            refine S_iload_n (pc := 126) 2 rfl dX12_tell_126 rfl ?_
            refine S_aI (pc := 127) dX12_tell_127 (fun v16 => ?_)
            refine S_iload (pc := 128) 6 rfl dX12_tell_128 ?_
            refine S_call_i (pc := 130) (rest := [.int ((((40 : Int32) * a3) + a4) + a6), .ref v14]) (fun q hq => R_S (av := [.int v16, .int a7]) (M_X12_lowest _ v16 a7 q10.2 hq) wd_923 wd_921 wd_922 wd_50 hd_X12_lowest ⟨Nat.le_of_ble_eq_true rfl, Nat.le_of_ble_eq_true rfl⟩ rfl (Nat.le_of_ble_eq_true rfl) dX12_tell_130) (fun _ h => List.mem_cons_of_mem _ (List.mem_cons_of_mem _ (h))) (fun q17 => ?_)
            refine S_uI (pc := 133) dX12_tell_133 (fun h18 => ?_)
            refine S_iinc (pc := 134) (v := a6 + (1 : Int32)) 5 rfl dX12_tell_134 (x_inc ic_1) (Nat.le_of_ble_eq_true rfl) rfl ?_
            refine S_iload (pc := 137) 5 rfl dX12_tell_137 ?_
            refine S_iload (pc := 139) 5 rfl dX12_tell_139 ?_
            refine Sim.cut (pc' := 149) (st' := [.int (if a5 ≤ 0 then (0 : Int32) else (1 : Int32)), .int a5]) ?_ (fun kc => ?_)
            · refine S_isub (pc := 149) dX12_tell_149 ?_
              refine S_istore (pc := 150) dX12_tell_150 (Nat.le_of_ble_eq_true rfl) rfl ?_
              refine S_iinc (pc := 152) (v := a7 + (1 : Int32)) 6 rfl dX12_tell_152 (x_inc ic_1) (Nat.le_of_ble_eq_true rfl) rfl ?_
              refine S_goto (pc := 155) (tgt := 65) dX12_tell_155 (by decide) ?_
              refine S_sub [3, 4, 5, 6, 1, 2, 0] rfl ?_
              exact ih a0 a1 a3 a4 (a5 - (if a5 ≤ 0 then (0 : Int32) else (1 : Int32))) (a6 + (1 : Int32)) (a7 + (1 : Int32)) h18
            · refine D_if_le (pc := 141) (tgt := 148) dX12_tell_141 (by decide) (fun c19 => ?_) (fun c19 => ?_)
              · refine S_iconst (pc := 148) dX12_tell_148 ic_0 ?_
                exact x_st (by rw [if_pos c19]) kc
              · refine S_iconst (pc := 144) dX12_tell_144 ic_1 ?_
                refine S_goto (pc := 145) (tgt := 149) dX12_tell_145 (by decide) ?_
                exact x_st (by rw [if_neg c19]) kc
        · refine S_iload (pc := 137) 4 rfl dX12_tell_137 ?_
          refine S_iload (pc := 139) 4 rfl dX12_tell_139 ?_
          refine Sim.cut (pc' := 149) (st' := [.int (if a5 ≤ 0 then (0 : Int32) else (1 : Int32)), .int a5]) ?_ (fun kc => ?_)
          · refine S_isub (pc := 149) dX12_tell_149 ?_
            refine S_istore (pc := 150) dX12_tell_150 (Nat.le_of_ble_eq_true rfl) rfl ?_
            refine S_iinc (pc := 152) (v := a7 + (1 : Int32)) 6 rfl dX12_tell_152 (x_inc ic_1) (Nat.le_of_ble_eq_true rfl) rfl ?_
            refine S_goto (pc := 155) (tgt := 65) dX12_tell_155 (by decide) ?_
            refine S_sub [2, 3, 4, 5, 1, 6, 0] rfl ?_
            exact ih a0 a1 a3 a4 (a5 - (if a5 ≤ 0 then (0 : Int32) else (1 : Int32))) a6 (a7 + (1 : Int32)) q10.2
          · refine D_if_le (pc := 141) (tgt := 148) dX12_tell_141 (by decide) (fun c20 => ?_) (fun c20 => ?_)
            · refine S_iconst (pc := 148) dX12_tell_148 ic_0 ?_
              exact x_st (by rw [if_pos c20]) kc
            · refine S_iconst (pc := 144) dX12_tell_144 ic_1 ?_
              refine S_goto (pc := 145) (tgt := 149) dX12_tell_145 (by decide) ?_
              exact x_st (by rw [if_neg c20]) kc
      · refine S_iinc (pc := 152) (v := a7 + (1 : Int32)) 6 rfl dX12_tell_152 (x_inc ic_1) (Nat.le_of_ble_eq_true rfl) rfl ?_
        refine S_goto (pc := 155) (tgt := 65) dX12_tell_155 (by decide) ?_
        refine S_sub [1, 2, 3, 4, 5, 6, 0] rfl ?_
        exact ih a0 a1 a3 a4 a5 a6 (a7 + (1 : Int32)) q10.2
set_option maxRecDepth 20000 in
set_option maxHeartbeats 4000000 in
theorem W_X12_tell (K : xK) (L : xL) (a0 : Nat) (a1 : Int32) (a2 : Int32) (a3 : Int32) (a4 : Int32) (h : xH) : Sim K L cX12_tell RX12 "tell" 8 2 (fun q : Int32 × xH => q.2) (xRi cX12_tell) 0 [(0, .ref a0), (1, .int a1), (2, .int a2), (3, .int a3), (4, .int a4)] [] h (f_X12_tell a0 a1 a2 a3 a4 h) := by
  unfold f_X12_tell
  refine S_iload_n (pc := 0) 1 rfl dX12_tell_0 rfl ?_
  refine S_call_i (pc := 1) (rest := []) (fun q hq => R_S (av := [.int a1]) (M_X12_isVector _ a1 h hq) wd_947 wd_945 wd_946 wd_50 hd_X12_isVector ⟨Nat.le_of_ble_eq_true rfl, Nat.le_of_ble_eq_true rfl⟩ rfl (Nat.le_of_ble_eq_true rfl) dX12_tell_1) (fun _ h => absurd h List.not_mem_nil) (fun q1 => ?_)
  refine S_if_eq (pc := 4) (tgt := 18) dX12_tell_4 (by decide) ?_ ?_
  · refine S_ldc (pc := 18) wd_903 dX12_tell_18 ?_
    exact Sim.fin ⟨dX12_tell_20, rfl, rfl⟩ rfl
  · refine S_iload_n (pc := 7) 2 rfl dX12_tell_7 rfl ?_
    refine S_if_lt (pc := 8) (tgt := 18) dX12_tell_8 (by decide) ?_ ?_
    · refine S_ldc (pc := 18) wd_903 dX12_tell_18 ?_
      exact Sim.fin ⟨dX12_tell_20, rfl, rfl⟩ rfl
    · refine S_iload_n (pc := 11) 3 rfl dX12_tell_11 rfl ?_
      refine S_call_i (pc := 12) (rest := []) (fun q hq => R_S (av := [.int a3]) (M_X12_isRow _ a3 q1.2 hq) wd_899 wd_897 wd_898 wd_50 hd_X12_isRow ⟨Nat.le_of_ble_eq_true rfl, Nat.le_of_ble_eq_true rfl⟩ rfl (Nat.le_of_ble_eq_true rfl) dX12_tell_12) (fun _ h => absurd h List.not_mem_nil) (fun q2 => ?_)
      refine S_if_ne (pc := 15) (tgt := 21) dX12_tell_15 (by decide) ?_ ?_
      · refine S_ldc (pc := 18) wd_903 dX12_tell_18 ?_
        exact Sim.fin ⟨dX12_tell_20, rfl, rfl⟩ rfl
      · refine S_aload_n (pc := 21) 0 rfl dX12_tell_21 rfl ?_
        refine S_iload_n (pc := 22) 3 rfl dX12_tell_22 rfl ?_
        refine S_call_i (pc := 23) (rest := []) (fun q hq => (x_if hq).elim (fun z => R_V (av := [.int a3]) (q := (RX12, TX12, 28)) (M_X12_isMissing _ a0 a3 q2.2 z.2) z.1 rfl wd_920 wd_917 wd_919 wd_50 wd_16 ⟨rfl, hd_X12_isMissing⟩ ⟨Nat.le_of_ble_eq_true rfl, Nat.le_of_ble_eq_true rfl⟩ rfl (Nat.le_of_ble_eq_true rfl) dX12_tell_23) (fun hq => (by cases hq))) (fun _ h => absurd h List.not_mem_nil) (fun q3 => ?_)
        refine S_if_eq (pc := 26) (tgt := 35) dX12_tell_26 (by decide) ?_ ?_
        · refine S_iload (pc := 35) 4 rfl dX12_tell_35 ?_
          refine S_iconst (pc := 37) dX12_tell_37 ic_0 ?_
          refine S_aload_n (pc := 38) 0 rfl dX12_tell_38 rfl ?_
          refine S_getR (pc := 39) fd_X12_many wd_809 dX12_tell_39 (fun v4 => ?_)
          refine S_iload_n (pc := 42) 3 rfl dX12_tell_42 rfl ?_
          refine S_aI (pc := 43) dX12_tell_43 (fun v5 => ?_)
          refine S_call_i (pc := 44) (rest := []) (fun q hq => R_S (av := [.int a4, .int (0 : Int32), .int v5]) (M_X12_in _ a4 (0 : Int32) v5 q3.2 hq) wd_902 wd_900 wd_901 wd_50 hd_X12_in ⟨Nat.le_of_ble_eq_true rfl, Nat.le_of_ble_eq_true rfl⟩ rfl (Nat.le_of_ble_eq_true rfl) dX12_tell_44) (fun _ h => absurd h List.not_mem_nil) (fun q6 => ?_)
          refine S_if_ne (pc := 47) (tgt := 56) dX12_tell_47 (by decide) ?_ ?_
          · refine S_aload_n (pc := 50) 0 rfl dX12_tell_50 rfl ?_
            refine S_iconst (pc := 51) dX12_tell_51 ic_2 ?_
            refine S_call_i (pc := 52) (rest := []) (fun q hq => (x_if hq).elim (fun z => R_V (av := [.int (2 : Int32)]) (q := (RX12, TX12, 28)) (M_X12_found _ a0 (2 : Int32) q6.2 z.2) z.1 rfl wd_907 wd_904 wd_906 wd_50 wd_14 ⟨rfl, hd_X12_found⟩ ⟨Nat.le_of_ble_eq_true rfl, Nat.le_of_ble_eq_true rfl⟩ rfl (Nat.le_of_ble_eq_true rfl) dX12_tell_52) (fun hq => (by cases hq))) (fun _ h => absurd h List.not_mem_nil) (fun q7 => ?_)
            exact Sim.fin ⟨dX12_tell_55, rfl, rfl⟩ rfl
          · refine S_iload_n (pc := 56) 2 rfl dX12_tell_56 rfl ?_
            refine S_istore (pc := 57) dX12_tell_57 (Nat.le_of_ble_eq_true rfl) rfl ?_
            refine S_iconst (pc := 59) dX12_tell_59 ic_0 ?_
            refine S_istore (pc := 60) dX12_tell_60 (Nat.le_of_ble_eq_true rfl) rfl ?_
            refine S_iconst (pc := 62) dX12_tell_62 ic_0 ?_
            refine S_istore (pc := 63) dX12_tell_63 (Nat.le_of_ble_eq_true rfl) rfl ?_
            refine S_sub [3, 4, 6, 7, 2, 1, 0] rfl ?_
            refine Sim.bind (hs := fun q21 : Int32 × Int32 × Int32 × xH => q21.2.2.2) (px := 158) (lsx := fun q21 => [(0, .ref a0), (1, .int a1), (3, .int a3), (4, .int a4), (5, .int q21.1), (6, .int q21.2.1), (7, .int q21.2.2.1)]) (L_X12_tell_65 K L xN a0 a1 a3 a4 a2 (0 : Int32) (0 : Int32) q6.2) (fun q21 => ?_)
            refine S_aload_n (pc := 158) 0 rfl dX12_tell_158 rfl ?_
            refine S_iload (pc := 159) 5 rfl dX12_tell_159 ?_
            refine S_call_i (pc := 161) (rest := []) (fun q hq => (x_if hq).elim (fun z => R_V (av := [.int q21.2.1]) (q := (RX12, TX12, 28)) (M_X12_well _ a0 q21.2.1 q21.2.2.2 z.2) z.1 rfl wd_912 wd_909 wd_911 wd_50 wd_15 ⟨rfl, hd_X12_well⟩ ⟨Nat.le_of_ble_eq_true rfl, Nat.le_of_ble_eq_true rfl⟩ rfl (Nat.le_of_ble_eq_true rfl) dX12_tell_161) (fun hq => (by cases hq))) (fun _ h => absurd h List.not_mem_nil) (fun q22 => ?_)
            exact Sim.fin ⟨dX12_tell_164, rfl, rfl⟩ rfl
        · refine S_aload_n (pc := 29) 0 rfl dX12_tell_29 rfl ?_
          refine S_iconst (pc := 30) dX12_tell_30 ic_1 ?_
          refine S_call_i (pc := 31) (rest := []) (fun q hq => (x_if hq).elim (fun z => R_V (av := [.int (1 : Int32)]) (q := (RX12, TX12, 28)) (M_X12_found _ a0 (1 : Int32) q3.2 z.2) z.1 rfl wd_907 wd_904 wd_906 wd_50 wd_14 ⟨rfl, hd_X12_found⟩ ⟨Nat.le_of_ble_eq_true rfl, Nat.le_of_ble_eq_true rfl⟩ rfl (Nat.le_of_ble_eq_true rfl) dX12_tell_31) (fun hq => (by cases hq))) (fun _ h => absurd h List.not_mem_nil) (fun q23 => ?_)
          exact Sim.fin ⟨dX12_tell_34, rfl, rfl⟩ rfl
theorem M_X12_tell (l : Launch) (a0 : Nat) (a1 : Int32) (a2 : Int32) (a3 : Int32) (a4 : Int32) (h : xH) {q : Int32 × xH} (hq : f_X12_tell a0 a1 a2 a3 a4 h = some q) : xM l yX12_tell cX12_tell 8 (some .int) 2 [.ref a0, .int a1, .int a2, .int a3, .int a4] h (some (.int q.1)) q.2 := xM_i (by decide +kernel) (Nat.le_of_ble_eq_true rfl) (fun K L => W_X12_tell K L a0 a1 a2 a3 a4 h) hq
theorem dX12_trace_0 : decode cX12_trace 0 = .ok (.iload_n 1, 1) := by decide +kernel
theorem dX12_trace_1 : decode cX12_trace 1 = .ok (.iconst 0, 1) := by decide +kernel
theorem dX12_trace_2 : decode cX12_trace 2 = .ok (.aload_n 0, 1) := by decide +kernel
theorem dX12_trace_3 : decode cX12_trace 3 = .ok (.getfield 233, 3) := by decide +kernel
theorem dX12_trace_6 : decode cX12_trace 6 = .ok (.iconst 1, 1) := by decide +kernel
theorem dX12_trace_7 : decode cX12_trace 7 = .ok (.isub, 1) := by decide +kernel
theorem dX12_trace_8 : decode cX12_trace 8 = .ok (.invokestatic 65, 3) := by decide +kernel
theorem dX12_trace_11 : decode cX12_trace 11 = .ok (.ifCond .eq 12, 3) := by decide +kernel
theorem dX12_trace_14 : decode cX12_trace 14 = .ok (.aload_n 0, 1) := by decide +kernel
theorem dX12_trace_15 : decode cX12_trace 15 = .ok (.getfield 56, 3) := by decide +kernel
theorem dX12_trace_18 : decode cX12_trace 18 = .ok (.iload_n 1, 1) := by decide +kernel
theorem dX12_trace_19 : decode cX12_trace 19 = .ok (.iaload, 1) := by decide +kernel
theorem dX12_trace_20 : decode cX12_trace 20 = .ok (.goto 5, 3) := by decide +kernel
theorem dX12_trace_23 : decode cX12_trace 23 = .ok (.ldc 59, 2) := by decide +kernel
theorem dX12_trace_25 : decode cX12_trace 25 = .ok (.ireturn, 1) := by decide +kernel
set_option maxRecDepth 20000 in
set_option maxHeartbeats 4000000 in
theorem W_X12_trace (K : xK) (L : xL) (a0 : Nat) (a1 : Int32) (h : xH) : Sim K L cX12_trace RX12 "trace" 2 1 (fun q : Int32 × xH => q.2) (xRi cX12_trace) 0 [(0, .ref a0), (1, .int a1)] [] h (f_X12_trace a0 a1 h) := by
  unfold f_X12_trace
  refine S_iload_n (pc := 0) 1 rfl dX12_trace_0 rfl ?_
  refine S_iconst (pc := 1) dX12_trace_1 ic_0 ?_
  refine S_aload_n (pc := 2) 0 rfl dX12_trace_2 rfl ?_
  refine S_getI (pc := 3) fd_X12_traced wd_835 dX12_trace_3 (fun v1 => ?_)
  refine S_iconst (pc := 6) dX12_trace_6 ic_1 ?_
  refine S_isub (pc := 7) dX12_trace_7 ?_
  refine S_call_i (pc := 8) (rest := []) (fun q hq => R_S (av := [.int a1, .int (0 : Int32), .int (v1 - (1 : Int32))]) (M_X12_in _ a1 (0 : Int32) (v1 - (1 : Int32)) h hq) wd_902 wd_900 wd_901 wd_50 hd_X12_in ⟨Nat.le_of_ble_eq_true rfl, Nat.le_of_ble_eq_true rfl⟩ rfl (Nat.le_of_ble_eq_true rfl) dX12_trace_8) (fun _ h => absurd h List.not_mem_nil) (fun q2 => ?_)
  refine S_if_eq (pc := 11) (tgt := 23) dX12_trace_11 (by decide) ?_ ?_
  · refine S_ldc (pc := 23) wd_807 dX12_trace_23 ?_
    exact Sim.fin ⟨dX12_trace_25, rfl, rfl⟩ rfl
  · refine S_aload_n (pc := 14) 0 rfl dX12_trace_14 rfl ?_
    refine S_getR (pc := 15) fd_X12_trace wd_834 dX12_trace_15 (fun v3 => ?_)
    refine S_iload_n (pc := 18) 1 rfl dX12_trace_18 rfl ?_
    refine S_aI (pc := 19) dX12_trace_19 (fun v4 => ?_)
    refine S_goto (pc := 20) (tgt := 25) dX12_trace_20 (by decide) ?_
    exact Sim.fin ⟨dX12_trace_25, rfl, rfl⟩ rfl
theorem M_X12_trace (l : Launch) (a0 : Nat) (a1 : Int32) (h : xH) {q : Int32 × xH} (hq : f_X12_trace a0 a1 h = some q) : xM l yX12_trace cX12_trace 2 (some .int) 1 [.ref a0, .int a1] h (some (.int q.1)) q.2 := xM_i (by decide +kernel) (Nat.le_of_ble_eq_true rfl) (fun K L => W_X12_trace K L a0 a1 h) hq
theorem dX12_turn_0 : decode cX12_turn 0 = .ok (.iload_n 1, 1) := by decide +kernel
theorem dX12_turn_1 : decode cX12_turn 1 = .ok (.invokestatic 130, 3) := by decide +kernel
theorem dX12_turn_4 : decode cX12_turn 4 = .ok (.ifCond .ne 6, 3) := by decide +kernel
theorem dX12_turn_7 : decode cX12_turn 7 = .ok (.ldc 73, 2) := by decide +kernel
theorem dX12_turn_9 : decode cX12_turn 9 = .ok (.ireturn, 1) := by decide +kernel
theorem dX12_turn_10 : decode cX12_turn 10 = .ok (.aload_n 0, 1) := by decide +kernel
theorem dX12_turn_11 : decode cX12_turn 11 = .ok (.invokevirtual 143, 3) := by decide +kernel
theorem dX12_turn_14 : decode cX12_turn 14 = .ok (.iconst 0, 1) := by decide +kernel
theorem dX12_turn_15 : decode cX12_turn 15 = .ok (.istore_n 2, 1) := by decide +kernel
theorem dX12_turn_16 : decode cX12_turn 16 = .ok (.iload_n 2, 1) := by decide +kernel
theorem dX12_turn_17 : decode cX12_turn 17 = .ok (.aload_n 0, 1) := by decide +kernel
theorem dX12_turn_18 : decode cX12_turn 18 = .ok (.iload_n 1, 1) := by decide +kernel
theorem dX12_turn_19 : decode cX12_turn 19 = .ok (.invokevirtual 167, 3) := by decide +kernel
theorem dX12_turn_22 : decode cX12_turn 22 = .ok (.if_icmp .ge 29, 3) := by decide +kernel
theorem dX12_turn_25 : decode cX12_turn 25 = .ok (.aload_n 0, 1) := by decide +kernel
theorem dX12_turn_26 : decode cX12_turn 26 = .ok (.getfield 25, 3) := by decide +kernel
theorem dX12_turn_29 : decode cX12_turn 29 = .ok (.iload_n 1, 1) := by decide +kernel
theorem dX12_turn_30 : decode cX12_turn 30 = .ok (.iload_n 2, 1) := by decide +kernel
theorem dX12_turn_31 : decode cX12_turn 31 = .ok (.iconst 1, 1) := by decide +kernel
theorem dX12_turn_32 : decode cX12_turn 32 = .ok (.aload_n 0, 1) := by decide +kernel
theorem dX12_turn_33 : decode cX12_turn 33 = .ok (.getfield 25, 3) := by decide +kernel
theorem dX12_turn_36 : decode cX12_turn 36 = .ok (.iload_n 1, 1) := by decide +kernel
theorem dX12_turn_37 : decode cX12_turn 37 = .ok (.iload_n 2, 1) := by decide +kernel
theorem dX12_turn_38 : decode cX12_turn 38 = .ok (.invokestatic 163, 3) := by decide +kernel
theorem dX12_turn_41 : decode cX12_turn 41 = .ok (.isub, 1) := by decide +kernel
theorem dX12_turn_42 : decode cX12_turn 42 = .ok (.invokestatic 159, 3) := by decide +kernel
theorem dX12_turn_45 : decode cX12_turn 45 = .ok (.iinc 2 1, 3) := by decide +kernel
theorem dX12_turn_48 : decode cX12_turn 48 = .ok (.goto (-32), 3) := by decide +kernel
theorem dX12_turn_51 : decode cX12_turn 51 = .ok (.aload_n 0, 1) := by decide +kernel
theorem dX12_turn_52 : decode cX12_turn 52 = .ok (.iload_n 1, 1) := by decide +kernel
theorem dX12_turn_53 : decode cX12_turn 53 = .ok (.invokevirtual 187, 3) := by decide +kernel
theorem dX12_turn_56 : decode cX12_turn 56 = .ok (.ireturn, 1) := by decide +kernel
set_option maxRecDepth 20000 in
set_option maxHeartbeats 4000000 in
theorem L_X12_turn_16 (K : xK) (L : xL) : ∀ (n : Nat) (a0 : Nat) (a1 : Int32) (a2 : Int32) (h : xH), Sim K L cX12_turn RX12 "turn" 3 3 (fun q : Int32 × xH => q.2) (fun q pc' ls' st' h' => pc' = 51 ∧ ls' = [(0, .ref a0), (1, .int a1), (2, .int q.1)] ∧ st' = [] ∧ h' = q.2) 16 [(0, .ref a0), (1, .int a1), (2, .int a2)] [] h (f_X12_turn_L16 n a0 a1 a2 h) := by
  intro n
  induction n with
  | zero =>
    intro a0 a1 a2 h
    exact Sim.none
  | succ n ih =>
    intro a0 a1 a2 h
    unfold f_X12_turn_L16
    refine S_iload_n (pc := 16) 2 rfl dX12_turn_16 rfl ?_
    refine S_aload_n (pc := 17) 0 rfl dX12_turn_17 rfl ?_
    refine S_iload_n (pc := 18) 1 rfl dX12_turn_18 rfl ?_
    refine S_call_i (pc := 19) (rest := [.int a2]) (fun q hq => (x_if hq).elim (fun z => R_V (av := [.int a1]) (q := (RX12, TX12, 28)) (M_X12_bitsOf _ a0 a1 h z.2) z.1 rfl wd_1012 wd_1009 wd_1011 wd_50 wd_28 ⟨rfl, hd_X12_bitsOf⟩ ⟨Nat.le_of_ble_eq_true rfl, Nat.le_of_ble_eq_true rfl⟩ rfl (Nat.le_of_ble_eq_true rfl) dX12_turn_19) (fun hq => (by cases hq))) (fun _ h => List.mem_cons_of_mem _ (List.mem_cons_of_mem _ (h))) (fun q3 => ?_)
    refine S_icmp_ge (pc := 22) (tgt := 51) dX12_turn_22 (by decide) ?_ ?_
    · refine S_sub [0, 1, 2] rfl ?_
      exact Sim.fin ⟨rfl, rfl, rfl, rfl⟩ rfl
    · refine S_aload_n (pc := 25) 0 rfl dX12_turn_25 rfl ?_
      refine S_getR (pc := 26) fd_X12_now wd_821 dX12_turn_26 (fun v4 => ?_)
      refine S_iload_n (pc := 29) 1 rfl dX12_turn_29 rfl ?_
      refine S_iload_n (pc := 30) 2 rfl dX12_turn_30 rfl ?_
      refine S_iconst (pc := 31) dX12_turn_31 ic_1 ?_
      refine S_aload_n (pc := 32) 0 rfl dX12_turn_32 rfl ?_
      refine S_getR (pc := 33) fd_X12_now wd_821 dX12_turn_33 (fun v5 => ?_)
      refine S_iload_n (pc := 36) 1 rfl dX12_turn_36 rfl ?_
      refine S_iload_n (pc := 37) 2 rfl dX12_turn_37 rfl ?_
      refine S_call_i (pc := 38) (rest := [.int (1 : Int32), .int a2, .int a1, .ref v4]) (fun q hq => R_S (av := [.ref v5, .int a1, .int a2]) (M_X12_bit _ v5 a1 a2 q3.2 hq) wd_1018 wd_1016 wd_1017 wd_50 hd_X12_bit ⟨Nat.le_of_ble_eq_true rfl, Nat.le_of_ble_eq_true rfl⟩ rfl (Nat.le_of_ble_eq_true rfl) dX12_turn_38) (fun _ h => List.mem_cons_of_mem _ (List.mem_cons_of_mem _ (List.mem_cons_of_mem _ (h)))) (fun q6 => ?_)
      refine S_isub (pc := 41) dX12_turn_41 ?_
      refine S_call_v (pc := 42) (rest := []) (fun q hq => R_S (av := [.ref v4, .int a1, .int a2, .int ((1 : Int32) - q6.1)]) (M_X12_puts _ v4 a1 a2 ((1 : Int32) - q6.1) q6.2 hq) wd_996 wd_994 wd_995 wd_50 hd_X12_puts ⟨Nat.le_of_ble_eq_true rfl, Nat.le_of_ble_eq_true rfl⟩ rfl (Nat.le_of_ble_eq_true rfl) dX12_turn_42) (fun _ h => absurd h List.not_mem_nil) (fun q7 => ?_)
      refine S_iinc (pc := 45) (v := a2 + (1 : Int32)) 2 rfl dX12_turn_45 (x_inc ic_1) (Nat.le_of_ble_eq_true rfl) rfl ?_
      refine S_goto (pc := 48) (tgt := 16) dX12_turn_48 (by decide) ?_
      refine S_sub [1, 2, 0] rfl ?_
      exact ih a0 a1 (a2 + (1 : Int32)) q7
set_option maxRecDepth 20000 in
set_option maxHeartbeats 4000000 in
theorem W_X12_turn (K : xK) (L : xL) (a0 : Nat) (a1 : Int32) (h : xH) : Sim K L cX12_turn RX12 "turn" 3 3 (fun q : Int32 × xH => q.2) (xRi cX12_turn) 0 [(0, .ref a0), (1, .int a1)] [] h (f_X12_turn a0 a1 h) := by
  unfold f_X12_turn
  refine S_iload_n (pc := 0) 1 rfl dX12_turn_0 rfl ?_
  refine S_call_i (pc := 1) (rest := []) (fun q hq => R_S (av := [.int a1]) (M_X12_isVector _ a1 h hq) wd_947 wd_945 wd_946 wd_50 hd_X12_isVector ⟨Nat.le_of_ble_eq_true rfl, Nat.le_of_ble_eq_true rfl⟩ rfl (Nat.le_of_ble_eq_true rfl) dX12_turn_1) (fun _ h => absurd h List.not_mem_nil) (fun q1 => ?_)
  refine S_if_ne (pc := 4) (tgt := 10) dX12_turn_4 (by decide) ?_ ?_
  · refine S_ldc (pc := 7) wd_903 dX12_turn_7 ?_
    exact Sim.fin ⟨dX12_turn_9, rfl, rfl⟩ rfl
  · refine S_aload_n (pc := 10) 0 rfl dX12_turn_10 rfl ?_
    refine S_call_v (pc := 11) (rest := []) (fun q hq => (x_if hq).elim (fun z => R_V (av := []) (q := (RX12, TX12, 28)) (M_X12_notes _ a0 q1.2 z.2) z.1 rfl wd_979 wd_976 wd_978 wd_50 wd_24 ⟨rfl, hd_X12_notes⟩ ⟨Nat.le_of_ble_eq_true rfl, Nat.le_of_ble_eq_true rfl⟩ rfl (Nat.le_of_ble_eq_true rfl) dX12_turn_11) (fun hq => (by cases hq))) (fun _ h => absurd h List.not_mem_nil) (fun q2 => ?_)
    refine S_iconst (pc := 14) dX12_turn_14 ic_0 ?_
    refine S_istore_n (pc := 15) dX12_turn_15 rfl (Nat.le_of_ble_eq_true rfl) rfl ?_
    refine S_sub [1, 2, 0] rfl ?_
    refine Sim.bind (hs := fun q8 : Int32 × xH => q8.2) (px := 51) (lsx := fun q8 => [(0, .ref a0), (1, .int a1), (2, .int q8.1)]) (L_X12_turn_16 K L xN a0 a1 (0 : Int32) q2) (fun q8 => ?_)
    refine S_aload_n (pc := 51) 0 rfl dX12_turn_51 rfl ?_
    refine S_iload_n (pc := 52) 1 rfl dX12_turn_52 rfl ?_
    refine S_call_i (pc := 53) (rest := []) (fun q hq => (x_if hq).elim (fun z => R_V (av := [.int a1]) (q := (RX12, TX12, 28)) (M_X12_allOnes _ a0 a1 q8.2 z.2) z.1 rfl wd_1034 wd_1031 wd_1033 wd_50 wd_29 ⟨rfl, hd_X12_allOnes⟩ ⟨Nat.le_of_ble_eq_true rfl, Nat.le_of_ble_eq_true rfl⟩ rfl (Nat.le_of_ble_eq_true rfl) dX12_turn_53) (fun hq => (by cases hq))) (fun _ h => absurd h List.not_mem_nil) (fun q9 => ?_)
    exact Sim.fin ⟨dX12_turn_56, rfl, rfl⟩ rfl
theorem M_X12_turn (l : Launch) (a0 : Nat) (a1 : Int32) (h : xH) {q : Int32 × xH} (hq : f_X12_turn a0 a1 h = some q) : xM l yX12_turn cX12_turn 3 (some .int) 3 [.ref a0, .int a1] h (some (.int q.1)) q.2 := xM_i (by decide +kernel) (Nat.le_of_ble_eq_true rfl) (fun K L => W_X12_turn K L a0 a1 h) hq
theorem dX12_undo_0 : decode cX12_undo 0 = .ok (.aload_n 0, 1) := by decide +kernel
theorem dX12_undo_1 : decode cX12_undo 1 = .ok (.getfield 173, 3) := by decide +kernel
theorem dX12_undo_4 : decode cX12_undo 4 = .ok (.ifCond .ne 6, 3) := by decide +kernel
theorem dX12_undo_7 : decode cX12_undo 7 = .ok (.ldc 190, 2) := by decide +kernel
theorem dX12_undo_9 : decode cX12_undo 9 = .ok (.ireturn, 1) := by decide +kernel
theorem dX12_undo_10 : decode cX12_undo 10 = .ok (.aload_n 0, 1) := by decide +kernel
theorem dX12_undo_11 : decode cX12_undo 11 = .ok (.dup, 1) := by decide +kernel
theorem dX12_undo_12 : decode cX12_undo 12 = .ok (.getfield 173, 3) := by decide +kernel
theorem dX12_undo_15 : decode cX12_undo 15 = .ok (.iconst 1, 1) := by decide +kernel
theorem dX12_undo_16 : decode cX12_undo 16 = .ok (.isub, 1) := by decide +kernel
theorem dX12_undo_17 : decode cX12_undo 17 = .ok (.putfield 173, 3) := by decide +kernel
theorem dX12_undo_20 : decode cX12_undo 20 = .ok (.aload_n 0, 1) := by decide +kernel
theorem dX12_undo_21 : decode cX12_undo 21 = .ok (.getfield 31, 3) := by decide +kernel
theorem dX12_undo_24 : decode cX12_undo 24 = .ok (.sipush 132, 3) := by decide +kernel
theorem dX12_undo_27 : decode cX12_undo 27 = .ok (.aload_n 0, 1) := by decide +kernel
theorem dX12_undo_28 : decode cX12_undo 28 = .ok (.getfield 173, 3) := by decide +kernel
theorem dX12_undo_31 : decode cX12_undo 31 = .ok (.imul, 1) := by decide +kernel
theorem dX12_undo_32 : decode cX12_undo 32 = .ok (.aload_n 0, 1) := by decide +kernel
theorem dX12_undo_33 : decode cX12_undo 33 = .ok (.getfield 25, 3) := by decide +kernel
theorem dX12_undo_36 : decode cX12_undo 36 = .ok (.iconst 0, 1) := by decide +kernel
theorem dX12_undo_37 : decode cX12_undo 37 = .ok (.invokestatic 176, 3) := by decide +kernel
theorem dX12_undo_40 : decode cX12_undo 40 = .ok (.aload_n 0, 1) := by decide +kernel
theorem dX12_undo_41 : decode cX12_undo 41 = .ok (.getfield 173, 3) := by decide +kernel
theorem dX12_undo_44 : decode cX12_undo 44 = .ok (.ireturn, 1) := by decide +kernel
set_option maxRecDepth 20000 in
set_option maxHeartbeats 4000000 in
theorem W_X12_undo (K : xK) (L : xL) (a0 : Nat) (h : xH) : Sim K L cX12_undo RX12 "undo" 1 1 (fun q : Int32 × xH => q.2) (xRi cX12_undo) 0 [(0, .ref a0)] [] h (f_X12_undo a0 h) := by
  unfold f_X12_undo
  refine S_aload_n (pc := 0) 0 rfl dX12_undo_0 rfl ?_
  refine S_getI (pc := 1) fd_X12_acts wd_824 dX12_undo_1 (fun v1 => ?_)
  refine S_if_ne (pc := 4) (tgt := 10) dX12_undo_4 (by decide) ?_ ?_
  · refine S_ldc (pc := 7) wd_1050 dX12_undo_7 ?_
    exact Sim.fin ⟨dX12_undo_9, rfl, rfl⟩ rfl
  · refine S_aload_n (pc := 10) 0 rfl dX12_undo_10 rfl ?_
    refine S_dup (pc := 11) rfl dX12_undo_11 ?_
    refine S_getI (pc := 12) fd_X12_acts wd_824 dX12_undo_12 (fun v2 => ?_)
    refine S_iconst (pc := 15) dX12_undo_15 ic_1 ?_
    refine S_isub (pc := 16) dX12_undo_16 ?_
    refine S_putI (pc := 17) fd_X12_acts wd_824 rfl rfl dX12_undo_17 (fun h3 => ?_)
    refine S_aload_n (pc := 20) 0 rfl dX12_undo_20 rfl ?_
    refine S_getR (pc := 21) fd_X12_past wd_823 dX12_undo_21 (fun v4 => ?_)
    refine S_sipush (pc := 24) dX12_undo_24 si_132 ?_
    refine S_aload_n (pc := 27) 0 rfl dX12_undo_27 rfl ?_
    refine S_getI (pc := 28) fd_X12_acts wd_824 dX12_undo_28 (fun v5 => ?_)
    refine S_imul (pc := 31) dX12_undo_31 ?_
    refine S_aload_n (pc := 32) 0 rfl dX12_undo_32 rfl ?_
    refine S_getR (pc := 33) fd_X12_now wd_821 dX12_undo_33 (fun v6 => ?_)
    refine S_iconst (pc := 36) dX12_undo_36 ic_0 ?_
    refine S_call_v (pc := 37) (rest := []) (fun q hq => R_S (av := [.ref v4, .int ((132 : Int32) * v5), .ref v6, .int (0 : Int32)]) (M_X12_copies _ v4 ((132 : Int32) * v5) v6 (0 : Int32) h3 hq) wd_982 wd_980 wd_981 wd_50 hd_X12_copies ⟨Nat.le_of_ble_eq_true rfl, Nat.le_of_ble_eq_true rfl⟩ rfl (Nat.le_of_ble_eq_true rfl) dX12_undo_37) (fun _ h => absurd h List.not_mem_nil) (fun q7 => ?_)
    refine S_aload_n (pc := 40) 0 rfl dX12_undo_40 rfl ?_
    refine S_getI (pc := 41) fd_X12_acts wd_824 dX12_undo_41 (fun v8 => ?_)
    exact Sim.fin ⟨dX12_undo_44, rfl, rfl⟩ rfl
theorem M_X12_undo (l : Launch) (a0 : Nat) (h : xH) {q : Int32 × xH} (hq : f_X12_undo a0 h = some q) : xM l yX12_undo cX12_undo 1 (some .int) 1 [.ref a0] h (some (.int q.1)) q.2 := xM_i (by decide +kernel) (Nat.le_of_ble_eq_true rfl) (fun K L => W_X12_undo K L a0 h) hq
theorem dX12_weight_0 : decode cX12_weight 0 = .ok (.iload_n 1, 1) := by decide +kernel
theorem dX12_weight_1 : decode cX12_weight 1 = .ok (.invokestatic 130, 3) := by decide +kernel
theorem dX12_weight_4 : decode cX12_weight 4 = .ok (.ifCond .ne 6, 3) := by decide +kernel
theorem dX12_weight_7 : decode cX12_weight 7 = .ok (.ldc 73, 2) := by decide +kernel
theorem dX12_weight_9 : decode cX12_weight 9 = .ok (.ireturn, 1) := by decide +kernel
theorem dX12_weight_10 : decode cX12_weight 10 = .ok (.lconst 0, 1) := by decide +kernel
theorem dX12_weight_11 : decode cX12_weight 11 = .ok (.lstore_n 3, 1) := by decide +kernel
theorem dX12_weight_12 : decode cX12_weight 12 = .ok (.iconst 0, 1) := by decide +kernel
theorem dX12_weight_13 : decode cX12_weight 13 = .ok (.istore 5, 2) := by decide +kernel
theorem dX12_weight_15 : decode cX12_weight 15 = .ok (.iload 5, 2) := by decide +kernel
theorem dX12_weight_17 : decode cX12_weight 17 = .ok (.aload_n 0, 1) := by decide +kernel
theorem dX12_weight_18 : decode cX12_weight 18 = .ok (.iload_n 1, 1) := by decide +kernel
theorem dX12_weight_19 : decode cX12_weight 19 = .ok (.invokevirtual 167, 3) := by decide +kernel
theorem dX12_weight_22 : decode cX12_weight 22 = .ok (.if_icmp .ge 60, 3) := by decide +kernel
theorem dX12_weight_25 : decode cX12_weight 25 = .ok (.aload_n 0, 1) := by decide +kernel
theorem dX12_weight_26 : decode cX12_weight 26 = .ok (.getfield 25, 3) := by decide +kernel
theorem dX12_weight_29 : decode cX12_weight 29 = .ok (.iload_n 1, 1) := by decide +kernel
theorem dX12_weight_30 : decode cX12_weight 30 = .ok (.iload 5, 2) := by decide +kernel
theorem dX12_weight_32 : decode cX12_weight 32 = .ok (.invokestatic 163, 3) := by decide +kernel
theorem dX12_weight_35 : decode cX12_weight 35 = .ok (.iconst 1, 1) := by decide +kernel
theorem dX12_weight_36 : decode cX12_weight 36 = .ok (.if_icmp .ne 40, 3) := by decide +kernel
theorem dX12_weight_39 : decode cX12_weight 39 = .ok (.iload 5, 2) := by decide +kernel
theorem dX12_weight_41 : decode cX12_weight 41 = .ok (.i2l, 1) := by decide +kernel
theorem dX12_weight_42 : decode cX12_weight 42 = .ok (.lconst 1, 1) := by decide +kernel
theorem dX12_weight_43 : decode cX12_weight 43 = .ok (.ladd, 1) := by decide +kernel
theorem dX12_weight_44 : decode cX12_weight 44 = .ok (.iload_n 2, 1) := by decide +kernel
theorem dX12_weight_45 : decode cX12_weight 45 = .ok (.i2l, 1) := by decide +kernel
theorem dX12_weight_46 : decode cX12_weight 46 = .ok (.lmul, 1) := by decide +kernel
theorem dX12_weight_47 : decode cX12_weight 47 = .ok (.lstore 6, 2) := by decide +kernel
theorem dX12_weight_49 : decode cX12_weight 49 = .ok (.lload_n 3, 1) := by decide +kernel
theorem dX12_weight_50 : decode cX12_weight 50 = .ok (.lload 6, 2) := by decide +kernel
theorem dX12_weight_52 : decode cX12_weight 52 = .ok (.ladd, 1) := by decide +kernel
theorem dX12_weight_53 : decode cX12_weight 53 = .ok (.lstore_n 3, 1) := by decide +kernel
theorem dX12_weight_54 : decode cX12_weight 54 = .ok (.lload 6, 2) := by decide +kernel
theorem dX12_weight_56 : decode cX12_weight 56 = .ok (.invokestatic 216, 3) := by decide +kernel
theorem dX12_weight_59 : decode cX12_weight 59 = .ok (.ifCond .eq 10, 3) := by decide +kernel
theorem dX12_weight_62 : decode cX12_weight 62 = .ok (.lload_n 3, 1) := by decide +kernel
theorem dX12_weight_63 : decode cX12_weight 63 = .ok (.invokestatic 216, 3) := by decide +kernel
theorem dX12_weight_66 : decode cX12_weight 66 = .ok (.ifCond .ne 10, 3) := by decide +kernel
theorem dX12_weight_69 : decode cX12_weight 69 = .ok (.aload_n 0, 1) := by decide +kernel
theorem dX12_weight_70 : decode cX12_weight 70 = .ok (.bipush 6, 2) := by decide +kernel
theorem dX12_weight_72 : decode cX12_weight 72 = .ok (.invokevirtual 74, 3) := by decide +kernel
theorem dX12_weight_75 : decode cX12_weight 75 = .ok (.ireturn, 1) := by decide +kernel
theorem dX12_weight_76 : decode cX12_weight 76 = .ok (.iinc 5 1, 3) := by decide +kernel
theorem dX12_weight_79 : decode cX12_weight 79 = .ok (.goto (-64), 3) := by decide +kernel
theorem dX12_weight_82 : decode cX12_weight 82 = .ok (.aload_n 0, 1) := by decide +kernel
theorem dX12_weight_83 : decode cX12_weight 83 = .ok (.lload_n 3, 1) := by decide +kernel
theorem dX12_weight_84 : decode cX12_weight 84 = .ok (.l2i, 1) := by decide +kernel
theorem dX12_weight_85 : decode cX12_weight 85 = .ok (.invokevirtual 78, 3) := by decide +kernel
theorem dX12_weight_88 : decode cX12_weight 88 = .ok (.ireturn, 1) := by decide +kernel
set_option maxRecDepth 20000 in
set_option maxHeartbeats 4000000 in
theorem L_X12_weight_15 (K : xK) (L : xL) : ∀ (n : Nat) (a0 : Nat) (a1 : Int32) (a2 : Int32) (a3 : Int64) (a5 : Int32) (h : xH), Sim K L cX12_weight RX12 "weight" 8 2 (fun q : Int32 × xH => q.2) (xRi cX12_weight) 15 [(0, .ref a0), (1, .int a1), (2, .int a2), (3, .long a3), (5, .int a5)] [] h (f_X12_weight_L15 n a0 a1 a2 a3 a5 h) := by
  intro n
  induction n with
  | zero =>
    intro a0 a1 a2 a3 a5 h
    exact Sim.none
  | succ n ih =>
    intro a0 a1 a2 a3 a5 h
    unfold f_X12_weight_L15
    refine S_iload (pc := 15) 4 rfl dX12_weight_15 ?_
    refine S_aload_n (pc := 17) 0 rfl dX12_weight_17 rfl ?_
    refine S_iload_n (pc := 18) 1 rfl dX12_weight_18 rfl ?_
    refine S_call_i (pc := 19) (rest := [.int a5]) (fun q hq => (x_if hq).elim (fun z => R_V (av := [.int a1]) (q := (RX12, TX12, 28)) (M_X12_bitsOf _ a0 a1 h z.2) z.1 rfl wd_1012 wd_1009 wd_1011 wd_50 wd_28 ⟨rfl, hd_X12_bitsOf⟩ ⟨Nat.le_of_ble_eq_true rfl, Nat.le_of_ble_eq_true rfl⟩ rfl (Nat.le_of_ble_eq_true rfl) dX12_weight_19) (fun hq => (by cases hq))) (fun _ h => List.mem_cons_of_mem _ (List.mem_cons_of_mem _ (h))) (fun q2 => ?_)
    refine S_icmp_ge (pc := 22) (tgt := 82) dX12_weight_22 (by decide) ?_ ?_
    · refine S_aload_n (pc := 82) 0 rfl dX12_weight_82 rfl ?_
      refine S_lload_n (pc := 83) 3 rfl dX12_weight_83 rfl ?_
      refine S_l2i (pc := 84) dX12_weight_84 ?_
      refine S_call_i (pc := 85) (rest := []) (fun q hq => (x_if hq).elim (fun z => R_V (av := [.int a3.toInt32]) (q := (RX12, TX12, 28)) (M_X12_well _ a0 a3.toInt32 q2.2 z.2) z.1 rfl wd_912 wd_909 wd_911 wd_50 wd_15 ⟨rfl, hd_X12_well⟩ ⟨Nat.le_of_ble_eq_true rfl, Nat.le_of_ble_eq_true rfl⟩ rfl (Nat.le_of_ble_eq_true rfl) dX12_weight_85) (fun hq => (by cases hq))) (fun _ h => absurd h List.not_mem_nil) (fun q3 => ?_)
      exact Sim.fin ⟨dX12_weight_88, rfl, rfl⟩ rfl
    · refine S_aload_n (pc := 25) 0 rfl dX12_weight_25 rfl ?_
      refine S_getR (pc := 26) fd_X12_now wd_821 dX12_weight_26 (fun v4 => ?_)
      refine S_iload_n (pc := 29) 1 rfl dX12_weight_29 rfl ?_
      refine S_iload (pc := 30) 4 rfl dX12_weight_30 ?_
      refine S_call_i (pc := 32) (rest := []) (fun q hq => R_S (av := [.ref v4, .int a1, .int a5]) (M_X12_bit _ v4 a1 a5 q2.2 hq) wd_1018 wd_1016 wd_1017 wd_50 hd_X12_bit ⟨Nat.le_of_ble_eq_true rfl, Nat.le_of_ble_eq_true rfl⟩ rfl (Nat.le_of_ble_eq_true rfl) dX12_weight_32) (fun _ h => absurd h List.not_mem_nil) (fun q5 => ?_)
      refine S_iconst (pc := 35) dX12_weight_35 ic_1 ?_
      refine S_icmp_ne (pc := 36) (tgt := 76) dX12_weight_36 (by decide) ?_ ?_
      · refine S_iload (pc := 39) 4 rfl dX12_weight_39 ?_
        refine S_i2l (pc := 41) dX12_weight_41 ?_
        refine S_lconst (pc := 42) dX12_weight_42 lc_1 ?_
        refine S_ladd (pc := 43) dX12_weight_43 ?_
        refine S_iload_n (pc := 44) 2 rfl dX12_weight_44 rfl ?_
        refine S_i2l (pc := 45) dX12_weight_45 ?_
        refine S_lmul (pc := 46) dX12_weight_46 ?_
        refine S_lstore (pc := 47) dX12_weight_47 (Nat.le_of_ble_eq_true rfl) rfl ?_
        refine S_lload_n (pc := 49) 4 rfl dX12_weight_49 rfl ?_
        refine S_lload (pc := 50) 0 rfl dX12_weight_50 ?_
        refine S_ladd (pc := 52) dX12_weight_52 ?_
        refine S_lstore_n (pc := 53) dX12_weight_53 rfl (Nat.le_of_ble_eq_true rfl) rfl ?_
        refine S_lload (pc := 54) 1 rfl dX12_weight_54 ?_
        refine S_call_i (pc := 56) (rest := []) (fun q hq => R_S (av := [.long ((a5.toInt64 + (1 : Int64)) * a2.toInt64)]) (M_X12_isInt _ ((a5.toInt64 + (1 : Int64)) * a2.toInt64) q5.2 hq) wd_1148 wd_1146 wd_1147 wd_50 hd_X12_isInt ⟨Nat.le_of_ble_eq_true rfl, Nat.le_of_ble_eq_true rfl⟩ rfl (Nat.le_of_ble_eq_true rfl) dX12_weight_56) (fun _ h => absurd h List.not_mem_nil) (fun q6 => ?_)
        refine S_if_eq (pc := 59) (tgt := 69) dX12_weight_59 (by decide) ?_ ?_
        · refine S_aload_n (pc := 69) 2 rfl dX12_weight_69 rfl ?_
          refine S_bipush (pc := 70) dX12_weight_70 bi_6 ?_
          refine S_call_i (pc := 72) (rest := []) (fun q hq => (x_if hq).elim (fun z => R_V (av := [.int (6 : Int32)]) (q := (RX12, TX12, 28)) (M_X12_found _ a0 (6 : Int32) q6.2 z.2) z.1 rfl wd_907 wd_904 wd_906 wd_50 wd_14 ⟨rfl, hd_X12_found⟩ ⟨Nat.le_of_ble_eq_true rfl, Nat.le_of_ble_eq_true rfl⟩ rfl (Nat.le_of_ble_eq_true rfl) dX12_weight_72) (fun hq => (by cases hq))) (fun _ h => absurd h List.not_mem_nil) (fun q7 => ?_)
          exact Sim.fin ⟨dX12_weight_75, rfl, rfl⟩ rfl
        · refine S_lload_n (pc := 62) 0 rfl dX12_weight_62 rfl ?_
          refine S_call_i (pc := 63) (rest := []) (fun q hq => R_S (av := [.long (a3 + ((a5.toInt64 + (1 : Int64)) * a2.toInt64))]) (M_X12_isInt _ (a3 + ((a5.toInt64 + (1 : Int64)) * a2.toInt64)) q6.2 hq) wd_1148 wd_1146 wd_1147 wd_50 hd_X12_isInt ⟨Nat.le_of_ble_eq_true rfl, Nat.le_of_ble_eq_true rfl⟩ rfl (Nat.le_of_ble_eq_true rfl) dX12_weight_63) (fun _ h => absurd h List.not_mem_nil) (fun q8 => ?_)
          refine S_if_ne (pc := 66) (tgt := 76) dX12_weight_66 (by decide) ?_ ?_
          · refine S_aload_n (pc := 69) 2 rfl dX12_weight_69 rfl ?_
            refine S_bipush (pc := 70) dX12_weight_70 bi_6 ?_
            refine S_call_i (pc := 72) (rest := []) (fun q hq => (x_if hq).elim (fun z => R_V (av := [.int (6 : Int32)]) (q := (RX12, TX12, 28)) (M_X12_found _ a0 (6 : Int32) q8.2 z.2) z.1 rfl wd_907 wd_904 wd_906 wd_50 wd_14 ⟨rfl, hd_X12_found⟩ ⟨Nat.le_of_ble_eq_true rfl, Nat.le_of_ble_eq_true rfl⟩ rfl (Nat.le_of_ble_eq_true rfl) dX12_weight_72) (fun hq => (by cases hq))) (fun _ h => absurd h List.not_mem_nil) (fun q9 => ?_)
            exact Sim.fin ⟨dX12_weight_75, rfl, rfl⟩ rfl
          · refine S_iinc (pc := 76) (v := a5 + (1 : Int32)) 5 rfl dX12_weight_76 (x_inc ic_1) (Nat.le_of_ble_eq_true rfl) rfl ?_
            refine S_goto (pc := 79) (tgt := 15) dX12_weight_79 (by decide) ?_
            refine S_sub [3, 4, 5, 1, 0] rfl ?_
            exact ih a0 a1 a2 (a3 + ((a5.toInt64 + (1 : Int64)) * a2.toInt64)) (a5 + (1 : Int32)) q8.2
      · refine S_iinc (pc := 76) (v := a5 + (1 : Int32)) 4 rfl dX12_weight_76 (x_inc ic_1) (Nat.le_of_ble_eq_true rfl) rfl ?_
        refine S_goto (pc := 79) (tgt := 15) dX12_weight_79 (by decide) ?_
        refine S_sub [1, 2, 3, 4, 0] rfl ?_
        exact ih a0 a1 a2 a3 (a5 + (1 : Int32)) q5.2
set_option maxRecDepth 20000 in
set_option maxHeartbeats 4000000 in
theorem W_X12_weight (K : xK) (L : xL) (a0 : Nat) (a1 : Int32) (a2 : Int32) (h : xH) : Sim K L cX12_weight RX12 "weight" 8 2 (fun q : Int32 × xH => q.2) (xRi cX12_weight) 0 [(0, .ref a0), (1, .int a1), (2, .int a2)] [] h (f_X12_weight a0 a1 a2 h) := by
  unfold f_X12_weight
  refine S_iload_n (pc := 0) 1 rfl dX12_weight_0 rfl ?_
  refine S_call_i (pc := 1) (rest := []) (fun q hq => R_S (av := [.int a1]) (M_X12_isVector _ a1 h hq) wd_947 wd_945 wd_946 wd_50 hd_X12_isVector ⟨Nat.le_of_ble_eq_true rfl, Nat.le_of_ble_eq_true rfl⟩ rfl (Nat.le_of_ble_eq_true rfl) dX12_weight_1) (fun _ h => absurd h List.not_mem_nil) (fun q1 => ?_)
  refine S_if_ne (pc := 4) (tgt := 10) dX12_weight_4 (by decide) ?_ ?_
  · refine S_ldc (pc := 7) wd_903 dX12_weight_7 ?_
    exact Sim.fin ⟨dX12_weight_9, rfl, rfl⟩ rfl
  · refine S_lconst (pc := 10) dX12_weight_10 lc_0 ?_
    refine S_lstore_n (pc := 11) dX12_weight_11 rfl (Nat.le_of_ble_eq_true rfl) rfl ?_
    refine S_iconst (pc := 12) dX12_weight_12 ic_0 ?_
    refine S_istore (pc := 13) dX12_weight_13 (Nat.le_of_ble_eq_true rfl) rfl ?_
    refine S_sub [2, 3, 4, 1, 0] rfl ?_
    exact L_X12_weight_15 K L xN a0 a1 a2 (0 : Int64) (0 : Int32) q1.2
theorem M_X12_weight (l : Launch) (a0 : Nat) (a1 : Int32) (a2 : Int32) (h : xH) {q : Int32 × xH} (hq : f_X12_weight a0 a1 a2 h = some q) : xM l yX12_weight cX12_weight 8 (some .int) 2 [.ref a0, .int a1, .int a2] h (some (.int q.1)) q.2 := xM_i (by decide +kernel) (Nat.le_of_ble_eq_true rfl) (fun K L => W_X12_weight K L a0 a1 a2 h) hq
