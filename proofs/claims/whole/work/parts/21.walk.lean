theorem dX2_tellSize_0 : decode cX2_tellSize 0 = .ok (.aload_n 1, 1) := by decide +kernel
theorem dX2_tellSize_1 : decode cX2_tellSize 1 = .ok (.bipush 14, 2) := by decide +kernel
theorem dX2_tellSize_3 : decode cX2_tellSize 3 = .ok (.invokevirtual 13, 3) := by decide +kernel
theorem dX2_tellSize_6 : decode cX2_tellSize 6 = .ok (.iconst 2, 1) := by decide +kernel
theorem dX2_tellSize_7 : decode cX2_tellSize 7 = .ok (.aload_n 0, 1) := by decide +kernel
theorem dX2_tellSize_8 : decode cX2_tellSize 8 = .ok (.aload_n 1, 1) := by decide +kernel
theorem dX2_tellSize_9 : decode cX2_tellSize 9 = .ok (.invokespecial 19, 3) := by decide +kernel
theorem dX2_tellSize_12 : decode cX2_tellSize 12 = .ok (.imul, 1) := by decide +kernel
theorem dX2_tellSize_13 : decode cX2_tellSize 13 = .ok (.ireturn, 1) := by decide +kernel
set_option maxRecDepth 20000 in
set_option maxHeartbeats 4000000 in
theorem W_X2_tellSize (K : xK) (L : xL) (a0 : Nat) (a1 : Nat) (h : xH) : Sim K L cX2_tellSize RX2 "tellSize" 2 3 (fun q : Int32 × xH => q.2) (xRi cX2_tellSize) 0 [(0, .ref a0), (1, .ref a1)] [] h (f_X2_tellSize a0 a1 h) := by
  unfold f_X2_tellSize
  refine S_aload_n (pc := 0) 1 rfl dX2_tellSize_0 rfl ?_
  refine S_bipush (pc := 1) dX2_tellSize_1 bi_14 ?_
  refine S_call_v (pc := 3) (rest := []) (fun q hq => (x_if hq).elim (fun z => R_V (av := [.int (14 : Int32)]) (q := (RX9, TX9, 2)) (M_X9_note _ a1 (14 : Int32) h z.2) z.1 rfl wd_730 wd_735 wd_728 wd_48 wd_729 ⟨rfl, hd_X9_note⟩ ⟨Nat.le_of_ble_eq_true rfl, Nat.le_of_ble_eq_true rfl⟩ rfl (Nat.le_of_ble_eq_true rfl) dX2_tellSize_3) (fun hq => (by cases hq))) (fun _ h => absurd h List.not_mem_nil) (fun q1 => ?_)
  refine S_iconst (pc := 6) dX2_tellSize_6 ic_2 ?_
  refine S_aload_n (pc := 7) 0 rfl dX2_tellSize_7 rfl ?_
  refine S_aload_n (pc := 8) 1 rfl dX2_tellSize_8 rfl ?_
  refine S_call_i (pc := 9) (rest := [.int (2 : Int32)]) (fun q hq => (x_if hq).elim (fun z => R_SU (av := [.ref a1]) (q := (RX2, TX2, 2)) (M_X0_tellSize _ a0 a1 q1 z.2) z.1 rfl wd_726 wd_736 wd_725 wd_57 wd_1230 wd_384 ⟨by decide, hd_X0_tellSize.2.2⟩ ⟨Nat.le_of_ble_eq_true rfl, Nat.le_of_ble_eq_true rfl⟩ rfl (Nat.le_of_ble_eq_true rfl) dX2_tellSize_9) (fun hq => (by cases hq))) (fun _ h => List.mem_cons_of_mem _ (List.mem_cons_of_mem _ (h))) (fun q2 => ?_)
  refine S_imul (pc := 12) dX2_tellSize_12 ?_
  exact Sim.fin ⟨dX2_tellSize_13, rfl, rfl⟩ rfl
theorem M_X2_tellSize (l : Launch) (a0 : Nat) (a1 : Nat) (h : xH) {q : Int32 × xH} (hq : f_X2_tellSize a0 a1 h = some q) : xM l yX2_tellSize cX2_tellSize 2 (some .int) 3 [.ref a0, .ref a1] h (some (.int q.1)) q.2 := xM_i (by decide +kernel) (Nat.le_of_ble_eq_true rfl) (fun K L => W_X2_tellSize K L a0 a1 h) hq
theorem dX6_tellMark_0 : decode cX6_tellMark 0 = .ok (.aload_n 1, 1) := by decide +kernel
theorem dX6_tellMark_1 : decode cX6_tellMark 1 = .ok (.bipush 20, 2) := by decide +kernel
theorem dX6_tellMark_3 : decode cX6_tellMark 3 = .ok (.invokevirtual 20, 3) := by decide +kernel
theorem dX6_tellMark_6 : decode cX6_tellMark 6 = .ok (.aload_n 0, 1) := by decide +kernel
theorem dX6_tellMark_7 : decode cX6_tellMark 7 = .ok (.getfield 7, 3) := by decide +kernel
theorem dX6_tellMark_10 : decode cX6_tellMark 10 = .ok (.ireturn, 1) := by decide +kernel
set_option maxRecDepth 20000 in
set_option maxHeartbeats 4000000 in
theorem W_X6_tellMark (K : xK) (L : xL) (a0 : Nat) (a1 : Nat) (h : xH) : Sim K L cX6_tellMark RX6 "tellMark" 2 1 (fun q : Int32 × xH => q.2) (xRi cX6_tellMark) 0 [(0, .ref a0), (1, .ref a1)] [] h (f_X6_tellMark a0 a1 h) := by
  unfold f_X6_tellMark
  refine S_aload_n (pc := 0) 1 rfl dX6_tellMark_0 rfl ?_
  refine S_bipush (pc := 1) dX6_tellMark_1 bi_20 ?_
  refine S_call_v (pc := 3) (rest := []) (fun q hq => (x_if hq).elim (fun z => R_V (av := [.int (20 : Int32)]) (q := (RX9, TX9, 2)) (M_X9_note _ a1 (20 : Int32) h z.2) z.1 rfl wd_730 wd_763 wd_728 wd_48 wd_729 ⟨rfl, hd_X9_note⟩ ⟨Nat.le_of_ble_eq_true rfl, Nat.le_of_ble_eq_true rfl⟩ rfl (Nat.le_of_ble_eq_true rfl) dX6_tellMark_3) (fun hq => (by cases hq))) (fun _ h => absurd h List.not_mem_nil) (fun q1 => ?_)
  refine S_aload_n (pc := 6) 0 rfl dX6_tellMark_6 rfl ?_
  refine S_getI (pc := 7) fd_X6_number wd_349 dX6_tellMark_7 (fun v2 => ?_)
  exact Sim.fin ⟨dX6_tellMark_10, rfl, rfl⟩ rfl
theorem M_X6_tellMark (l : Launch) (a0 : Nat) (a1 : Nat) (h : xH) {q : Int32 × xH} (hq : f_X6_tellMark a0 a1 h = some q) : xM l yX6_tellMark cX6_tellMark 2 (some .int) 1 [.ref a0, .ref a1] h (some (.int q.1)) q.2 := xM_i (by decide +kernel) (Nat.le_of_ble_eq_true rfl) (fun K L => W_X6_tellMark K L a0 a1 h) hq
theorem dX0_tellMark_0 : decode cX0_tellMark 0 = .ok (.aload_n 1, 1) := by decide +kernel
theorem dX0_tellMark_1 : decode cX0_tellMark 1 = .ok (.bipush 23, 2) := by decide +kernel
theorem dX0_tellMark_3 : decode cX0_tellMark 3 = .ok (.invokevirtual 9, 3) := by decide +kernel
theorem dX0_tellMark_6 : decode cX0_tellMark 6 = .ok (.aload_n 0, 1) := by decide +kernel
theorem dX0_tellMark_7 : decode cX0_tellMark 7 = .ok (.aload_n 1, 1) := by decide +kernel
theorem dX0_tellMark_8 : decode cX0_tellMark 8 = .ok (.invokespecial 19, 3) := by decide +kernel
theorem dX0_tellMark_11 : decode cX0_tellMark 11 = .ok (.istore_n 2, 1) := by decide +kernel
theorem dX0_tellMark_12 : decode cX0_tellMark 12 = .ok (.iload_n 2, 1) := by decide +kernel
theorem dX0_tellMark_13 : decode cX0_tellMark 13 = .ok (.aload_n 0, 1) := by decide +kernel
theorem dX0_tellMark_14 : decode cX0_tellMark 14 = .ok (.aload_n 1, 1) := by decide +kernel
theorem dX0_tellMark_15 : decode cX0_tellMark 15 = .ok (.invokevirtual 22, 3) := by decide +kernel
theorem dX0_tellMark_18 : decode cX0_tellMark 18 = .ok (.isub, 1) := by decide +kernel
theorem dX0_tellMark_19 : decode cX0_tellMark 19 = .ok (.ireturn, 1) := by decide +kernel
set_option maxRecDepth 20000 in
set_option maxHeartbeats 4000000 in
theorem W_X0_tellMark (K : xK) (L : xL) (a0 : Nat) (a1 : Nat) (h : xH) : Sim K L cX0_tellMark RX0 "tellMark" 3 4 (fun q : Int32 × xH => q.2) (xRi cX0_tellMark) 0 [(0, .ref a0), (1, .ref a1)] [] h (f_X0_tellMark a0 a1 h) := by
  unfold f_X0_tellMark
  refine S_aload_n (pc := 0) 1 rfl dX0_tellMark_0 rfl ?_
  refine S_bipush (pc := 1) dX0_tellMark_1 bi_23 ?_
  refine S_call_v (pc := 3) (rest := []) (fun q hq => (x_if hq).elim (fun z => R_V (av := [.int (23 : Int32)]) (q := (RX9, TX9, 2)) (M_X9_note _ a1 (23 : Int32) h z.2) z.1 rfl wd_730 wd_727 wd_728 wd_48 wd_729 ⟨rfl, hd_X9_note⟩ ⟨Nat.le_of_ble_eq_true rfl, Nat.le_of_ble_eq_true rfl⟩ rfl (Nat.le_of_ble_eq_true rfl) dX0_tellMark_3) (fun hq => (by cases hq))) (fun _ h => absurd h List.not_mem_nil) (fun q1 => ?_)
  refine S_aload_n (pc := 6) 0 rfl dX0_tellMark_6 rfl ?_
  refine S_aload_n (pc := 7) 1 rfl dX0_tellMark_7 rfl ?_
  refine S_call_i (pc := 8) (rest := []) (fun q hq => (x_if hq).elim (fun z => R_SU (av := [.ref a1]) (q := (RX0, TX0, 2)) (M_X6_tellMark _ a0 a1 q1 z.2) z.1 rfl wd_762 wd_779 wd_761 wd_53 wd_1232 wd_375 ⟨by decide, hd_X6_tellMark.2.2⟩ ⟨Nat.le_of_ble_eq_true rfl, Nat.le_of_ble_eq_true rfl⟩ rfl (Nat.le_of_ble_eq_true rfl) dX0_tellMark_8) (fun hq => (x_if hq).elim (fun z => R_SU (av := [.ref a1]) (q := (RX2, TX2, 2)) (M_X6_tellMark _ a0 a1 q1 z.2) z.1 rfl wd_762 wd_779 wd_761 wd_53 wd_1232 wd_375 ⟨by decide, hd_X6_tellMark.2.2⟩ ⟨Nat.le_of_ble_eq_true rfl, Nat.le_of_ble_eq_true rfl⟩ rfl (Nat.le_of_ble_eq_true rfl) dX0_tellMark_8) (fun hq => (by cases hq)))) (fun _ h => absurd h List.not_mem_nil) (fun q2 => ?_)
  refine S_istore_n (pc := 11) dX0_tellMark_11 rfl (Nat.le_of_ble_eq_true rfl) rfl ?_
  refine S_iload_n (pc := 12) 0 rfl dX0_tellMark_12 rfl ?_
  refine S_aload_n (pc := 13) 1 rfl dX0_tellMark_13 rfl ?_
  refine S_aload_n (pc := 14) 2 rfl dX0_tellMark_14 rfl ?_
  refine S_call_i (pc := 15) (rest := [.int q2.1]) (fun q hq => (x_if hq).elim (fun z => R_V (av := [.ref a1]) (q := (RX0, TX0, 2)) (M_X0_tellSize _ a0 a1 q2.2 z.2) z.1 rfl wd_726 wd_780 wd_725 wd_57 wd_1234 ⟨rfl, hd_X0_tellSize⟩ ⟨Nat.le_of_ble_eq_true rfl, Nat.le_of_ble_eq_true rfl⟩ rfl (Nat.le_of_ble_eq_true rfl) dX0_tellMark_15) (fun hq => (x_if hq).elim (fun z => R_U (av := [.ref a1]) (q := (RX2, TX2, 2)) (x := yX0_tellSize) (owner := RX0) (M_X2_tellSize _ a0 a1 q2.2 z.2) z.1 rfl wd_734 wd_780 wd_733 wd_58 wd_1235 wd_1230 (Or.inl ⟨_, _, _, wd_726, wd_725⟩) ⟨by decide, by decide, hd_X2_tellSize.2.2⟩ ⟨Nat.le_of_ble_eq_true rfl, Nat.le_of_ble_eq_true rfl⟩ rfl (Nat.le_of_ble_eq_true rfl) dX0_tellMark_15) (fun hq => (by cases hq)))) (fun _ h => List.mem_cons_of_mem _ (List.mem_cons_of_mem _ (h))) (fun q3 => ?_)
  refine S_isub (pc := 18) dX0_tellMark_18 ?_
  exact Sim.fin ⟨dX0_tellMark_19, rfl, rfl⟩ rfl
theorem M_X0_tellMark (l : Launch) (a0 : Nat) (a1 : Nat) (h : xH) {q : Int32 × xH} (hq : f_X0_tellMark a0 a1 h = some q) : xM l yX0_tellMark cX0_tellMark 3 (some .int) 4 [.ref a0, .ref a1] h (some (.int q.1)) q.2 := xM_i (by decide +kernel) (Nat.le_of_ble_eq_true rfl) (fun K L => W_X0_tellMark K L a0 a1 h) hq
theorem dX0_bitOf_0 : decode cX0_bitOf 0 = .ok (.iload_n 1, 1) := by decide +kernel
theorem dX0_bitOf_1 : decode cX0_bitOf 1 = .ok (.iconst 2, 1) := by decide +kernel
theorem dX0_bitOf_2 : decode cX0_bitOf 2 = .ok (.irem, 1) := by decide +kernel
theorem dX0_bitOf_3 : decode cX0_bitOf 3 = .ok (.ifCond .ne 7, 3) := by decide +kernel
theorem dX0_bitOf_6 : decode cX0_bitOf 6 = .ok (.iconst 1, 1) := by decide +kernel
theorem dX0_bitOf_7 : decode cX0_bitOf 7 = .ok (.goto 4, 3) := by decide +kernel
theorem dX0_bitOf_10 : decode cX0_bitOf 10 = .ok (.iconst 0, 1) := by decide +kernel
theorem dX0_bitOf_11 : decode cX0_bitOf 11 = .ok (.ireturn, 1) := by decide +kernel
set_option maxRecDepth 20000 in
set_option maxHeartbeats 4000000 in
theorem W_X0_bitOf (K : xK) (L : xL) (a0 : Nat) (a1 : Int32) (h : xH) : Sim K L cX0_bitOf RX0 "bitOf" 2 0 (fun q : Int32 × xH => q.2) (xRi cX0_bitOf) 0 [(0, .ref a0), (1, .int a1)] [] h (f_X0_bitOf a0 a1 h) := by
  unfold f_X0_bitOf
  refine S_iload_n (pc := 0) 1 rfl dX0_bitOf_0 rfl ?_
  refine S_iconst (pc := 1) dX0_bitOf_1 ic_2 ?_
  refine S_irem (pc := 2) (by decide) dX0_bitOf_2 ?_
  refine S_if_ne (pc := 3) (tgt := 10) dX0_bitOf_3 (by decide) ?_ ?_
  · refine S_iconst (pc := 6) dX0_bitOf_6 ic_1 ?_
    refine S_goto (pc := 7) (tgt := 11) dX0_bitOf_7 (by decide) ?_
    exact Sim.fin ⟨dX0_bitOf_11, rfl, rfl⟩ rfl
  · refine S_iconst (pc := 10) dX0_bitOf_10 ic_0 ?_
    exact Sim.fin ⟨dX0_bitOf_11, rfl, rfl⟩ rfl
theorem M_X0_bitOf (l : Launch) (a0 : Nat) (a1 : Int32) (h : xH) {q : Int32 × xH} (hq : f_X0_bitOf a0 a1 h = some q) : xM l yX0_bitOf cX0_bitOf 2 (some .int) 0 [.ref a0, .int a1] h (some (.int q.1)) q.2 := xM_i (by decide +kernel) (Nat.le_of_ble_eq_true rfl) (fun K L => W_X0_bitOf K L a0 a1 h) hq
theorem dX2_bitOf_0 : decode cX2_bitOf 0 = .ok (.aload_n 0, 1) := by decide +kernel
theorem dX2_bitOf_1 : decode cX2_bitOf 1 = .ok (.iload_n 1, 1) := by decide +kernel
theorem dX2_bitOf_2 : decode cX2_bitOf 2 = .ok (.iconst 4, 1) := by decide +kernel
theorem dX2_bitOf_3 : decode cX2_bitOf 3 = .ok (.idiv, 1) := by decide +kernel
theorem dX2_bitOf_4 : decode cX2_bitOf 4 = .ok (.invokespecial 9, 3) := by decide +kernel
theorem dX2_bitOf_7 : decode cX2_bitOf 7 = .ok (.ireturn, 1) := by decide +kernel
set_option maxRecDepth 20000 in
set_option maxHeartbeats 4000000 in
theorem W_X2_bitOf (K : xK) (L : xL) (a0 : Nat) (a1 : Int32) (h : xH) : Sim K L cX2_bitOf RX2 "bitOf" 2 1 (fun q : Int32 × xH => q.2) (xRi cX2_bitOf) 0 [(0, .ref a0), (1, .int a1)] [] h (f_X2_bitOf a0 a1 h) := by
  unfold f_X2_bitOf
  refine S_aload_n (pc := 0) 0 rfl dX2_bitOf_0 rfl ?_
  refine S_iload_n (pc := 1) 1 rfl dX2_bitOf_1 rfl ?_
  refine S_iconst (pc := 2) dX2_bitOf_2 ic_4 ?_
  refine S_idiv (pc := 3) (by decide) dX2_bitOf_3 ?_
  refine S_call_i (pc := 4) (rest := []) (fun q hq => (x_if hq).elim (fun z => R_SU (av := [.int (a1 / (4 : Int32))]) (q := (RX2, TX2, 2)) (M_X0_bitOf _ a0 (a1 / (4 : Int32)) h z.2) z.1 rfl wd_418 wd_422 wd_417 wd_57 wd_1229 wd_384 ⟨by decide, hd_X0_bitOf.2.2⟩ ⟨Nat.le_of_ble_eq_true rfl, Nat.le_of_ble_eq_true rfl⟩ rfl (Nat.le_of_ble_eq_true rfl) dX2_bitOf_4) (fun hq => (by cases hq))) (fun _ h => absurd h List.not_mem_nil) (fun q1 => ?_)
  exact Sim.fin ⟨dX2_bitOf_7, rfl, rfl⟩ rfl
theorem M_X2_bitOf (l : Launch) (a0 : Nat) (a1 : Int32) (h : xH) {q : Int32 × xH} (hq : f_X2_bitOf a0 a1 h = some q) : xM l yX2_bitOf cX2_bitOf 2 (some .int) 1 [.ref a0, .int a1] h (some (.int q.1)) q.2 := xM_i (by decide +kernel) (Nat.le_of_ble_eq_true rfl) (fun K L => W_X2_bitOf K L a0 a1 h) hq
theorem dX4_bitOf_0 : decode cX4_bitOf 0 = .ok (.iconst 1, 1) := by decide +kernel
theorem dX4_bitOf_1 : decode cX4_bitOf 1 = .ok (.ireturn, 1) := by decide +kernel
set_option maxRecDepth 20000 in
set_option maxHeartbeats 4000000 in
theorem W_X4_bitOf (K : xK) (L : xL) (a0 : Nat) (a1 : Int32) (h : xH) : Sim K L cX4_bitOf RX4 "bitOf" 2 0 (fun q : Int32 × xH => q.2) (xRi cX4_bitOf) 0 [(0, .ref a0), (1, .int a1)] [] h (f_X4_bitOf a0 a1 h) := by
  unfold f_X4_bitOf
  refine S_iconst (pc := 0) dX4_bitOf_0 ic_1 ?_
  exact Sim.fin ⟨dX4_bitOf_1, rfl, rfl⟩ rfl
theorem M_X4_bitOf (l : Launch) (a0 : Nat) (a1 : Int32) (h : xH) {q : Int32 × xH} (hq : f_X4_bitOf a0 a1 h = some q) : xM l yX4_bitOf cX4_bitOf 2 (some .int) 0 [.ref a0, .int a1] h (some (.int q.1)) q.2 := xM_i (by decide +kernel) (Nat.le_of_ble_eq_true rfl) (fun K L => W_X4_bitOf K L a0 a1 h) hq
theorem dX8_bitOf_0 : decode cX8_bitOf 0 = .ok (.iload_n 1, 1) := by decide +kernel
theorem dX8_bitOf_1 : decode cX8_bitOf 1 = .ok (.iconst 3, 1) := by decide +kernel
theorem dX8_bitOf_2 : decode cX8_bitOf 2 = .ok (.irem, 1) := by decide +kernel
theorem dX8_bitOf_3 : decode cX8_bitOf 3 = .ok (.ifCond .ne 7, 3) := by decide +kernel
theorem dX8_bitOf_6 : decode cX8_bitOf 6 = .ok (.iconst 1, 1) := by decide +kernel
theorem dX8_bitOf_7 : decode cX8_bitOf 7 = .ok (.goto 4, 3) := by decide +kernel
theorem dX8_bitOf_10 : decode cX8_bitOf 10 = .ok (.iconst 0, 1) := by decide +kernel
theorem dX8_bitOf_11 : decode cX8_bitOf 11 = .ok (.ireturn, 1) := by decide +kernel
set_option maxRecDepth 20000 in
set_option maxHeartbeats 4000000 in
theorem W_X8_bitOf (K : xK) (L : xL) (a0 : Nat) (a1 : Int32) (h : xH) : Sim K L cX8_bitOf RX8 "bitOf" 2 0 (fun q : Int32 × xH => q.2) (xRi cX8_bitOf) 0 [(0, .ref a0), (1, .int a1)] [] h (f_X8_bitOf a0 a1 h) := by
  unfold f_X8_bitOf
  refine S_iload_n (pc := 0) 1 rfl dX8_bitOf_0 rfl ?_
  refine S_iconst (pc := 1) dX8_bitOf_1 ic_3 ?_
  refine S_irem (pc := 2) (by decide) dX8_bitOf_2 ?_
  refine S_if_ne (pc := 3) (tgt := 10) dX8_bitOf_3 (by decide) ?_ ?_
  · refine S_iconst (pc := 6) dX8_bitOf_6 ic_1 ?_
    refine S_goto (pc := 7) (tgt := 11) dX8_bitOf_7 (by decide) ?_
    exact Sim.fin ⟨dX8_bitOf_11, rfl, rfl⟩ rfl
  · refine S_iconst (pc := 10) dX8_bitOf_10 ic_0 ?_
    exact Sim.fin ⟨dX8_bitOf_11, rfl, rfl⟩ rfl
theorem M_X8_bitOf (l : Launch) (a0 : Nat) (a1 : Int32) (h : xH) {q : Int32 × xH} (hq : f_X8_bitOf a0 a1 h = some q) : xM l yX8_bitOf cX8_bitOf 2 (some .int) 0 [.ref a0, .int a1] h (some (.int q.1)) q.2 := xM_i (by decide +kernel) (Nat.le_of_ble_eq_true rfl) (fun K L => W_X8_bitOf K L a0 a1 h) hq
theorem dX10_bitOf_0 : decode cX10_bitOf 0 = .ok (.iconst 0, 1) := by decide +kernel
theorem dX10_bitOf_1 : decode cX10_bitOf 1 = .ok (.ireturn, 1) := by decide +kernel
set_option maxRecDepth 20000 in
set_option maxHeartbeats 4000000 in
theorem W_X10_bitOf (K : xK) (L : xL) (a0 : Nat) (a1 : Int32) (h : xH) : Sim K L cX10_bitOf RX10 "bitOf" 2 0 (fun q : Int32 × xH => q.2) (xRi cX10_bitOf) 0 [(0, .ref a0), (1, .int a1)] [] h (f_X10_bitOf a0 a1 h) := by
  unfold f_X10_bitOf
  refine S_iconst (pc := 0) dX10_bitOf_0 ic_0 ?_
  exact Sim.fin ⟨dX10_bitOf_1, rfl, rfl⟩ rfl
theorem M_X10_bitOf (l : Launch) (a0 : Nat) (a1 : Int32) (h : xH) {q : Int32 × xH} (hq : f_X10_bitOf a0 a1 h = some q) : xM l yX10_bitOf cX10_bitOf 2 (some .int) 0 [.ref a0, .int a1] h (some (.int q.1)) q.2 := xM_i (by decide +kernel) (Nat.le_of_ble_eq_true rfl) (fun K L => W_X10_bitOf K L a0 a1 h) hq
theorem dX6_onesWithin_0 : decode cX6_onesWithin 0 = .ok (.iconst 0, 1) := by decide +kernel
theorem dX6_onesWithin_1 : decode cX6_onesWithin 1 = .ok (.istore_n 1, 1) := by decide +kernel
theorem dX6_onesWithin_2 : decode cX6_onesWithin 2 = .ok (.iconst 0, 1) := by decide +kernel
theorem dX6_onesWithin_3 : decode cX6_onesWithin 3 = .ok (.istore_n 2, 1) := by decide +kernel
theorem dX6_onesWithin_4 : decode cX6_onesWithin 4 = .ok (.iload_n 2, 1) := by decide +kernel
theorem dX6_onesWithin_5 : decode cX6_onesWithin 5 = .ok (.aload_n 0, 1) := by decide +kernel
theorem dX6_onesWithin_6 : decode cX6_onesWithin 6 = .ok (.getfield 13, 3) := by decide +kernel
theorem dX6_onesWithin_9 : decode cX6_onesWithin 9 = .ok (.if_icmp .ge 17, 3) := by decide +kernel
theorem dX6_onesWithin_12 : decode cX6_onesWithin 12 = .ok (.iload_n 1, 1) := by decide +kernel
theorem dX6_onesWithin_13 : decode cX6_onesWithin 13 = .ok (.aload_n 0, 1) := by decide +kernel
theorem dX6_onesWithin_14 : decode cX6_onesWithin 14 = .ok (.iload_n 2, 1) := by decide +kernel
theorem dX6_onesWithin_15 : decode cX6_onesWithin 15 = .ok (.invokevirtual 16, 3) := by decide +kernel
theorem dX6_onesWithin_18 : decode cX6_onesWithin 18 = .ok (.iadd, 1) := by decide +kernel
theorem dX6_onesWithin_19 : decode cX6_onesWithin 19 = .ok (.istore_n 1, 1) := by decide +kernel
theorem dX6_onesWithin_20 : decode cX6_onesWithin 20 = .ok (.iinc 2 1, 3) := by decide +kernel
theorem dX6_onesWithin_23 : decode cX6_onesWithin 23 = .ok (.goto (-19), 3) := by decide +kernel
theorem dX6_onesWithin_26 : decode cX6_onesWithin 26 = .ok (.iload_n 1, 1) := by decide +kernel
theorem dX6_onesWithin_27 : decode cX6_onesWithin 27 = .ok (.ireturn, 1) := by decide +kernel
set_option maxRecDepth 20000 in
set_option maxHeartbeats 4000000 in
theorem L_X6_onesWithin_4 (K : xK) (L : xL) : ∀ (n : Nat) (a0 : Nat) (a1 : Int32) (a2 : Int32) (h : xH), Sim K L cX6_onesWithin RX6 "onesWithin" 3 2 (fun q : Int32 × Int32 × xH => q.2.2) (fun q pc' ls' st' h' => pc' = 26 ∧ ls' = [(0, .ref a0), (1, .int q.1), (2, .int q.2.1)] ∧ st' = [] ∧ h' = q.2.2) 4 [(0, .ref a0), (1, .int a1), (2, .int a2)] [] h (f_X6_onesWithin_L4 n a0 a1 a2 h) := by
  intro n
  induction n with
  | zero =>
    intro a0 a1 a2 h
    exact Sim.none
  | succ n ih =>
    intro a0 a1 a2 h
    unfold f_X6_onesWithin_L4
    refine S_iload_n (pc := 4) 2 rfl dX6_onesWithin_4 rfl ?_
    refine S_aload_n (pc := 5) 0 rfl dX6_onesWithin_5 rfl ?_
    refine S_getI (pc := 6) fd_X6_length wd_351 dX6_onesWithin_6 (fun v1 => ?_)
    refine S_icmp_ge (pc := 9) (tgt := 26) dX6_onesWithin_9 (by decide) ?_ ?_
    · refine S_sub [0, 1, 2] rfl ?_
      exact Sim.fin ⟨rfl, rfl, rfl, rfl⟩ rfl
    · refine S_iload_n (pc := 12) 1 rfl dX6_onesWithin_12 rfl ?_
      refine S_aload_n (pc := 13) 0 rfl dX6_onesWithin_13 rfl ?_
      refine S_iload_n (pc := 14) 2 rfl dX6_onesWithin_14 rfl ?_
      refine S_call_i (pc := 15) (rest := [.int a1]) (fun q hq => (x_if hq).elim (fun z => R_U (av := [.int a2]) (q := (RX0, TX0, 2)) (x := ⟨"ClassBits$Run", "bitOf", "(I)I"⟩) (owner := RX6) (M_X0_bitOf _ a0 a2 h z.2) z.1 rfl wd_418 wd_772 wd_417 wd_57 wd_416 wd_415 (Or.inr (by decide +kernel)) ⟨by decide, by decide, hd_X0_bitOf.2.2⟩ ⟨Nat.le_of_ble_eq_true rfl, Nat.le_of_ble_eq_true rfl⟩ rfl (Nat.le_of_ble_eq_true rfl) dX6_onesWithin_15) (fun hq => (x_if hq).elim (fun z => R_U (av := [.int a2]) (q := (RX2, TX2, 2)) (x := ⟨"ClassBits$Run", "bitOf", "(I)I"⟩) (owner := RX6) (M_X2_bitOf _ a0 a2 h z.2) z.1 rfl wd_421 wd_772 wd_420 wd_58 wd_419 wd_415 (Or.inr (by decide +kernel)) ⟨by decide, by decide, hd_X2_bitOf.2.2⟩ ⟨Nat.le_of_ble_eq_true rfl, Nat.le_of_ble_eq_true rfl⟩ rfl (Nat.le_of_ble_eq_true rfl) dX6_onesWithin_15) (fun hq => (x_if hq).elim (fun z => R_U (av := [.int a2]) (q := (RX4, TX4, 2)) (x := ⟨"ClassBits$Run", "bitOf", "(I)I"⟩) (owner := RX6) (M_X4_bitOf _ a0 a2 h z.2) z.1 rfl wd_425 wd_772 wd_424 wd_55 wd_423 wd_415 (Or.inr (by decide +kernel)) ⟨by decide, by decide, hd_X4_bitOf.2.2⟩ ⟨Nat.le_of_ble_eq_true rfl, Nat.le_of_ble_eq_true rfl⟩ rfl (Nat.le_of_ble_eq_true rfl) dX6_onesWithin_15) (fun hq => (x_if hq).elim (fun z => R_U (av := [.int a2]) (q := (RX8, TX8, 2)) (x := ⟨"ClassBits$Run", "bitOf", "(I)I"⟩) (owner := RX6) (M_X8_bitOf _ a0 a2 h z.2) z.1 rfl wd_428 wd_772 wd_427 wd_56 wd_426 wd_415 (Or.inr (by decide +kernel)) ⟨by decide, by decide, hd_X8_bitOf.2.2⟩ ⟨Nat.le_of_ble_eq_true rfl, Nat.le_of_ble_eq_true rfl⟩ rfl (Nat.le_of_ble_eq_true rfl) dX6_onesWithin_15) (fun hq => (x_if hq).elim (fun z => R_U (av := [.int a2]) (q := (RX10, TX10, 2)) (x := ⟨"ClassBits$Run", "bitOf", "(I)I"⟩) (owner := RX6) (M_X10_bitOf _ a0 a2 h z.2) z.1 rfl wd_431 wd_772 wd_430 wd_54 wd_429 wd_415 (Or.inr (by decide +kernel)) ⟨by decide, by decide, hd_X10_bitOf.2.2⟩ ⟨Nat.le_of_ble_eq_true rfl, Nat.le_of_ble_eq_true rfl⟩ rfl (Nat.le_of_ble_eq_true rfl) dX6_onesWithin_15) (fun hq => (by cases hq))))))) (fun _ h => List.mem_cons_of_mem _ (List.mem_cons_of_mem _ (h))) (fun q2 => ?_)
      refine S_iadd (pc := 18) dX6_onesWithin_18 ?_
      refine S_istore_n (pc := 19) dX6_onesWithin_19 rfl (Nat.le_of_ble_eq_true rfl) rfl ?_
      refine S_iinc (pc := 20) (v := a2 + (1 : Int32)) 2 rfl dX6_onesWithin_20 (x_inc ic_1) (Nat.le_of_ble_eq_true rfl) rfl ?_
      refine S_goto (pc := 23) (tgt := 4) dX6_onesWithin_23 (by decide) ?_
      refine S_sub [2, 1, 0] rfl ?_
      exact ih a0 (a1 + q2.1) (a2 + (1 : Int32)) q2.2
set_option maxRecDepth 20000 in
set_option maxHeartbeats 4000000 in
theorem W_X6_onesWithin (K : xK) (L : xL) (a0 : Nat) (h : xH) : Sim K L cX6_onesWithin RX6 "onesWithin" 3 2 (fun q : Int32 × xH => q.2) (xRi cX6_onesWithin) 0 [(0, .ref a0)] [] h (f_X6_onesWithin a0 h) := by
  unfold f_X6_onesWithin
  refine S_iconst (pc := 0) dX6_onesWithin_0 ic_0 ?_
  refine S_istore_n (pc := 1) dX6_onesWithin_1 rfl (Nat.le_of_ble_eq_true rfl) rfl ?_
  refine S_iconst (pc := 2) dX6_onesWithin_2 ic_0 ?_
  refine S_istore_n (pc := 3) dX6_onesWithin_3 rfl (Nat.le_of_ble_eq_true rfl) rfl ?_
  refine S_sub [2, 1, 0] rfl ?_
  refine Sim.bind (hs := fun q3 : Int32 × Int32 × xH => q3.2.2) (px := 26) (lsx := fun q3 => [(0, .ref a0), (1, .int q3.1), (2, .int q3.2.1)]) (L_X6_onesWithin_4 K L xN a0 (0 : Int32) (0 : Int32) h) (fun q3 => ?_)
  refine S_iload_n (pc := 26) 1 rfl dX6_onesWithin_26 rfl ?_
  exact Sim.fin ⟨dX6_onesWithin_27, rfl, rfl⟩ rfl
theorem M_X6_onesWithin (l : Launch) (a0 : Nat) (h : xH) {q : Int32 × xH} (hq : f_X6_onesWithin a0 h = some q) : xM l yX6_onesWithin cX6_onesWithin 3 (some .int) 2 [.ref a0] h (some (.int q.1)) q.2 := xM_i (by decide +kernel) (Nat.le_of_ble_eq_true rfl) (fun K L => W_X6_onesWithin K L a0 h) hq
theorem dX10_tellMark_0 : decode cX10_tellMark 0 = .ok (.aload_n 1, 1) := by decide +kernel
theorem dX10_tellMark_1 : decode cX10_tellMark 1 = .ok (.bipush 21, 2) := by decide +kernel
theorem dX10_tellMark_3 : decode cX10_tellMark 3 = .ok (.invokevirtual 9, 3) := by decide +kernel
theorem dX10_tellMark_6 : decode cX10_tellMark 6 = .ok (.aload_n 0, 1) := by decide +kernel
theorem dX10_tellMark_7 : decode cX10_tellMark 7 = .ok (.aload_n 1, 1) := by decide +kernel
theorem dX10_tellMark_8 : decode cX10_tellMark 8 = .ok (.invokespecial 24, 3) := by decide +kernel
theorem dX10_tellMark_11 : decode cX10_tellMark 11 = .ok (.aload_n 0, 1) := by decide +kernel
theorem dX10_tellMark_12 : decode cX10_tellMark 12 = .ok (.invokevirtual 25, 3) := by decide +kernel
theorem dX10_tellMark_15 : decode cX10_tellMark 15 = .ok (.iadd, 1) := by decide +kernel
theorem dX10_tellMark_16 : decode cX10_tellMark 16 = .ok (.ireturn, 1) := by decide +kernel
set_option maxRecDepth 20000 in
set_option maxHeartbeats 4000000 in
theorem W_X10_tellMark (K : xK) (L : xL) (a0 : Nat) (a1 : Nat) (h : xH) : Sim K L cX10_tellMark RX10 "tellMark" 2 3 (fun q : Int32 × xH => q.2) (xRi cX10_tellMark) 0 [(0, .ref a0), (1, .ref a1)] [] h (f_X10_tellMark a0 a1 h) := by
  unfold f_X10_tellMark
  refine S_aload_n (pc := 0) 1 rfl dX10_tellMark_0 rfl ?_
  refine S_bipush (pc := 1) dX10_tellMark_1 bi_21 ?_
  refine S_call_v (pc := 3) (rest := []) (fun q hq => (x_if hq).elim (fun z => R_V (av := [.int (21 : Int32)]) (q := (RX9, TX9, 2)) (M_X9_note _ a1 (21 : Int32) h z.2) z.1 rfl wd_730 wd_744 wd_728 wd_48 wd_729 ⟨rfl, hd_X9_note⟩ ⟨Nat.le_of_ble_eq_true rfl, Nat.le_of_ble_eq_true rfl⟩ rfl (Nat.le_of_ble_eq_true rfl) dX10_tellMark_3) (fun hq => (by cases hq))) (fun _ h => absurd h List.not_mem_nil) (fun q1 => ?_)
  refine S_aload_n (pc := 6) 0 rfl dX10_tellMark_6 rfl ?_
  refine S_aload_n (pc := 7) 1 rfl dX10_tellMark_7 rfl ?_
  refine S_call_i (pc := 8) (rest := []) (fun q hq => (x_if hq).elim (fun z => R_SU (av := [.ref a1]) (q := (RX4, TX4, 2)) (M_X6_tellMark _ a0 a1 q1 z.2) z.1 rfl wd_762 wd_760 wd_761 wd_53 wd_1232 wd_390 ⟨by decide, hd_X6_tellMark.2.2⟩ ⟨Nat.le_of_ble_eq_true rfl, Nat.le_of_ble_eq_true rfl⟩ rfl (Nat.le_of_ble_eq_true rfl) dX10_tellMark_8) (fun hq => (x_if hq).elim (fun z => R_SU (av := [.ref a1]) (q := (RX8, TX8, 2)) (M_X6_tellMark _ a0 a1 q1 z.2) z.1 rfl wd_762 wd_760 wd_761 wd_53 wd_1232 wd_390 ⟨by decide, hd_X6_tellMark.2.2⟩ ⟨Nat.le_of_ble_eq_true rfl, Nat.le_of_ble_eq_true rfl⟩ rfl (Nat.le_of_ble_eq_true rfl) dX10_tellMark_8) (fun hq => (x_if hq).elim (fun z => R_SU (av := [.ref a1]) (q := (RX10, TX10, 2)) (M_X6_tellMark _ a0 a1 q1 z.2) z.1 rfl wd_762 wd_760 wd_761 wd_53 wd_1232 wd_390 ⟨by decide, hd_X6_tellMark.2.2⟩ ⟨Nat.le_of_ble_eq_true rfl, Nat.le_of_ble_eq_true rfl⟩ rfl (Nat.le_of_ble_eq_true rfl) dX10_tellMark_8) (fun hq => (by cases hq))))) (fun _ h => absurd h List.not_mem_nil) (fun q2 => ?_)
  refine S_aload_n (pc := 11) 0 rfl dX10_tellMark_11 rfl ?_
  refine S_call_i (pc := 12) (rest := [.int q2.1]) (fun q hq => (x_if hq).elim (fun z => R_U (av := []) (q := (RX4, TX4, 2)) (x := ⟨"ClassBits$ZerosRun", "onesWithin", "()I"⟩) (owner := RX6) (M_X6_onesWithin _ a0 q2.2 z.2) z.1 rfl wd_771 wd_764 wd_770 wd_53 wd_767 wd_765 (Or.inr (by decide +kernel)) ⟨by decide, by decide, hd_X6_onesWithin.2.2⟩ ⟨Nat.le_of_ble_eq_true rfl, Nat.le_of_ble_eq_true rfl⟩ rfl (Nat.le_of_ble_eq_true rfl) dX10_tellMark_12) (fun hq => (x_if hq).elim (fun z => R_U (av := []) (q := (RX8, TX8, 2)) (x := ⟨"ClassBits$ZerosRun", "onesWithin", "()I"⟩) (owner := RX6) (M_X6_onesWithin _ a0 q2.2 z.2) z.1 rfl wd_771 wd_764 wd_770 wd_53 wd_768 wd_765 (Or.inr (by decide +kernel)) ⟨by decide, by decide, hd_X6_onesWithin.2.2⟩ ⟨Nat.le_of_ble_eq_true rfl, Nat.le_of_ble_eq_true rfl⟩ rfl (Nat.le_of_ble_eq_true rfl) dX10_tellMark_12) (fun hq => (x_if hq).elim (fun z => R_U (av := []) (q := (RX10, TX10, 2)) (x := ⟨"ClassBits$ZerosRun", "onesWithin", "()I"⟩) (owner := RX6) (M_X6_onesWithin _ a0 q2.2 z.2) z.1 rfl wd_771 wd_764 wd_770 wd_53 wd_769 wd_765 (Or.inr (by decide +kernel)) ⟨by decide, by decide, hd_X6_onesWithin.2.2⟩ ⟨Nat.le_of_ble_eq_true rfl, Nat.le_of_ble_eq_true rfl⟩ rfl (Nat.le_of_ble_eq_true rfl) dX10_tellMark_12) (fun hq => (by cases hq))))) (fun _ h => List.mem_cons_of_mem _ (h)) (fun q3 => ?_)
  refine S_iadd (pc := 15) dX10_tellMark_15 ?_
  exact Sim.fin ⟨dX10_tellMark_16, rfl, rfl⟩ rfl
theorem M_X10_tellMark (l : Launch) (a0 : Nat) (a1 : Nat) (h : xH) {q : Int32 × xH} (hq : f_X10_tellMark a0 a1 h = some q) : xM l yX10_tellMark cX10_tellMark 2 (some .int) 3 [.ref a0, .ref a1] h (some (.int q.1)) q.2 := xM_i (by decide +kernel) (Nat.le_of_ble_eq_true rfl) (fun K L => W_X10_tellMark K L a0 a1 h) hq
theorem dX4_tellMark_0 : decode cX4_tellMark 0 = .ok (.aload_n 1, 1) := by decide +kernel
theorem dX4_tellMark_1 : decode cX4_tellMark 1 = .ok (.bipush 24, 2) := by decide +kernel
theorem dX4_tellMark_3 : decode cX4_tellMark 3 = .ok (.invokevirtual 9, 3) := by decide +kernel
theorem dX4_tellMark_6 : decode cX4_tellMark 6 = .ok (.iconst 2, 1) := by decide +kernel
theorem dX4_tellMark_7 : decode cX4_tellMark 7 = .ok (.aload_n 0, 1) := by decide +kernel
theorem dX4_tellMark_8 : decode cX4_tellMark 8 = .ok (.aload_n 1, 1) := by decide +kernel
theorem dX4_tellMark_9 : decode cX4_tellMark 9 = .ok (.invokespecial 19, 3) := by decide +kernel
theorem dX4_tellMark_12 : decode cX4_tellMark 12 = .ok (.imul, 1) := by decide +kernel
theorem dX4_tellMark_13 : decode cX4_tellMark 13 = .ok (.ireturn, 1) := by decide +kernel
set_option maxRecDepth 20000 in
set_option maxHeartbeats 4000000 in
theorem W_X4_tellMark (K : xK) (L : xL) (a0 : Nat) (a1 : Nat) (h : xH) : Sim K L cX4_tellMark RX4 "tellMark" 2 4 (fun q : Int32 × xH => q.2) (xRi cX4_tellMark) 0 [(0, .ref a0), (1, .ref a1)] [] h (f_X4_tellMark a0 a1 h) := by
  unfold f_X4_tellMark
  refine S_aload_n (pc := 0) 1 rfl dX4_tellMark_0 rfl ?_
  refine S_bipush (pc := 1) dX4_tellMark_1 bi_24 ?_
  refine S_call_v (pc := 3) (rest := []) (fun q hq => (x_if hq).elim (fun z => R_V (av := [.int (24 : Int32)]) (q := (RX9, TX9, 2)) (M_X9_note _ a1 (24 : Int32) h z.2) z.1 rfl wd_730 wd_740 wd_728 wd_48 wd_729 ⟨rfl, hd_X9_note⟩ ⟨Nat.le_of_ble_eq_true rfl, Nat.le_of_ble_eq_true rfl⟩ rfl (Nat.le_of_ble_eq_true rfl) dX4_tellMark_3) (fun hq => (by cases hq))) (fun _ h => absurd h List.not_mem_nil) (fun q1 => ?_)
  refine S_iconst (pc := 6) dX4_tellMark_6 ic_2 ?_
  refine S_aload_n (pc := 7) 0 rfl dX4_tellMark_7 rfl ?_
  refine S_aload_n (pc := 8) 1 rfl dX4_tellMark_8 rfl ?_
  refine S_call_i (pc := 9) (rest := [.int (2 : Int32)]) (fun q hq => (x_if hq).elim (fun z => R_SU (av := [.ref a1]) (q := (RX4, TX4, 2)) (M_X10_tellMark _ a0 a1 q1 z.2) z.1 rfl wd_759 wd_753 wd_747 wd_54 wd_749 wd_357 ⟨by decide, hd_X10_tellMark.2.2⟩ ⟨Nat.le_of_ble_eq_true rfl, Nat.le_of_ble_eq_true rfl⟩ rfl (Nat.le_of_ble_eq_true rfl) dX4_tellMark_9) (fun hq => (by cases hq))) (fun _ h => List.mem_cons_of_mem _ (List.mem_cons_of_mem _ (h))) (fun q2 => ?_)
  refine S_imul (pc := 12) dX4_tellMark_12 ?_
  exact Sim.fin ⟨dX4_tellMark_13, rfl, rfl⟩ rfl
theorem M_X4_tellMark (l : Launch) (a0 : Nat) (a1 : Nat) (h : xH) {q : Int32 × xH} (hq : f_X4_tellMark a0 a1 h = some q) : xM l yX4_tellMark cX4_tellMark 2 (some .int) 4 [.ref a0, .ref a1] h (some (.int q.1)) q.2 := xM_i (by decide +kernel) (Nat.le_of_ble_eq_true rfl) (fun K L => W_X4_tellMark K L a0 a1 h) hq
theorem dX8_tellMark_0 : decode cX8_tellMark 0 = .ok (.aload_n 1, 1) := by decide +kernel
theorem dX8_tellMark_1 : decode cX8_tellMark 1 = .ok (.bipush 22, 2) := by decide +kernel
theorem dX8_tellMark_3 : decode cX8_tellMark 3 = .ok (.invokevirtual 9, 3) := by decide +kernel
theorem dX8_tellMark_6 : decode cX8_tellMark 6 = .ok (.aload_n 0, 1) := by decide +kernel
theorem dX8_tellMark_7 : decode cX8_tellMark 7 = .ok (.aload_n 1, 1) := by decide +kernel
theorem dX8_tellMark_8 : decode cX8_tellMark 8 = .ok (.invokespecial 15, 3) := by decide +kernel
theorem dX8_tellMark_11 : decode cX8_tellMark 11 = .ok (.sipush 1000, 3) := by decide +kernel
theorem dX8_tellMark_14 : decode cX8_tellMark 14 = .ok (.isub, 1) := by decide +kernel
theorem dX8_tellMark_15 : decode cX8_tellMark 15 = .ok (.ireturn, 1) := by decide +kernel
set_option maxRecDepth 20000 in
set_option maxHeartbeats 4000000 in
theorem W_X8_tellMark (K : xK) (L : xL) (a0 : Nat) (a1 : Nat) (h : xH) : Sim K L cX8_tellMark RX8 "tellMark" 2 4 (fun q : Int32 × xH => q.2) (xRi cX8_tellMark) 0 [(0, .ref a0), (1, .ref a1)] [] h (f_X8_tellMark a0 a1 h) := by
  unfold f_X8_tellMark
  refine S_aload_n (pc := 0) 1 rfl dX8_tellMark_0 rfl ?_
  refine S_bipush (pc := 1) dX8_tellMark_1 bi_22 ?_
  refine S_call_v (pc := 3) (rest := []) (fun q hq => (x_if hq).elim (fun z => R_V (av := [.int (22 : Int32)]) (q := (RX9, TX9, 2)) (M_X9_note _ a1 (22 : Int32) h z.2) z.1 rfl wd_730 wd_757 wd_728 wd_48 wd_729 ⟨rfl, hd_X9_note⟩ ⟨Nat.le_of_ble_eq_true rfl, Nat.le_of_ble_eq_true rfl⟩ rfl (Nat.le_of_ble_eq_true rfl) dX8_tellMark_3) (fun hq => (by cases hq))) (fun _ h => absurd h List.not_mem_nil) (fun q1 => ?_)
  refine S_aload_n (pc := 6) 0 rfl dX8_tellMark_6 rfl ?_
  refine S_aload_n (pc := 7) 1 rfl dX8_tellMark_7 rfl ?_
  refine S_call_i (pc := 8) (rest := []) (fun q hq => (x_if hq).elim (fun z => R_SU (av := [.ref a1]) (q := (RX8, TX8, 2)) (M_X10_tellMark _ a0 a1 q1 z.2) z.1 rfl wd_759 wd_758 wd_747 wd_54 wd_749 wd_366 ⟨by decide, hd_X10_tellMark.2.2⟩ ⟨Nat.le_of_ble_eq_true rfl, Nat.le_of_ble_eq_true rfl⟩ rfl (Nat.le_of_ble_eq_true rfl) dX8_tellMark_8) (fun hq => (by cases hq))) (fun _ h => absurd h List.not_mem_nil) (fun q2 => ?_)
  refine S_sipush (pc := 11) dX8_tellMark_11 si_1000 ?_
  refine S_isub (pc := 14) dX8_tellMark_14 ?_
  exact Sim.fin ⟨dX8_tellMark_15, rfl, rfl⟩ rfl
theorem M_X8_tellMark (l : Launch) (a0 : Nat) (a1 : Nat) (h : xH) {q : Int32 × xH} (hq : f_X8_tellMark a0 a1 h = some q) : xM l yX8_tellMark cX8_tellMark 2 (some .int) 4 [.ref a0, .ref a1] h (some (.int q.1)) q.2 := xM_i (by decide +kernel) (Nat.le_of_ble_eq_true rfl) (fun K L => W_X8_tellMark K L a0 a1 h) hq
theorem dX10_tellSize_0 : decode cX10_tellSize 0 = .ok (.aload_n 1, 1) := by decide +kernel
theorem dX10_tellSize_1 : decode cX10_tellSize 1 = .ok (.bipush 11, 2) := by decide +kernel
theorem dX10_tellSize_3 : decode cX10_tellSize 3 = .ok (.invokevirtual 9, 3) := by decide +kernel
theorem dX10_tellSize_6 : decode cX10_tellSize 6 = .ok (.aload_n 0, 1) := by decide +kernel
theorem dX10_tellSize_7 : decode cX10_tellSize 7 = .ok (.aload_n 1, 1) := by decide +kernel
theorem dX10_tellSize_8 : decode cX10_tellSize 8 = .ok (.invokespecial 15, 3) := by decide +kernel
theorem dX10_tellSize_11 : decode cX10_tellSize 11 = .ok (.istore_n 2, 1) := by decide +kernel
theorem dX10_tellSize_12 : decode cX10_tellSize 12 = .ok (.iload_n 2, 1) := by decide +kernel
theorem dX10_tellSize_13 : decode cX10_tellSize 13 = .ok (.aload_n 0, 1) := by decide +kernel
theorem dX10_tellSize_14 : decode cX10_tellSize 14 = .ok (.aload_n 1, 1) := by decide +kernel
theorem dX10_tellSize_15 : decode cX10_tellSize 15 = .ok (.invokevirtual 19, 3) := by decide +kernel
theorem dX10_tellSize_18 : decode cX10_tellSize 18 = .ok (.iadd, 1) := by decide +kernel
theorem dX10_tellSize_19 : decode cX10_tellSize 19 = .ok (.ireturn, 1) := by decide +kernel
set_option maxRecDepth 20000 in
set_option maxHeartbeats 4000000 in
theorem W_X10_tellSize (K : xK) (L : xL) (a0 : Nat) (a1 : Nat) (h : xH) : Sim K L cX10_tellSize RX10 "tellSize" 3 5 (fun q : Int32 × xH => q.2) (xRi cX10_tellSize) 0 [(0, .ref a0), (1, .ref a1)] [] h (f_X10_tellSize a0 a1 h) := by
  unfold f_X10_tellSize
  refine S_aload_n (pc := 0) 1 rfl dX10_tellSize_0 rfl ?_
  refine S_bipush (pc := 1) dX10_tellSize_1 bi_11 ?_
  refine S_call_v (pc := 3) (rest := []) (fun q hq => (x_if hq).elim (fun z => R_V (av := [.int (11 : Int32)]) (q := (RX9, TX9, 2)) (M_X9_note _ a1 (11 : Int32) h z.2) z.1 rfl wd_730 wd_744 wd_728 wd_48 wd_729 ⟨rfl, hd_X9_note⟩ ⟨Nat.le_of_ble_eq_true rfl, Nat.le_of_ble_eq_true rfl⟩ rfl (Nat.le_of_ble_eq_true rfl) dX10_tellSize_3) (fun hq => (by cases hq))) (fun _ h => absurd h List.not_mem_nil) (fun q1 => ?_)
  refine S_aload_n (pc := 6) 0 rfl dX10_tellSize_6 rfl ?_
  refine S_aload_n (pc := 7) 1 rfl dX10_tellSize_7 rfl ?_
  refine S_call_i (pc := 8) (rest := []) (fun q hq => (x_if hq).elim (fun z => R_SU (av := [.ref a1]) (q := (RX4, TX4, 2)) (M_X6_tellSize _ a0 a1 q1 z.2) z.1 rfl wd_775 wd_745 wd_722 wd_53 wd_723 wd_390 ⟨by decide, hd_X6_tellSize.2.2⟩ ⟨Nat.le_of_ble_eq_true rfl, Nat.le_of_ble_eq_true rfl⟩ rfl (Nat.le_of_ble_eq_true rfl) dX10_tellSize_8) (fun hq => (x_if hq).elim (fun z => R_SU (av := [.ref a1]) (q := (RX8, TX8, 2)) (M_X6_tellSize _ a0 a1 q1 z.2) z.1 rfl wd_775 wd_745 wd_722 wd_53 wd_723 wd_390 ⟨by decide, hd_X6_tellSize.2.2⟩ ⟨Nat.le_of_ble_eq_true rfl, Nat.le_of_ble_eq_true rfl⟩ rfl (Nat.le_of_ble_eq_true rfl) dX10_tellSize_8) (fun hq => (x_if hq).elim (fun z => R_SU (av := [.ref a1]) (q := (RX10, TX10, 2)) (M_X6_tellSize _ a0 a1 q1 z.2) z.1 rfl wd_775 wd_745 wd_722 wd_53 wd_723 wd_390 ⟨by decide, hd_X6_tellSize.2.2⟩ ⟨Nat.le_of_ble_eq_true rfl, Nat.le_of_ble_eq_true rfl⟩ rfl (Nat.le_of_ble_eq_true rfl) dX10_tellSize_8) (fun hq => (by cases hq))))) (fun _ h => absurd h List.not_mem_nil) (fun q2 => ?_)
  refine S_istore_n (pc := 11) dX10_tellSize_11 rfl (Nat.le_of_ble_eq_true rfl) rfl ?_
  refine S_iload_n (pc := 12) 0 rfl dX10_tellSize_12 rfl ?_
  refine S_aload_n (pc := 13) 1 rfl dX10_tellSize_13 rfl ?_
  refine S_aload_n (pc := 14) 2 rfl dX10_tellSize_14 rfl ?_
  refine S_call_i (pc := 15) (rest := [.int q2.1]) (fun q hq => (x_if hq).elim (fun z => R_U (av := [.ref a1]) (q := (RX4, TX4, 2)) (x := yX10_tellMark) (owner := RX10) (M_X4_tellMark _ a0 a1 q2.2 z.2) z.1 rfl wd_752 wd_746 wd_751 wd_55 wd_750 wd_749 (Or.inl ⟨_, _, _, wd_759, wd_747⟩) ⟨by decide, by decide, hd_X4_tellMark.2.2⟩ ⟨Nat.le_of_ble_eq_true rfl, Nat.le_of_ble_eq_true rfl⟩ rfl (Nat.le_of_ble_eq_true rfl) dX10_tellSize_15) (fun hq => (x_if hq).elim (fun z => R_U (av := [.ref a1]) (q := (RX8, TX8, 2)) (x := yX10_tellMark) (owner := RX10) (M_X8_tellMark _ a0 a1 q2.2 z.2) z.1 rfl wd_756 wd_746 wd_755 wd_56 wd_754 wd_749 (Or.inl ⟨_, _, _, wd_759, wd_747⟩) ⟨by decide, by decide, hd_X8_tellMark.2.2⟩ ⟨Nat.le_of_ble_eq_true rfl, Nat.le_of_ble_eq_true rfl⟩ rfl (Nat.le_of_ble_eq_true rfl) dX10_tellSize_15) (fun hq => (x_if hq).elim (fun z => R_V (av := [.ref a1]) (q := (RX10, TX10, 2)) (M_X10_tellMark _ a0 a1 q2.2 z.2) z.1 rfl wd_759 wd_746 wd_747 wd_54 wd_748 ⟨rfl, hd_X10_tellMark⟩ ⟨Nat.le_of_ble_eq_true rfl, Nat.le_of_ble_eq_true rfl⟩ rfl (Nat.le_of_ble_eq_true rfl) dX10_tellSize_15) (fun hq => (by cases hq))))) (fun _ h => List.mem_cons_of_mem _ (List.mem_cons_of_mem _ (h))) (fun q3 => ?_)
  refine S_iadd (pc := 18) dX10_tellSize_18 ?_
  exact Sim.fin ⟨dX10_tellSize_19, rfl, rfl⟩ rfl
theorem M_X10_tellSize (l : Launch) (a0 : Nat) (a1 : Nat) (h : xH) {q : Int32 × xH} (hq : f_X10_tellSize a0 a1 h = some q) : xM l yX10_tellSize cX10_tellSize 3 (some .int) 5 [.ref a0, .ref a1] h (some (.int q.1)) q.2 := xM_i (by decide +kernel) (Nat.le_of_ble_eq_true rfl) (fun K L => W_X10_tellSize K L a0 a1 h) hq
theorem dX4_tellSize_0 : decode cX4_tellSize 0 = .ok (.aload_n 1, 1) := by decide +kernel
theorem dX4_tellSize_1 : decode cX4_tellSize 1 = .ok (.bipush 12, 2) := by decide +kernel
theorem dX4_tellSize_3 : decode cX4_tellSize 3 = .ok (.invokevirtual 9, 3) := by decide +kernel
theorem dX4_tellSize_6 : decode cX4_tellSize 6 = .ok (.iconst 0, 1) := by decide +kernel
theorem dX4_tellSize_7 : decode cX4_tellSize 7 = .ok (.aload_n 0, 1) := by decide +kernel
theorem dX4_tellSize_8 : decode cX4_tellSize 8 = .ok (.aload_n 1, 1) := by decide +kernel
theorem dX4_tellSize_9 : decode cX4_tellSize 9 = .ok (.invokespecial 15, 3) := by decide +kernel
theorem dX4_tellSize_12 : decode cX4_tellSize 12 = .ok (.isub, 1) := by decide +kernel
theorem dX4_tellSize_13 : decode cX4_tellSize 13 = .ok (.ireturn, 1) := by decide +kernel
set_option maxRecDepth 20000 in
set_option maxHeartbeats 4000000 in
theorem W_X4_tellSize (K : xK) (L : xL) (a0 : Nat) (a1 : Nat) (h : xH) : Sim K L cX4_tellSize RX4 "tellSize" 2 6 (fun q : Int32 × xH => q.2) (xRi cX4_tellSize) 0 [(0, .ref a0), (1, .ref a1)] [] h (f_X4_tellSize a0 a1 h) := by
  unfold f_X4_tellSize
  refine S_aload_n (pc := 0) 1 rfl dX4_tellSize_0 rfl ?_
  refine S_bipush (pc := 1) dX4_tellSize_1 bi_12 ?_
  refine S_call_v (pc := 3) (rest := []) (fun q hq => (x_if hq).elim (fun z => R_V (av := [.int (12 : Int32)]) (q := (RX9, TX9, 2)) (M_X9_note _ a1 (12 : Int32) h z.2) z.1 rfl wd_730 wd_740 wd_728 wd_48 wd_729 ⟨rfl, hd_X9_note⟩ ⟨Nat.le_of_ble_eq_true rfl, Nat.le_of_ble_eq_true rfl⟩ rfl (Nat.le_of_ble_eq_true rfl) dX4_tellSize_3) (fun hq => (by cases hq))) (fun _ h => absurd h List.not_mem_nil) (fun q1 => ?_)
  refine S_iconst (pc := 6) dX4_tellSize_6 ic_0 ?_
  refine S_aload_n (pc := 7) 0 rfl dX4_tellSize_7 rfl ?_
  refine S_aload_n (pc := 8) 1 rfl dX4_tellSize_8 rfl ?_
  refine S_call_i (pc := 9) (rest := [.int (0 : Int32)]) (fun q hq => (x_if hq).elim (fun z => R_SU (av := [.ref a1]) (q := (RX4, TX4, 2)) (M_X10_tellSize _ a0 a1 q1 z.2) z.1 rfl wd_743 wd_741 wd_742 wd_54 wd_1231 wd_357 ⟨by decide, hd_X10_tellSize.2.2⟩ ⟨Nat.le_of_ble_eq_true rfl, Nat.le_of_ble_eq_true rfl⟩ rfl (Nat.le_of_ble_eq_true rfl) dX4_tellSize_9) (fun hq => (by cases hq))) (fun _ h => List.mem_cons_of_mem _ (List.mem_cons_of_mem _ (h))) (fun q2 => ?_)
  refine S_isub (pc := 12) dX4_tellSize_12 ?_
  exact Sim.fin ⟨dX4_tellSize_13, rfl, rfl⟩ rfl
theorem M_X4_tellSize (l : Launch) (a0 : Nat) (a1 : Nat) (h : xH) {q : Int32 × xH} (hq : f_X4_tellSize a0 a1 h = some q) : xM l yX4_tellSize cX4_tellSize 2 (some .int) 6 [.ref a0, .ref a1] h (some (.int q.1)) q.2 := xM_i (by decide +kernel) (Nat.le_of_ble_eq_true rfl) (fun K L => W_X4_tellSize K L a0 a1 h) hq
theorem dX11_ask_0 : decode cX11_ask 0 = .ok (.aload_n 0, 1) := by decide +kernel
theorem dX11_ask_1 : decode cX11_ask 1 = .ok (.iload_n 1, 1) := by decide +kernel
theorem dX11_ask_2 : decode cX11_ask 2 = .ok (.invokevirtual 250, 3) := by decide +kernel
theorem dX11_ask_5 : decode cX11_ask 5 = .ok (.ifCond .eq 12, 3) := by decide +kernel
theorem dX11_ask_8 : decode cX11_ask 8 = .ok (.iload_n 2, 1) := by decide +kernel
theorem dX11_ask_9 : decode cX11_ask 9 = .ok (.ifCond .lt 8, 3) := by decide +kernel
theorem dX11_ask_12 : decode cX11_ask 12 = .ok (.iload_n 2, 1) := by decide +kernel
theorem dX11_ask_13 : decode cX11_ask 13 = .ok (.iconst 1, 1) := by decide +kernel
theorem dX11_ask_14 : decode cX11_ask 14 = .ok (.if_icmp .le 6, 3) := by decide +kernel
theorem dX11_ask_17 : decode cX11_ask 17 = .ok (.ldc 65, 2) := by decide +kernel
theorem dX11_ask_19 : decode cX11_ask 19 = .ok (.ireturn, 1) := by decide +kernel
theorem dX11_ask_20 : decode cX11_ask 20 = .ok (.aload_n 0, 1) := by decide +kernel
theorem dX11_ask_21 : decode cX11_ask 21 = .ok (.getfield 56, 3) := by decide +kernel
theorem dX11_ask_24 : decode cX11_ask 24 = .ok (.iconst 0, 1) := by decide +kernel
theorem dX11_ask_25 : decode cX11_ask 25 = .ok (.putfield 263, 3) := by decide +kernel
theorem dX11_ask_28 : decode cX11_ask 28 = .ok (.iload_n 2, 1) := by decide +kernel
theorem dX11_ask_29 : decode cX11_ask 29 = .ok (.ifCond .ne 19, 3) := by decide +kernel
theorem dX11_ask_32 : decode cX11_ask 32 = .ok (.aload_n 0, 1) := by decide +kernel
theorem dX11_ask_33 : decode cX11_ask 33 = .ok (.getfield 49, 3) := by decide +kernel
theorem dX11_ask_36 : decode cX11_ask 36 = .ok (.iload_n 1, 1) := by decide +kernel
theorem dX11_ask_37 : decode cX11_ask 37 = .ok (.aaload, 1) := by decide +kernel
theorem dX11_ask_38 : decode cX11_ask 38 = .ok (.aload_n 0, 1) := by decide +kernel
theorem dX11_ask_39 : decode cX11_ask 39 = .ok (.getfield 56, 3) := by decide +kernel
theorem dX11_ask_42 : decode cX11_ask 42 = .ok (.invokevirtual 264, 3) := by decide +kernel
theorem dX11_ask_45 : decode cX11_ask 45 = .ok (.goto 16, 3) := by decide +kernel
theorem dX11_ask_48 : decode cX11_ask 48 = .ok (.aload_n 0, 1) := by decide +kernel
theorem dX11_ask_49 : decode cX11_ask 49 = .ok (.getfield 49, 3) := by decide +kernel
theorem dX11_ask_52 : decode cX11_ask 52 = .ok (.iload_n 1, 1) := by decide +kernel
theorem dX11_ask_53 : decode cX11_ask 53 = .ok (.aaload, 1) := by decide +kernel
theorem dX11_ask_54 : decode cX11_ask 54 = .ok (.aload_n 0, 1) := by decide +kernel
theorem dX11_ask_55 : decode cX11_ask 55 = .ok (.getfield 56, 3) := by decide +kernel
theorem dX11_ask_58 : decode cX11_ask 58 = .ok (.invokevirtual 268, 3) := by decide +kernel
theorem dX11_ask_61 : decode cX11_ask 61 = .ok (.ireturn, 1) := by decide +kernel
set_option maxRecDepth 20000 in
set_option maxHeartbeats 4000000 in
theorem W_X11_ask (K : xK) (L : xL) (a0 : Nat) (a1 : Int32) (a2 : Int32) (h : xH) : Sim K L cX11_ask RX11 "ask" 3 7 (fun q : Int32 × xH => q.2) (xRi cX11_ask) 0 [(0, .ref a0), (1, .int a1), (2, .int a2)] [] h (f_X11_ask a0 a1 a2 h) := by
  unfold f_X11_ask
  refine S_aload_n (pc := 0) 0 rfl dX11_ask_0 rfl ?_
  refine S_iload_n (pc := 1) 1 rfl dX11_ask_1 rfl ?_
  refine S_call_i (pc := 2) (rest := []) (fun q hq => (x_if hq).elim (fun z => R_V (av := [.int a1]) (q := (RX11, TX11, 12)) (M_X11_isRun _ a0 a1 h z.2) z.1 rfl wd_691 wd_688 wd_690 wd_44 wd_11 ⟨rfl, hd_X11_isRun⟩ ⟨Nat.le_of_ble_eq_true rfl, Nat.le_of_ble_eq_true rfl⟩ rfl (Nat.le_of_ble_eq_true rfl) dX11_ask_2) (fun hq => (by cases hq))) (fun _ h => absurd h List.not_mem_nil) (fun q1 => ?_)
  refine S_if_eq (pc := 5) (tgt := 17) dX11_ask_5 (by decide) ?_ ?_
  · refine S_ldc (pc := 17) wd_233 dX11_ask_17 ?_
    exact Sim.fin ⟨dX11_ask_19, rfl, rfl⟩ rfl
  · refine S_iload_n (pc := 8) 2 rfl dX11_ask_8 rfl ?_
    refine S_if_lt (pc := 9) (tgt := 17) dX11_ask_9 (by decide) ?_ ?_
    · refine S_ldc (pc := 17) wd_233 dX11_ask_17 ?_
      exact Sim.fin ⟨dX11_ask_19, rfl, rfl⟩ rfl
    · refine S_iload_n (pc := 12) 2 rfl dX11_ask_12 rfl ?_
      refine S_iconst (pc := 13) dX11_ask_13 ic_1 ?_
      refine S_icmp_le (pc := 14) (tgt := 20) dX11_ask_14 (by decide) ?_ ?_
      · refine S_aload_n (pc := 20) 0 rfl dX11_ask_20 rfl ?_
        refine S_getR (pc := 21) fd_X11_asked wd_197 dX11_ask_21 (fun v2 => ?_)
        refine S_iconst (pc := 24) dX11_ask_24 ic_0 ?_
        refine S_putI (pc := 25) fd_X9_held wd_161 rfl rfl dX11_ask_25 (fun h3 => ?_)
        refine S_iload_n (pc := 28) 2 rfl dX11_ask_28 rfl ?_
        refine S_if_ne (pc := 29) (tgt := 48) dX11_ask_29 (by decide) ?_ ?_
        · refine S_aload_n (pc := 32) 0 rfl dX11_ask_32 rfl ?_
          refine S_getR (pc := 33) fd_X11_runs wd_196 dX11_ask_33 (fun v4 => ?_)
          refine S_iload_n (pc := 36) 1 rfl dX11_ask_36 rfl ?_
          refine S_aR (pc := 37) (fun _ => rfl) dX11_ask_37 (fun v5 => ?_)
          refine S_aload_n (pc := 38) 0 rfl dX11_ask_38 rfl ?_
          refine S_getR (pc := 39) fd_X11_asked wd_197 dX11_ask_39 (fun v6 => ?_)
          refine S_call_i (pc := 42) (rest := []) (fun q hq => (x_if hq).elim (fun z => R_U (av := [.ref v6]) (q := (RX0, TX0, 2)) (x := yX6_tellSize) (owner := RX6) (M_X0_tellSize _ v5 v6 h3 z.2) z.1 rfl wd_726 wd_721 wd_725 wd_57 wd_724 wd_723 (Or.inl ⟨_, _, _, wd_775, wd_722⟩) ⟨by decide, by decide, hd_X0_tellSize.2.2⟩ ⟨Nat.le_of_ble_eq_true rfl, Nat.le_of_ble_eq_true rfl⟩ rfl (Nat.le_of_ble_eq_true rfl) dX11_ask_42) (fun hq => (x_if hq).elim (fun z => R_U (av := [.ref v6]) (q := (RX2, TX2, 2)) (x := yX6_tellSize) (owner := RX6) (M_X2_tellSize _ v5 v6 h3 z.2) z.1 rfl wd_734 wd_721 wd_733 wd_58 wd_732 wd_723 (Or.inl ⟨_, _, _, wd_775, wd_722⟩) ⟨by decide, by decide, hd_X2_tellSize.2.2⟩ ⟨Nat.le_of_ble_eq_true rfl, Nat.le_of_ble_eq_true rfl⟩ rfl (Nat.le_of_ble_eq_true rfl) dX11_ask_42) (fun hq => (x_if hq).elim (fun z => R_U (av := [.ref v6]) (q := (RX4, TX4, 2)) (x := yX6_tellSize) (owner := RX6) (M_X4_tellSize _ v5 v6 h3 z.2) z.1 rfl wd_739 wd_721 wd_738 wd_55 wd_737 wd_723 (Or.inl ⟨_, _, _, wd_775, wd_722⟩) ⟨by decide, by decide, hd_X4_tellSize.2.2⟩ ⟨Nat.le_of_ble_eq_true rfl, Nat.le_of_ble_eq_true rfl⟩ rfl (Nat.le_of_ble_eq_true rfl) dX11_ask_42) (fun hq => (x_if hq).elim (fun z => R_U (av := [.ref v6]) (q := (RX8, TX8, 2)) (x := yX6_tellSize) (owner := RX6) (M_X10_tellSize _ v5 v6 h3 z.2) z.1 rfl wd_743 wd_721 wd_742 wd_54 wd_773 wd_723 (Or.inl ⟨_, _, _, wd_775, wd_722⟩) ⟨by decide, by decide, hd_X10_tellSize.2.2⟩ ⟨Nat.le_of_ble_eq_true rfl, Nat.le_of_ble_eq_true rfl⟩ rfl (Nat.le_of_ble_eq_true rfl) dX11_ask_42) (fun hq => (x_if hq).elim (fun z => R_U (av := [.ref v6]) (q := (RX10, TX10, 2)) (x := yX6_tellSize) (owner := RX6) (M_X10_tellSize _ v5 v6 h3 z.2) z.1 rfl wd_743 wd_721 wd_742 wd_54 wd_774 wd_723 (Or.inl ⟨_, _, _, wd_775, wd_722⟩) ⟨by decide, by decide, hd_X10_tellSize.2.2⟩ ⟨Nat.le_of_ble_eq_true rfl, Nat.le_of_ble_eq_true rfl⟩ rfl (Nat.le_of_ble_eq_true rfl) dX11_ask_42) (fun hq => (by cases hq))))))) (fun _ h => absurd h List.not_mem_nil) (fun q7 => ?_)
          refine S_goto (pc := 45) (tgt := 61) dX11_ask_45 (by decide) ?_
          exact Sim.fin ⟨dX11_ask_61, rfl, rfl⟩ rfl
        · refine S_aload_n (pc := 48) 0 rfl dX11_ask_48 rfl ?_
          refine S_getR (pc := 49) fd_X11_runs wd_196 dX11_ask_49 (fun v8 => ?_)
          refine S_iload_n (pc := 52) 1 rfl dX11_ask_52 rfl ?_
          refine S_aR (pc := 53) (fun _ => rfl) dX11_ask_53 (fun v9 => ?_)
          refine S_aload_n (pc := 54) 0 rfl dX11_ask_54 rfl ?_
          refine S_getR (pc := 55) fd_X11_asked wd_197 dX11_ask_55 (fun v10 => ?_)
          refine S_call_i (pc := 58) (rest := []) (fun q hq => (x_if hq).elim (fun z => R_U (av := [.ref v10]) (q := (RX0, TX0, 2)) (x := yX6_tellMark) (owner := RX6) (M_X0_tellMark _ v9 v10 h3 z.2) z.1 rfl wd_778 wd_776 wd_777 wd_57 wd_1233 wd_1232 (Or.inl ⟨_, _, _, wd_762, wd_761⟩) ⟨by decide, by decide, hd_X0_tellMark.2.2⟩ ⟨Nat.le_of_ble_eq_true rfl, Nat.le_of_ble_eq_true rfl⟩ rfl (Nat.le_of_ble_eq_true rfl) dX11_ask_58) (fun hq => (x_if hq).elim (fun z => R_U (av := [.ref v10]) (q := (RX2, TX2, 2)) (x := yX6_tellMark) (owner := RX6) (M_X0_tellMark _ v9 v10 h3 z.2) z.1 rfl wd_778 wd_776 wd_777 wd_57 wd_1236 wd_1232 (Or.inl ⟨_, _, _, wd_762, wd_761⟩) ⟨by decide, by decide, hd_X0_tellMark.2.2⟩ ⟨Nat.le_of_ble_eq_true rfl, Nat.le_of_ble_eq_true rfl⟩ rfl (Nat.le_of_ble_eq_true rfl) dX11_ask_58) (fun hq => (x_if hq).elim (fun z => R_U (av := [.ref v10]) (q := (RX4, TX4, 2)) (x := yX6_tellMark) (owner := RX6) (M_X4_tellMark _ v9 v10 h3 z.2) z.1 rfl wd_752 wd_776 wd_751 wd_55 wd_1237 wd_1232 (Or.inl ⟨_, _, _, wd_762, wd_761⟩) ⟨by decide, by decide, hd_X4_tellMark.2.2⟩ ⟨Nat.le_of_ble_eq_true rfl, Nat.le_of_ble_eq_true rfl⟩ rfl (Nat.le_of_ble_eq_true rfl) dX11_ask_58) (fun hq => (x_if hq).elim (fun z => R_U (av := [.ref v10]) (q := (RX8, TX8, 2)) (x := yX6_tellMark) (owner := RX6) (M_X8_tellMark _ v9 v10 h3 z.2) z.1 rfl wd_756 wd_776 wd_755 wd_56 wd_1238 wd_1232 (Or.inl ⟨_, _, _, wd_762, wd_761⟩) ⟨by decide, by decide, hd_X8_tellMark.2.2⟩ ⟨Nat.le_of_ble_eq_true rfl, Nat.le_of_ble_eq_true rfl⟩ rfl (Nat.le_of_ble_eq_true rfl) dX11_ask_58) (fun hq => (x_if hq).elim (fun z => R_U (av := [.ref v10]) (q := (RX10, TX10, 2)) (x := yX6_tellMark) (owner := RX6) (M_X10_tellMark _ v9 v10 h3 z.2) z.1 rfl wd_759 wd_776 wd_747 wd_54 wd_1239 wd_1232 (Or.inl ⟨_, _, _, wd_762, wd_761⟩) ⟨by decide, by decide, hd_X10_tellMark.2.2⟩ ⟨Nat.le_of_ble_eq_true rfl, Nat.le_of_ble_eq_true rfl⟩ rfl (Nat.le_of_ble_eq_true rfl) dX11_ask_58) (fun hq => (by cases hq))))))) (fun _ h => absurd h List.not_mem_nil) (fun q11 => ?_)
          exact Sim.fin ⟨dX11_ask_61, rfl, rfl⟩ rfl
      · refine S_ldc (pc := 17) wd_233 dX11_ask_17 ?_
        exact Sim.fin ⟨dX11_ask_19, rfl, rfl⟩ rfl
theorem M_X11_ask (l : Launch) (a0 : Nat) (a1 : Int32) (a2 : Int32) (h : xH) {q : Int32 × xH} (hq : f_X11_ask a0 a1 a2 h = some q) : xM l yX11_ask cX11_ask 3 (some .int) 7 [.ref a0, .int a1, .int a2] h (some (.int q.1)) q.2 := xM_i (by decide +kernel) (Nat.le_of_ble_eq_true rfl) (fun K L => W_X11_ask K L a0 a1 a2 h) hq
theorem dX11_bits_0 : decode cX11_bits 0 = .ok (.iload_n 1, 1) := by decide +kernel
theorem dX11_bits_1 : decode cX11_bits 1 = .ok (.invokestatic 113, 3) := by decide +kernel
theorem dX11_bits_4 : decode cX11_bits 4 = .ok (.ifCond .eq 15, 3) := by decide +kernel
theorem dX11_bits_7 : decode cX11_bits 7 = .ok (.aload_n 0, 1) := by decide +kernel
theorem dX11_bits_8 : decode cX11_bits 8 = .ok (.getfield 17, 3) := by decide +kernel
theorem dX11_bits_11 : decode cX11_bits 11 = .ok (.iload_n 1, 1) := by decide +kernel
theorem dX11_bits_12 : decode cX11_bits 12 = .ok (.aaload, 1) := by decide +kernel
theorem dX11_bits_13 : decode cX11_bits 13 = .ok (.getfield 148, 3) := by decide +kernel
theorem dX11_bits_16 : decode cX11_bits 16 = .ok (.goto 5, 3) := by decide +kernel
theorem dX11_bits_19 : decode cX11_bits 19 = .ok (.ldc 65, 2) := by decide +kernel
theorem dX11_bits_21 : decode cX11_bits 21 = .ok (.ireturn, 1) := by decide +kernel
set_option maxRecDepth 20000 in
set_option maxHeartbeats 4000000 in
theorem W_X11_bits (K : xK) (L : xL) (a0 : Nat) (a1 : Int32) (h : xH) : Sim K L cX11_bits RX11 "bits" 2 1 (fun q : Int32 × xH => q.2) (xRi cX11_bits) 0 [(0, .ref a0), (1, .int a1)] [] h (f_X11_bits a0 a1 h) := by
  unfold f_X11_bits
  refine S_iload_n (pc := 0) 1 rfl dX11_bits_0 rfl ?_
  refine S_call_i (pc := 1) (rest := []) (fun q hq => R_S (av := [.int a1]) (M_X11_isVector _ a1 h hq) wd_293 wd_291 wd_292 wd_44 hd_X11_isVector ⟨Nat.le_of_ble_eq_true rfl, Nat.le_of_ble_eq_true rfl⟩ rfl (Nat.le_of_ble_eq_true rfl) dX11_bits_1) (fun _ h => absurd h List.not_mem_nil) (fun q1 => ?_)
  refine S_if_eq (pc := 4) (tgt := 19) dX11_bits_4 (by decide) ?_ ?_
  · refine S_ldc (pc := 19) wd_233 dX11_bits_19 ?_
    exact Sim.fin ⟨dX11_bits_21, rfl, rfl⟩ rfl
  · refine S_aload_n (pc := 7) 0 rfl dX11_bits_7 rfl ?_
    refine S_getR (pc := 8) fd_X11_vectors wd_190 dX11_bits_8 (fun v2 => ?_)
    refine S_iload_n (pc := 11) 1 rfl dX11_bits_11 rfl ?_
    refine S_aR (pc := 12) (fun _ => rfl) dX11_bits_12 (fun v3 => ?_)
    refine S_getI (pc := 13) fd_X1_length wd_81 dX11_bits_13 (fun v4 => ?_)
    refine S_goto (pc := 16) (tgt := 21) dX11_bits_16 (by decide) ?_
    exact Sim.fin ⟨dX11_bits_21, rfl, rfl⟩ rfl
theorem M_X11_bits (l : Launch) (a0 : Nat) (a1 : Int32) (h : xH) {q : Int32 × xH} (hq : f_X11_bits a0 a1 h = some q) : xM l yX11_bits cX11_bits 2 (some .int) 1 [.ref a0, .int a1] h (some (.int q.1)) q.2 := xM_i (by decide +kernel) (Nat.le_of_ble_eq_true rfl) (fun K L => W_X11_bits K L a0 a1 h) hq
theorem dX11_bitsOfAll_0 : decode cX11_bitsOfAll 0 = .ok (.iconst 0, 1) := by decide +kernel
theorem dX11_bitsOfAll_1 : decode cX11_bitsOfAll 1 = .ok (.istore_n 1, 1) := by decide +kernel
theorem dX11_bitsOfAll_2 : decode cX11_bitsOfAll 2 = .ok (.iconst 0, 1) := by decide +kernel
theorem dX11_bitsOfAll_3 : decode cX11_bitsOfAll 3 = .ok (.istore_n 2, 1) := by decide +kernel
theorem dX11_bitsOfAll_4 : decode cX11_bitsOfAll 4 = .ok (.iload_n 2, 1) := by decide +kernel
theorem dX11_bitsOfAll_5 : decode cX11_bitsOfAll 5 = .ok (.iconst 4, 1) := by decide +kernel
theorem dX11_bitsOfAll_6 : decode cX11_bitsOfAll 6 = .ok (.if_icmp .ge 21, 3) := by decide +kernel
theorem dX11_bitsOfAll_9 : decode cX11_bitsOfAll 9 = .ok (.iload_n 1, 1) := by decide +kernel
theorem dX11_bitsOfAll_10 : decode cX11_bitsOfAll 10 = .ok (.aload_n 0, 1) := by decide +kernel
theorem dX11_bitsOfAll_11 : decode cX11_bitsOfAll 11 = .ok (.getfield 17, 3) := by decide +kernel
theorem dX11_bitsOfAll_14 : decode cX11_bitsOfAll 14 = .ok (.iload_n 2, 1) := by decide +kernel
theorem dX11_bitsOfAll_15 : decode cX11_bitsOfAll 15 = .ok (.aaload, 1) := by decide +kernel
theorem dX11_bitsOfAll_16 : decode cX11_bitsOfAll 16 = .ok (.getfield 148, 3) := by decide +kernel
theorem dX11_bitsOfAll_19 : decode cX11_bitsOfAll 19 = .ok (.iadd, 1) := by decide +kernel
theorem dX11_bitsOfAll_20 : decode cX11_bitsOfAll 20 = .ok (.istore_n 1, 1) := by decide +kernel
theorem dX11_bitsOfAll_21 : decode cX11_bitsOfAll 21 = .ok (.iinc 2 1, 3) := by decide +kernel
theorem dX11_bitsOfAll_24 : decode cX11_bitsOfAll 24 = .ok (.goto (-20), 3) := by decide +kernel
theorem dX11_bitsOfAll_27 : decode cX11_bitsOfAll 27 = .ok (.iload_n 1, 1) := by decide +kernel
theorem dX11_bitsOfAll_28 : decode cX11_bitsOfAll 28 = .ok (.ireturn, 1) := by decide +kernel
set_option maxRecDepth 20000 in
set_option maxHeartbeats 4000000 in
theorem L_X11_bitsOfAll_4 (K : xK) (L : xL) : ∀ (n : Nat) (a0 : Nat) (a1 : Int32) (a2 : Int32) (h : xH), Sim K L cX11_bitsOfAll RX11 "bitsOfAll" 3 0 (fun q : Int32 × Int32 × xH => q.2.2) (fun q pc' ls' st' h' => pc' = 27 ∧ ls' = [(0, .ref a0), (1, .int q.1), (2, .int q.2.1)] ∧ st' = [] ∧ h' = q.2.2) 4 [(0, .ref a0), (1, .int a1), (2, .int a2)] [] h (f_X11_bitsOfAll_L4 n a0 a1 a2 h) := by
  intro n
  induction n with
  | zero =>
    intro a0 a1 a2 h
    exact Sim.none
  | succ n ih =>
    intro a0 a1 a2 h
    unfold f_X11_bitsOfAll_L4
    refine S_iload_n (pc := 4) 2 rfl dX11_bitsOfAll_4 rfl ?_
    refine S_iconst (pc := 5) dX11_bitsOfAll_5 ic_4 ?_
    refine S_icmp_ge (pc := 6) (tgt := 27) dX11_bitsOfAll_6 (by decide) ?_ ?_
    · refine S_sub [0, 1, 2] rfl ?_
      exact Sim.fin ⟨rfl, rfl, rfl, rfl⟩ rfl
    · refine S_iload_n (pc := 9) 1 rfl dX11_bitsOfAll_9 rfl ?_
      refine S_aload_n (pc := 10) 0 rfl dX11_bitsOfAll_10 rfl ?_
      refine S_getR (pc := 11) fd_X11_vectors wd_190 dX11_bitsOfAll_11 (fun v1 => ?_)
      refine S_iload_n (pc := 14) 2 rfl dX11_bitsOfAll_14 rfl ?_
      refine S_aR (pc := 15) (fun _ => rfl) dX11_bitsOfAll_15 (fun v2 => ?_)
      refine S_getI (pc := 16) fd_X1_length wd_81 dX11_bitsOfAll_16 (fun v3 => ?_)
      refine S_iadd (pc := 19) dX11_bitsOfAll_19 ?_
      refine S_istore_n (pc := 20) dX11_bitsOfAll_20 rfl (Nat.le_of_ble_eq_true rfl) rfl ?_
      refine S_iinc (pc := 21) (v := a2 + (1 : Int32)) 2 rfl dX11_bitsOfAll_21 (x_inc ic_1) (Nat.le_of_ble_eq_true rfl) rfl ?_
      refine S_goto (pc := 24) (tgt := 4) dX11_bitsOfAll_24 (by decide) ?_
      refine S_sub [2, 1, 0] rfl ?_
      exact ih a0 (a1 + v3) (a2 + (1 : Int32)) h
set_option maxRecDepth 20000 in
set_option maxHeartbeats 4000000 in
theorem W_X11_bitsOfAll (K : xK) (L : xL) (a0 : Nat) (h : xH) : Sim K L cX11_bitsOfAll RX11 "bitsOfAll" 3 0 (fun q : Int32 × xH => q.2) (xRi cX11_bitsOfAll) 0 [(0, .ref a0)] [] h (f_X11_bitsOfAll a0 h) := by
  unfold f_X11_bitsOfAll
  refine S_iconst (pc := 0) dX11_bitsOfAll_0 ic_0 ?_
  refine S_istore_n (pc := 1) dX11_bitsOfAll_1 rfl (Nat.le_of_ble_eq_true rfl) rfl ?_
  refine S_iconst (pc := 2) dX11_bitsOfAll_2 ic_0 ?_
  refine S_istore_n (pc := 3) dX11_bitsOfAll_3 rfl (Nat.le_of_ble_eq_true rfl) rfl ?_
  refine S_sub [2, 1, 0] rfl ?_
  refine Sim.bind (hs := fun q4 : Int32 × Int32 × xH => q4.2.2) (px := 27) (lsx := fun q4 => [(0, .ref a0), (1, .int q4.1), (2, .int q4.2.1)]) (L_X11_bitsOfAll_4 K L xN a0 (0 : Int32) (0 : Int32) h) (fun q4 => ?_)
  refine S_iload_n (pc := 27) 1 rfl dX11_bitsOfAll_27 rfl ?_
  exact Sim.fin ⟨dX11_bitsOfAll_28, rfl, rfl⟩ rfl
theorem M_X11_bitsOfAll (l : Launch) (a0 : Nat) (h : xH) {q : Int32 × xH} (hq : f_X11_bitsOfAll a0 h = some q) : xM l yX11_bitsOfAll cX11_bitsOfAll 3 (some .int) 0 [.ref a0] h (some (.int q.1)) q.2 := xM_i (by decide +kernel) (Nat.le_of_ble_eq_true rfl) (fun K L => W_X11_bitsOfAll K L a0 h) hq
theorem dX11_choices_0 : decode cX11_choices 0 = .ok (.getstatic 302, 3) := by decide +kernel
theorem dX11_choices_3 : decode cX11_choices 3 = .ok (.bipush 16, 2) := by decide +kernel
theorem dX11_choices_5 : decode cX11_choices 5 = .ok (.iload_n 0, 1) := by decide +kernel
theorem dX11_choices_6 : decode cX11_choices 6 = .ok (.imul, 1) := by decide +kernel
theorem dX11_choices_7 : decode cX11_choices 7 = .ok (.iload_n 1, 1) := by decide +kernel
theorem dX11_choices_8 : decode cX11_choices 8 = .ok (.iadd, 1) := by decide +kernel
theorem dX11_choices_9 : decode cX11_choices 9 = .ok (.iaload, 1) := by decide +kernel
theorem dX11_choices_10 : decode cX11_choices 10 = .ok (.ireturn, 1) := by decide +kernel
set_option maxRecDepth 20000 in
set_option maxHeartbeats 4000000 in
theorem W_X11_choices (K : xK) (L : xL) (a0 : Int32) (a1 : Int32) (h : xH) : Sim K L cX11_choices RX11 "choices" 2 0 (fun q : Int32 × xH => q.2) (xRi cX11_choices) 0 [(0, .int a0), (1, .int a1)] [] h (f_X11_choices a0 a1 h) := by
  unfold f_X11_choices
  refine S_gets0 (pc := 0) wd_559 dX11_choices_0 ?_
  refine S_bipush (pc := 3) dX11_choices_3 bi_16 ?_
  refine S_iload_n (pc := 5) 0 rfl dX11_choices_5 rfl ?_
  refine S_imul (pc := 6) dX11_choices_6 ?_
  refine S_iload_n (pc := 7) 1 rfl dX11_choices_7 rfl ?_
  refine S_iadd (pc := 8) dX11_choices_8 ?_
  refine S_aI (pc := 9) dX11_choices_9 (fun v1 => ?_)
  exact Sim.fin ⟨dX11_choices_10, rfl, rfl⟩ rfl
theorem M_X11_choices (l : Launch) (a0 : Int32) (a1 : Int32) (h : xH) {q : Int32 × xH} (hq : f_X11_choices a0 a1 h = some q) : xM l yX11_choices cX11_choices 2 (some .int) 0 [.int a0, .int a1] h (some (.int q.1)) q.2 := xM_i (by decide +kernel) (Nat.le_of_ble_eq_true rfl) (fun K L => W_X11_choices K L a0 a1 h) hq
theorem dX11_offsetOf_0 : decode cX11_offsetOf 0 = .ok (.iconst 0, 1) := by decide +kernel
theorem dX11_offsetOf_1 : decode cX11_offsetOf 1 = .ok (.istore_n 1, 1) := by decide +kernel
theorem dX11_offsetOf_2 : decode cX11_offsetOf 2 = .ok (.iconst 0, 1) := by decide +kernel
theorem dX11_offsetOf_3 : decode cX11_offsetOf 3 = .ok (.istore_n 2, 1) := by decide +kernel
theorem dX11_offsetOf_4 : decode cX11_offsetOf 4 = .ok (.iconst 0, 1) := by decide +kernel
theorem dX11_offsetOf_5 : decode cX11_offsetOf 5 = .ok (.istore_n 3, 1) := by decide +kernel
theorem dX11_offsetOf_6 : decode cX11_offsetOf 6 = .ok (.iload_n 3, 1) := by decide +kernel
theorem dX11_offsetOf_7 : decode cX11_offsetOf 7 = .ok (.bipush 15, 2) := by decide +kernel
theorem dX11_offsetOf_9 : decode cX11_offsetOf 9 = .ok (.if_icmp .ge 29, 3) := by decide +kernel
theorem dX11_offsetOf_12 : decode cX11_offsetOf 12 = .ok (.iload_n 0, 1) := by decide +kernel
theorem dX11_offsetOf_13 : decode cX11_offsetOf 13 = .ok (.iload_n 3, 1) := by decide +kernel
theorem dX11_offsetOf_14 : decode cX11_offsetOf 14 = .ok (.ishr, 1) := by decide +kernel
theorem dX11_offsetOf_15 : decode cX11_offsetOf 15 = .ok (.iconst 1, 1) := by decide +kernel
theorem dX11_offsetOf_16 : decode cX11_offsetOf 16 = .ok (.iand, 1) := by decide +kernel
theorem dX11_offsetOf_17 : decode cX11_offsetOf 17 = .ok (.iconst 1, 1) := by decide +kernel
theorem dX11_offsetOf_18 : decode cX11_offsetOf 18 = .ok (.if_icmp .ne 14, 3) := by decide +kernel
theorem dX11_offsetOf_21 : decode cX11_offsetOf 21 = .ok (.iinc 2 1, 3) := by decide +kernel
theorem dX11_offsetOf_24 : decode cX11_offsetOf 24 = .ok (.iload_n 1, 1) := by decide +kernel
theorem dX11_offsetOf_25 : decode cX11_offsetOf 25 = .ok (.iload_n 3, 1) := by decide +kernel
theorem dX11_offsetOf_26 : decode cX11_offsetOf 26 = .ok (.iload_n 2, 1) := by decide +kernel
theorem dX11_offsetOf_27 : decode cX11_offsetOf 27 = .ok (.invokestatic 217, 3) := by decide +kernel
theorem dX11_offsetOf_30 : decode cX11_offsetOf 30 = .ok (.iadd, 1) := by decide +kernel
theorem dX11_offsetOf_31 : decode cX11_offsetOf 31 = .ok (.istore_n 1, 1) := by decide +kernel
theorem dX11_offsetOf_32 : decode cX11_offsetOf 32 = .ok (.iinc 3 1, 3) := by decide +kernel
theorem dX11_offsetOf_35 : decode cX11_offsetOf 35 = .ok (.goto (-29), 3) := by decide +kernel
theorem dX11_offsetOf_38 : decode cX11_offsetOf 38 = .ok (.iload_n 1, 1) := by decide +kernel
theorem dX11_offsetOf_39 : decode cX11_offsetOf 39 = .ok (.ireturn, 1) := by decide +kernel
set_option maxRecDepth 20000 in
set_option maxHeartbeats 4000000 in
theorem L_X11_offsetOf_6 (K : xK) (L : xL) : ∀ (n : Nat) (a0 : Int32) (a1 : Int32) (a2 : Int32) (a3 : Int32) (h : xH), Sim K L cX11_offsetOf RX11 "offsetOf" 4 1 (fun q : Int32 × Int32 × Int32 × xH => q.2.2.2) (fun q pc' ls' st' h' => pc' = 38 ∧ ls' = [(0, .int a0), (1, .int q.1), (2, .int q.2.1), (3, .int q.2.2.1)] ∧ st' = [] ∧ h' = q.2.2.2) 6 [(0, .int a0), (1, .int a1), (2, .int a2), (3, .int a3)] [] h (f_X11_offsetOf_L6 n a0 a1 a2 a3 h) := by
  intro n
  induction n with
  | zero =>
    intro a0 a1 a2 a3 h
    exact Sim.none
  | succ n ih =>
    intro a0 a1 a2 a3 h
    unfold f_X11_offsetOf_L6
    refine S_iload_n (pc := 6) 3 rfl dX11_offsetOf_6 rfl ?_
    refine S_bipush (pc := 7) dX11_offsetOf_7 bi_15 ?_
    refine S_icmp_ge (pc := 9) (tgt := 38) dX11_offsetOf_9 (by decide) ?_ ?_
    · refine S_sub [0, 1, 2, 3] rfl ?_
      exact Sim.fin ⟨rfl, rfl, rfl, rfl⟩ rfl
    · refine S_iload_n (pc := 12) 0 rfl dX11_offsetOf_12 rfl ?_
      refine S_iload_n (pc := 13) 3 rfl dX11_offsetOf_13 rfl ?_
      refine S_ishr (pc := 14) dX11_offsetOf_14 ?_
      refine S_iconst (pc := 15) dX11_offsetOf_15 ic_1 ?_
      refine S_iand (pc := 16) dX11_offsetOf_16 ?_
      refine S_iconst (pc := 17) dX11_offsetOf_17 ic_1 ?_
      refine S_icmp_ne (pc := 18) (tgt := 32) dX11_offsetOf_18 (by decide) ?_ ?_
      · refine S_iinc (pc := 21) (v := a2 + (1 : Int32)) 2 rfl dX11_offsetOf_21 (x_inc ic_1) (Nat.le_of_ble_eq_true rfl) rfl ?_
        refine S_iload_n (pc := 24) 2 rfl dX11_offsetOf_24 rfl ?_
        refine S_iload_n (pc := 25) 3 rfl dX11_offsetOf_25 rfl ?_
        refine S_iload_n (pc := 26) 0 rfl dX11_offsetOf_26 rfl ?_
        refine S_call_i (pc := 27) (rest := [.int a1]) (fun q hq => R_S (av := [.int a3, .int (a2 + (1 : Int32))]) (M_X11_choices _ a3 (a2 + (1 : Int32)) h hq) wd_558 wd_556 wd_557 wd_44 hd_X11_choices ⟨Nat.le_of_ble_eq_true rfl, Nat.le_of_ble_eq_true rfl⟩ rfl (Nat.le_of_ble_eq_true rfl) dX11_offsetOf_27) (fun _ h => List.mem_cons_of_mem _ (List.mem_cons_of_mem _ (h))) (fun q1 => ?_)
        refine S_iadd (pc := 30) dX11_offsetOf_30 ?_
        refine S_istore_n (pc := 31) dX11_offsetOf_31 rfl (Nat.le_of_ble_eq_true rfl) rfl ?_
        refine S_iinc (pc := 32) (v := a3 + (1 : Int32)) 3 rfl dX11_offsetOf_32 (x_inc ic_1) (Nat.le_of_ble_eq_true rfl) rfl ?_
        refine S_goto (pc := 35) (tgt := 6) dX11_offsetOf_35 (by decide) ?_
        refine S_sub [3, 1, 2, 0] rfl ?_
        exact ih a0 (a1 + q1.1) (a2 + (1 : Int32)) (a3 + (1 : Int32)) q1.2
      · refine S_iinc (pc := 32) (v := a3 + (1 : Int32)) 3 rfl dX11_offsetOf_32 (x_inc ic_1) (Nat.le_of_ble_eq_true rfl) rfl ?_
        refine S_goto (pc := 35) (tgt := 6) dX11_offsetOf_35 (by decide) ?_
        refine S_sub [1, 2, 3, 0] rfl ?_
        exact ih a0 a1 a2 (a3 + (1 : Int32)) h
set_option maxRecDepth 20000 in
set_option maxHeartbeats 4000000 in
theorem W_X11_offsetOf (K : xK) (L : xL) (a0 : Int32) (h : xH) : Sim K L cX11_offsetOf RX11 "offsetOf" 4 1 (fun q : Int32 × xH => q.2) (xRi cX11_offsetOf) 0 [(0, .int a0)] [] h (f_X11_offsetOf a0 h) := by
  unfold f_X11_offsetOf
  refine S_iconst (pc := 0) dX11_offsetOf_0 ic_0 ?_
  refine S_istore_n (pc := 1) dX11_offsetOf_1 rfl (Nat.le_of_ble_eq_true rfl) rfl ?_
  refine S_iconst (pc := 2) dX11_offsetOf_2 ic_0 ?_
  refine S_istore_n (pc := 3) dX11_offsetOf_3 rfl (Nat.le_of_ble_eq_true rfl) rfl ?_
  refine S_iconst (pc := 4) dX11_offsetOf_4 ic_0 ?_
  refine S_istore_n (pc := 5) dX11_offsetOf_5 rfl (Nat.le_of_ble_eq_true rfl) rfl ?_
  refine S_sub [3, 2, 1, 0] rfl ?_
  refine Sim.bind (hs := fun q2 : Int32 × Int32 × Int32 × xH => q2.2.2.2) (px := 38) (lsx := fun q2 => [(0, .int a0), (1, .int q2.1), (2, .int q2.2.1), (3, .int q2.2.2.1)]) (L_X11_offsetOf_6 K L xN a0 (0 : Int32) (0 : Int32) (0 : Int32) h) (fun q2 => ?_)
  refine S_iload_n (pc := 38) 1 rfl dX11_offsetOf_38 rfl ?_
  exact Sim.fin ⟨dX11_offsetOf_39, rfl, rfl⟩ rfl
theorem M_X11_offsetOf (l : Launch) (a0 : Int32) (h : xH) {q : Int32 × xH} (hq : f_X11_offsetOf a0 h = some q) : xM l yX11_offsetOf cX11_offsetOf 4 (some .int) 1 [.int a0] h (some (.int q.1)) q.2 := xM_i (by decide +kernel) (Nat.le_of_ble_eq_true rfl) (fun K L => W_X11_offsetOf K L a0 h) hq
theorem dX1_classOf_0 : decode cX1_classOf 0 = .ok (.aload_n 0, 1) := by decide +kernel
theorem dX1_classOf_1 : decode cX1_classOf 1 = .ok (.getfield 9, 3) := by decide +kernel
theorem dX1_classOf_4 : decode cX1_classOf 4 = .ok (.iload_n 1, 1) := by decide +kernel
theorem dX1_classOf_5 : decode cX1_classOf 5 = .ok (.iaload, 1) := by decide +kernel
theorem dX1_classOf_6 : decode cX1_classOf 6 = .ok (.invokestatic 59, 3) := by decide +kernel
theorem dX1_classOf_9 : decode cX1_classOf 9 = .ok (.ireturn, 1) := by decide +kernel
set_option maxRecDepth 20000 in
set_option maxHeartbeats 4000000 in
theorem W_X1_classOf (K : xK) (L : xL) (a0 : Nat) (a1 : Int32) (h : xH) : Sim K L cX1_classOf RX1 "classOf" 2 1 (fun q : Int32 × xH => q.2) (xRi cX1_classOf) 0 [(0, .ref a0), (1, .int a1)] [] h (f_X1_classOf a0 a1 h) := by
  unfold f_X1_classOf
  refine S_aload_n (pc := 0) 0 rfl dX1_classOf_0 rfl ?_
  refine S_getR (pc := 1) fd_X1_masks wd_78 dX1_classOf_1 (fun v1 => ?_)
  refine S_iload_n (pc := 4) 1 rfl dX1_classOf_4 rfl ?_
  refine S_aI (pc := 5) dX1_classOf_5 (fun v2 => ?_)
  refine S_call_i (pc := 6) (rest := []) (fun q hq => R_S (av := [.int v2]) (M_J6_bitCount_0f7a4 _ v2 h hq) wd_500 wd_498 wd_499 wd_60 hd_J6_bitCount_0f7a4 ⟨Nat.le_of_ble_eq_true rfl, Nat.le_of_ble_eq_true rfl⟩ rfl (Nat.le_of_ble_eq_true rfl) dX1_classOf_6) (fun _ h => absurd h List.not_mem_nil) (fun q3 => ?_)
  exact Sim.fin ⟨dX1_classOf_9, rfl, rfl⟩ rfl
theorem M_X1_classOf (l : Launch) (a0 : Nat) (a1 : Int32) (h : xH) {q : Int32 × xH} (hq : f_X1_classOf a0 a1 h = some q) : xM l yX1_classOf cX1_classOf 2 (some .int) 1 [.ref a0, .int a1] h (some (.int q.1)) q.2 := xM_i (by decide +kernel) (Nat.le_of_ble_eq_true rfl) (fun K L => W_X1_classOf K L a0 a1 h) hq
theorem dX1_beginOf_0 : decode cX1_beginOf 0 = .ok (.iconst 0, 1) := by decide +kernel
theorem dX1_beginOf_1 : decode cX1_beginOf 1 = .ok (.istore_n 2, 1) := by decide +kernel
theorem dX1_beginOf_2 : decode cX1_beginOf 2 = .ok (.iconst 0, 1) := by decide +kernel
theorem dX1_beginOf_3 : decode cX1_beginOf 3 = .ok (.istore_n 3, 1) := by decide +kernel
theorem dX1_beginOf_4 : decode cX1_beginOf 4 = .ok (.iload_n 3, 1) := by decide +kernel
theorem dX1_beginOf_5 : decode cX1_beginOf 5 = .ok (.iload_n 1, 1) := by decide +kernel
theorem dX1_beginOf_6 : decode cX1_beginOf 6 = .ok (.if_icmp .ge 21, 3) := by decide +kernel
theorem dX1_beginOf_9 : decode cX1_beginOf 9 = .ok (.iload_n 2, 1) := by decide +kernel
theorem dX1_beginOf_10 : decode cX1_beginOf 10 = .ok (.getstatic 71, 3) := by decide +kernel
theorem dX1_beginOf_13 : decode cX1_beginOf 13 = .ok (.aload_n 0, 1) := by decide +kernel
theorem dX1_beginOf_14 : decode cX1_beginOf 14 = .ok (.iload_n 3, 1) := by decide +kernel
theorem dX1_beginOf_15 : decode cX1_beginOf 15 = .ok (.invokevirtual 74, 3) := by decide +kernel
theorem dX1_beginOf_18 : decode cX1_beginOf 18 = .ok (.iaload, 1) := by decide +kernel
theorem dX1_beginOf_19 : decode cX1_beginOf 19 = .ok (.iadd, 1) := by decide +kernel
theorem dX1_beginOf_20 : decode cX1_beginOf 20 = .ok (.istore_n 2, 1) := by decide +kernel
theorem dX1_beginOf_21 : decode cX1_beginOf 21 = .ok (.iinc 3 1, 3) := by decide +kernel
theorem dX1_beginOf_24 : decode cX1_beginOf 24 = .ok (.goto (-20), 3) := by decide +kernel
theorem dX1_beginOf_27 : decode cX1_beginOf 27 = .ok (.iload_n 2, 1) := by decide +kernel
theorem dX1_beginOf_28 : decode cX1_beginOf 28 = .ok (.ireturn, 1) := by decide +kernel
set_option maxRecDepth 20000 in
set_option maxHeartbeats 4000000 in
theorem L_X1_beginOf_4 (K : xK) (L : xL) : ∀ (n : Nat) (a0 : Nat) (a1 : Int32) (a2 : Int32) (a3 : Int32) (h : xH), Sim K L cX1_beginOf RX1 "beginOf" 4 2 (fun q : Int32 × Int32 × xH => q.2.2) (fun q pc' ls' st' h' => pc' = 27 ∧ ls' = [(0, .ref a0), (1, .int a1), (2, .int q.1), (3, .int q.2.1)] ∧ st' = [] ∧ h' = q.2.2) 4 [(0, .ref a0), (1, .int a1), (2, .int a2), (3, .int a3)] [] h (f_X1_beginOf_L4 n a0 a1 a2 a3 h) := by
  intro n
  induction n with
  | zero =>
    intro a0 a1 a2 a3 h
    exact Sim.none
  | succ n ih =>
    intro a0 a1 a2 a3 h
    unfold f_X1_beginOf_L4
    refine S_iload_n (pc := 4) 3 rfl dX1_beginOf_4 rfl ?_
    refine S_iload_n (pc := 5) 1 rfl dX1_beginOf_5 rfl ?_
    refine S_icmp_ge (pc := 6) (tgt := 27) dX1_beginOf_6 (by decide) ?_ ?_
    · refine S_sub [0, 1, 2, 3] rfl ?_
      exact Sim.fin ⟨rfl, rfl, rfl, rfl⟩ rfl
    · refine S_iload_n (pc := 9) 2 rfl dX1_beginOf_9 rfl ?_
      refine S_getsN1 (pc := 10) dX1_beginOf_10 ?_
      refine S_aload_n (pc := 13) 0 rfl dX1_beginOf_13 rfl ?_
      refine S_iload_n (pc := 14) 3 rfl dX1_beginOf_14 rfl ?_
      refine S_call_i (pc := 15) (rest := [.ref 1, .int a2]) (fun q hq => (x_if hq).elim (fun z => R_V (av := [.int a3]) (q := (RX1, TX1, 2)) (M_X1_classOf _ a0 a3 h z.2) z.1 rfl wd_552 wd_568 wd_550 wd_45 wd_551 ⟨rfl, hd_X1_classOf⟩ ⟨Nat.le_of_ble_eq_true rfl, Nat.le_of_ble_eq_true rfl⟩ rfl (Nat.le_of_ble_eq_true rfl) dX1_beginOf_15) (fun hq => (by cases hq))) (fun _ h => List.mem_cons_of_mem _ (List.mem_cons_of_mem _ (h))) (fun q1 => ?_)
      refine S_aI (pc := 18) dX1_beginOf_18 (fun v2 => ?_)
      refine S_iadd (pc := 19) dX1_beginOf_19 ?_
      refine S_istore_n (pc := 20) dX1_beginOf_20 rfl (Nat.le_of_ble_eq_true rfl) rfl ?_
      refine S_iinc (pc := 21) (v := a3 + (1 : Int32)) 3 rfl dX1_beginOf_21 (x_inc ic_1) (Nat.le_of_ble_eq_true rfl) rfl ?_
      refine S_goto (pc := 24) (tgt := 4) dX1_beginOf_24 (by decide) ?_
      refine S_sub [2, 3, 1, 0] rfl ?_
      exact ih a0 a1 (a2 + v2) (a3 + (1 : Int32)) q1.2
set_option maxRecDepth 20000 in
set_option maxHeartbeats 4000000 in
theorem W_X1_beginOf (K : xK) (L : xL) (a0 : Nat) (a1 : Int32) (h : xH) : Sim K L cX1_beginOf RX1 "beginOf" 4 2 (fun q : Int32 × xH => q.2) (xRi cX1_beginOf) 0 [(0, .ref a0), (1, .int a1)] [] h (f_X1_beginOf a0 a1 h) := by
  unfold f_X1_beginOf
  refine S_iconst (pc := 0) dX1_beginOf_0 ic_0 ?_
  refine S_istore_n (pc := 1) dX1_beginOf_1 rfl (Nat.le_of_ble_eq_true rfl) rfl ?_
  refine S_iconst (pc := 2) dX1_beginOf_2 ic_0 ?_
  refine S_istore_n (pc := 3) dX1_beginOf_3 rfl (Nat.le_of_ble_eq_true rfl) rfl ?_
  refine S_sub [2, 3, 1, 0] rfl ?_
  refine Sim.bind (hs := fun q3 : Int32 × Int32 × xH => q3.2.2) (px := 27) (lsx := fun q3 => [(0, .ref a0), (1, .int a1), (2, .int q3.1), (3, .int q3.2.1)]) (L_X1_beginOf_4 K L xN a0 a1 (0 : Int32) (0 : Int32) h) (fun q3 => ?_)
  refine S_iload_n (pc := 27) 2 rfl dX1_beginOf_27 rfl ?_
  exact Sim.fin ⟨dX1_beginOf_28, rfl, rfl⟩ rfl
theorem M_X1_beginOf (l : Launch) (a0 : Nat) (a1 : Int32) (h : xH) {q : Int32 × xH} (hq : f_X1_beginOf a0 a1 h = some q) : xM l yX1_beginOf cX1_beginOf 4 (some .int) 2 [.ref a0, .int a1] h (some (.int q.1)) q.2 := xM_i (by decide +kernel) (Nat.le_of_ble_eq_true rfl) (fun K L => W_X1_beginOf K L a0 a1 h) hq
theorem dX1_blockCount_0 : decode cX1_blockCount 0 = .ok (.aload_n 0, 1) := by decide +kernel
theorem dX1_blockCount_1 : decode cX1_blockCount 1 = .ok (.getfield 15, 3) := by decide +kernel
theorem dX1_blockCount_4 : decode cX1_blockCount 4 = .ok (.bipush 15, 2) := by decide +kernel
theorem dX1_blockCount_6 : decode cX1_blockCount 6 = .ok (.iadd, 1) := by decide +kernel
theorem dX1_blockCount_7 : decode cX1_blockCount 7 = .ok (.iconst 1, 1) := by decide +kernel
theorem dX1_blockCount_8 : decode cX1_blockCount 8 = .ok (.isub, 1) := by decide +kernel
theorem dX1_blockCount_9 : decode cX1_blockCount 9 = .ok (.bipush 15, 2) := by decide +kernel
theorem dX1_blockCount_11 : decode cX1_blockCount 11 = .ok (.idiv, 1) := by decide +kernel
theorem dX1_blockCount_12 : decode cX1_blockCount 12 = .ok (.ireturn, 1) := by decide +kernel
set_option maxRecDepth 20000 in
set_option maxHeartbeats 4000000 in
theorem W_X1_blockCount (K : xK) (L : xL) (a0 : Nat) (h : xH) : Sim K L cX1_blockCount RX1 "blockCount" 1 0 (fun q : Int32 × xH => q.2) (xRi cX1_blockCount) 0 [(0, .ref a0)] [] h (f_X1_blockCount a0 h) := by
  unfold f_X1_blockCount
  refine S_aload_n (pc := 0) 0 rfl dX1_blockCount_0 rfl ?_
  refine S_getI (pc := 1) fd_X1_length wd_80 dX1_blockCount_1 (fun v1 => ?_)
  refine S_bipush (pc := 4) dX1_blockCount_4 bi_15 ?_
  refine S_iadd (pc := 6) dX1_blockCount_6 ?_
  refine S_iconst (pc := 7) dX1_blockCount_7 ic_1 ?_
  refine S_isub (pc := 8) dX1_blockCount_8 ?_
  refine S_bipush (pc := 9) dX1_blockCount_9 bi_15 ?_
  refine S_idiv (pc := 11) (by decide) dX1_blockCount_11 ?_
  exact Sim.fin ⟨dX1_blockCount_12, rfl, rfl⟩ rfl
theorem M_X1_blockCount (l : Launch) (a0 : Nat) (h : xH) {q : Int32 × xH} (hq : f_X1_blockCount a0 h = some q) : xM l yX1_blockCount cX1_blockCount 1 (some .int) 0 [.ref a0] h (some (.int q.1)) q.2 := xM_i (by decide +kernel) (Nat.le_of_ble_eq_true rfl) (fun K L => W_X1_blockCount K L a0 h) hq
theorem dX11_block_0 : decode cX11_block 0 = .ok (.iload_n 1, 1) := by decide +kernel
theorem dX11_block_1 : decode cX11_block 1 = .ok (.invokestatic 113, 3) := by decide +kernel
theorem dX11_block_4 : decode cX11_block 4 = .ok (.ifCond .eq 20, 3) := by decide +kernel
theorem dX11_block_7 : decode cX11_block 7 = .ok (.iload_n 2, 1) := by decide +kernel
theorem dX11_block_8 : decode cX11_block 8 = .ok (.ifCond .lt 16, 3) := by decide +kernel
theorem dX11_block_11 : decode cX11_block 11 = .ok (.iload_n 2, 1) := by decide +kernel
theorem dX11_block_12 : decode cX11_block 12 = .ok (.aload_n 0, 1) := by decide +kernel
theorem dX11_block_13 : decode cX11_block 13 = .ok (.getfield 17, 3) := by decide +kernel
theorem dX11_block_16 : decode cX11_block 16 = .ok (.iload_n 1, 1) := by decide +kernel
theorem dX11_block_17 : decode cX11_block 17 = .ok (.aaload, 1) := by decide +kernel
theorem dX11_block_18 : decode cX11_block 18 = .ok (.invokevirtual 184, 3) := by decide +kernel
theorem dX11_block_21 : decode cX11_block 21 = .ok (.if_icmp .lt 6, 3) := by decide +kernel
theorem dX11_block_24 : decode cX11_block 24 = .ok (.ldc 65, 2) := by decide +kernel
theorem dX11_block_26 : decode cX11_block 26 = .ok (.ireturn, 1) := by decide +kernel
theorem dX11_block_27 : decode cX11_block 27 = .ok (.aload_n 0, 1) := by decide +kernel
theorem dX11_block_28 : decode cX11_block 28 = .ok (.getfield 17, 3) := by decide +kernel
theorem dX11_block_31 : decode cX11_block 31 = .ok (.iload_n 1, 1) := by decide +kernel
theorem dX11_block_32 : decode cX11_block 32 = .ok (.aaload, 1) := by decide +kernel
theorem dX11_block_33 : decode cX11_block 33 = .ok (.astore 4, 2) := by decide +kernel
theorem dX11_block_35 : decode cX11_block 35 = .ok (.iload_n 3, 1) := by decide +kernel
theorem dX11_block_36 : decode cX11_block 36 = .ok (.tableswitch 80 0 4 #[36, 43, 54, 65, 73], 36) := by decide +kernel
theorem dX11_block_72 : decode cX11_block 72 = .ok (.aload 4, 2) := by decide +kernel
theorem dX11_block_74 : decode cX11_block 74 = .ok (.iload_n 2, 1) := by decide +kernel
theorem dX11_block_75 : decode cX11_block 75 = .ok (.invokevirtual 187, 3) := by decide +kernel
theorem dX11_block_78 : decode cX11_block 78 = .ok (.ireturn, 1) := by decide +kernel
theorem dX11_block_79 : decode cX11_block 79 = .ok (.aload 4, 2) := by decide +kernel
theorem dX11_block_81 : decode cX11_block 81 = .ok (.getfield 190, 3) := by decide +kernel
theorem dX11_block_84 : decode cX11_block 84 = .ok (.iload_n 2, 1) := by decide +kernel
theorem dX11_block_85 : decode cX11_block 85 = .ok (.iaload, 1) := by decide +kernel
theorem dX11_block_86 : decode cX11_block 86 = .ok (.invokestatic 193, 3) := by decide +kernel
theorem dX11_block_89 : decode cX11_block 89 = .ok (.ireturn, 1) := by decide +kernel
theorem dX11_block_90 : decode cX11_block 90 = .ok (.getstatic 196, 3) := by decide +kernel
theorem dX11_block_93 : decode cX11_block 93 = .ok (.aload 4, 2) := by decide +kernel
theorem dX11_block_95 : decode cX11_block 95 = .ok (.iload_n 2, 1) := by decide +kernel
theorem dX11_block_96 : decode cX11_block 96 = .ok (.invokevirtual 187, 3) := by decide +kernel
theorem dX11_block_99 : decode cX11_block 99 = .ok (.iaload, 1) := by decide +kernel
theorem dX11_block_100 : decode cX11_block 100 = .ok (.ireturn, 1) := by decide +kernel
theorem dX11_block_101 : decode cX11_block 101 = .ok (.aload 4, 2) := by decide +kernel
theorem dX11_block_103 : decode cX11_block 103 = .ok (.getfield 190, 3) := by decide +kernel
theorem dX11_block_106 : decode cX11_block 106 = .ok (.iload_n 2, 1) := by decide +kernel
theorem dX11_block_107 : decode cX11_block 107 = .ok (.iaload, 1) := by decide +kernel
theorem dX11_block_108 : decode cX11_block 108 = .ok (.ireturn, 1) := by decide +kernel
theorem dX11_block_109 : decode cX11_block 109 = .ok (.aload 4, 2) := by decide +kernel
theorem dX11_block_111 : decode cX11_block 111 = .ok (.iload_n 2, 1) := by decide +kernel
theorem dX11_block_112 : decode cX11_block 112 = .ok (.invokevirtual 199, 3) := by decide +kernel
theorem dX11_block_115 : decode cX11_block 115 = .ok (.ireturn, 1) := by decide +kernel
theorem dX11_block_116 : decode cX11_block 116 = .ok (.ldc 65, 2) := by decide +kernel
theorem dX11_block_118 : decode cX11_block 118 = .ok (.ireturn, 1) := by decide +kernel
set_option maxRecDepth 20000 in
set_option maxHeartbeats 4000000 in
theorem W_X11_block (K : xK) (L : xL) (a0 : Nat) (a1 : Int32) (a2 : Int32) (a3 : Int32) (h : xH) : Sim K L cX11_block RX11 "block" 5 3 (fun q : Int32 × xH => q.2) (xRi cX11_block) 0 [(0, .ref a0), (1, .int a1), (2, .int a2), (3, .int a3)] [] h (f_X11_block a0 a1 a2 a3 h) := by
  unfold f_X11_block
  refine S_iload_n (pc := 0) 1 rfl dX11_block_0 rfl ?_
  refine S_call_i (pc := 1) (rest := []) (fun q hq => R_S (av := [.int a1]) (M_X11_isVector _ a1 h hq) wd_293 wd_291 wd_292 wd_44 hd_X11_isVector ⟨Nat.le_of_ble_eq_true rfl, Nat.le_of_ble_eq_true rfl⟩ rfl (Nat.le_of_ble_eq_true rfl) dX11_block_1) (fun _ h => absurd h List.not_mem_nil) (fun q1 => ?_)
  refine S_if_eq (pc := 4) (tgt := 24) dX11_block_4 (by decide) ?_ ?_
  · refine S_ldc (pc := 24) wd_233 dX11_block_24 ?_
    exact Sim.fin ⟨dX11_block_26, rfl, rfl⟩ rfl
  · refine S_iload_n (pc := 7) 2 rfl dX11_block_7 rfl ?_
    refine S_if_lt (pc := 8) (tgt := 24) dX11_block_8 (by decide) ?_ ?_
    · refine S_ldc (pc := 24) wd_233 dX11_block_24 ?_
      exact Sim.fin ⟨dX11_block_26, rfl, rfl⟩ rfl
    · refine S_iload_n (pc := 11) 2 rfl dX11_block_11 rfl ?_
      refine S_aload_n (pc := 12) 0 rfl dX11_block_12 rfl ?_
      refine S_getR (pc := 13) fd_X11_vectors wd_190 dX11_block_13 (fun v2 => ?_)
      refine S_iload_n (pc := 16) 1 rfl dX11_block_16 rfl ?_
      refine S_aR (pc := 17) (fun _ => rfl) dX11_block_17 (fun v3 => ?_)
      refine S_call_i (pc := 18) (rest := [.int a2]) (fun q hq => (x_if hq).elim (fun z => R_V (av := []) (q := (RX1, TX1, 2)) (M_X1_blockCount _ v3 q1.2 z.2) z.1 rfl wd_548 wd_545 wd_546 wd_45 wd_547 ⟨rfl, hd_X1_blockCount⟩ ⟨Nat.le_of_ble_eq_true rfl, Nat.le_of_ble_eq_true rfl⟩ rfl (Nat.le_of_ble_eq_true rfl) dX11_block_18) (fun hq => (by cases hq))) (fun _ h => List.mem_cons_of_mem _ (h)) (fun q4 => ?_)
      refine S_icmp_lt (pc := 21) (tgt := 27) dX11_block_21 (by decide) ?_ ?_
      · refine S_aload_n (pc := 27) 0 rfl dX11_block_27 rfl ?_
        refine S_getR (pc := 28) fd_X11_vectors wd_190 dX11_block_28 (fun v5 => ?_)
        refine S_iload_n (pc := 31) 1 rfl dX11_block_31 rfl ?_
        refine S_aR (pc := 32) (fun _ => rfl) dX11_block_32 (fun v6 => ?_)
        refine S_astore (pc := 33) dX11_block_33 (Nat.le_of_ble_eq_true rfl) rfl ?_
        refine S_iload_n (pc := 35) 4 rfl dX11_block_35 rfl ?_
        refine S_tabIn (pc := 36) (v := 0) (tgt := 72) dX11_block_36 (by decide) (by decide) rfl (by decide) ?_ (fun hs8 => ?_)
        · refine S_aload (pc := 72) 0 rfl dX11_block_72 ?_
          refine S_iload_n (pc := 74) 3 rfl dX11_block_74 rfl ?_
          refine S_call_i (pc := 75) (rest := []) (fun q hq => (x_if hq).elim (fun z => R_V (av := [.int a2]) (q := (RX1, TX1, 2)) (M_X1_classOf _ v6 a2 q4.2 z.2) z.1 rfl wd_552 wd_549 wd_550 wd_45 wd_551 ⟨rfl, hd_X1_classOf⟩ ⟨Nat.le_of_ble_eq_true rfl, Nat.le_of_ble_eq_true rfl⟩ rfl (Nat.le_of_ble_eq_true rfl) dX11_block_75) (fun hq => (by cases hq))) (fun _ h => absurd h List.not_mem_nil) (fun q7 => ?_)
          exact Sim.fin ⟨dX11_block_78, rfl, rfl⟩ rfl
        refine S_tabIn (pc := 36) (v := 1) (tgt := 79) dX11_block_36 (by decide) (by decide) rfl (by decide) ?_ (fun hs12 => ?_)
        · refine S_aload (pc := 79) 0 rfl dX11_block_79 ?_
          refine S_getR (pc := 81) fd_X1_masks wd_79 dX11_block_81 (fun v9 => ?_)
          refine S_iload_n (pc := 84) 3 rfl dX11_block_84 rfl ?_
          refine S_aI (pc := 85) dX11_block_85 (fun v10 => ?_)
          refine S_call_i (pc := 86) (rest := []) (fun q hq => R_S (av := [.int v10]) (M_X11_offsetOf _ v10 q4.2 hq) wd_555 wd_553 wd_554 wd_44 hd_X11_offsetOf ⟨Nat.le_of_ble_eq_true rfl, Nat.le_of_ble_eq_true rfl⟩ rfl (Nat.le_of_ble_eq_true rfl) dX11_block_86) (fun _ h => absurd h List.not_mem_nil) (fun q11 => ?_)
          exact Sim.fin ⟨dX11_block_89, rfl, rfl⟩ rfl
        refine S_tabIn (pc := 36) (v := 2) (tgt := 90) dX11_block_36 (by decide) (by decide) rfl (by decide) ?_ (fun hs15 => ?_)
        · refine S_gets1 (pc := 90) wd_561 dX11_block_90 ?_
          refine S_aload (pc := 93) 0 rfl dX11_block_93 ?_
          refine S_iload_n (pc := 95) 3 rfl dX11_block_95 rfl ?_
          refine S_call_i (pc := 96) (rest := [.ref 1]) (fun q hq => (x_if hq).elim (fun z => R_V (av := [.int a2]) (q := (RX1, TX1, 2)) (M_X1_classOf _ v6 a2 q4.2 z.2) z.1 rfl wd_552 wd_549 wd_550 wd_45 wd_551 ⟨rfl, hd_X1_classOf⟩ ⟨Nat.le_of_ble_eq_true rfl, Nat.le_of_ble_eq_true rfl⟩ rfl (Nat.le_of_ble_eq_true rfl) dX11_block_96) (fun hq => (by cases hq))) (fun _ h => List.mem_cons_of_mem _ (List.mem_cons_of_mem _ (h))) (fun q13 => ?_)
          refine S_aI (pc := 99) dX11_block_99 (fun v14 => ?_)
          exact Sim.fin ⟨dX11_block_100, rfl, rfl⟩ rfl
        refine S_tabIn (pc := 36) (v := 3) (tgt := 101) dX11_block_36 (by decide) (by decide) rfl (by decide) ?_ (fun hs18 => ?_)
        · refine S_aload (pc := 101) 0 rfl dX11_block_101 ?_
          refine S_getR (pc := 103) fd_X1_masks wd_79 dX11_block_103 (fun v16 => ?_)
          refine S_iload_n (pc := 106) 3 rfl dX11_block_106 rfl ?_
          refine S_aI (pc := 107) dX11_block_107 (fun v17 => ?_)
          exact Sim.fin ⟨dX11_block_108, rfl, rfl⟩ rfl
        refine S_tabIn (pc := 36) (v := 4) (tgt := 109) dX11_block_36 (by decide) (by decide) rfl (by decide) ?_ (fun hs20 => ?_)
        · refine S_aload (pc := 109) 0 rfl dX11_block_109 ?_
          refine S_iload_n (pc := 111) 3 rfl dX11_block_111 rfl ?_
          refine S_call_i (pc := 112) (rest := []) (fun q hq => (x_if hq).elim (fun z => R_V (av := [.int a2]) (q := (RX1, TX1, 2)) (M_X1_beginOf _ v6 a2 q4.2 z.2) z.1 rfl wd_566 wd_563 wd_564 wd_45 wd_565 ⟨rfl, hd_X1_beginOf⟩ ⟨Nat.le_of_ble_eq_true rfl, Nat.le_of_ble_eq_true rfl⟩ rfl (Nat.le_of_ble_eq_true rfl) dX11_block_112) (fun hq => (by cases hq))) (fun _ h => absurd h List.not_mem_nil) (fun q19 => ?_)
          exact Sim.fin ⟨dX11_block_115, rfl, rfl⟩ rfl
        refine S_tabOut (pc := 36) (tgt := 116) dX11_block_36 (by have := lv_neT hs8 (show (0 : Int32).toInt = 0 from by decide); have := lv_neT hs12 (show (1 : Int32).toInt = 1 from by decide); have := lv_neT hs15 (show (2 : Int32).toInt = 2 from by decide); have := lv_neT hs18 (show (3 : Int32).toInt = 3 from by decide); have := lv_neT hs20 (show (4 : Int32).toInt = 4 from by decide); omega) (by decide) ?_
        refine S_ldc (pc := 116) wd_233 dX11_block_116 ?_
        exact Sim.fin ⟨dX11_block_118, rfl, rfl⟩ rfl
      · refine S_ldc (pc := 24) wd_233 dX11_block_24 ?_
        exact Sim.fin ⟨dX11_block_26, rfl, rfl⟩ rfl
theorem M_X11_block (l : Launch) (a0 : Nat) (a1 : Int32) (a2 : Int32) (a3 : Int32) (h : xH) {q : Int32 × xH} (hq : f_X11_block a0 a1 a2 a3 h = some q) : xM l yX11_block cX11_block 5 (some .int) 3 [.ref a0, .int a1, .int a2, .int a3] h (some (.int q.1)) q.2 := xM_i (by decide +kernel) (Nat.le_of_ble_eq_true rfl) (fun K L => W_X11_block K L a0 a1 a2 a3 h) hq
theorem dX11_choose_0 : decode cX11_choose 0 = .ok (.iload_n 1, 1) := by decide +kernel
theorem dX11_choose_1 : decode cX11_choose 1 = .ok (.ifCond .lt 19, 3) := by decide +kernel
theorem dX11_choose_4 : decode cX11_choose 4 = .ok (.iload_n 1, 1) := by decide +kernel
theorem dX11_choose_5 : decode cX11_choose 5 = .ok (.bipush 15, 2) := by decide +kernel
theorem dX11_choose_7 : decode cX11_choose 7 = .ok (.if_icmp .gt 13, 3) := by decide +kernel
theorem dX11_choose_10 : decode cX11_choose 10 = .ok (.iload_n 2, 1) := by decide +kernel
theorem dX11_choose_11 : decode cX11_choose 11 = .ok (.ifCond .lt 9, 3) := by decide +kernel
theorem dX11_choose_14 : decode cX11_choose 14 = .ok (.iload_n 2, 1) := by decide +kernel
theorem dX11_choose_15 : decode cX11_choose 15 = .ok (.bipush 15, 2) := by decide +kernel
theorem dX11_choose_17 : decode cX11_choose 17 = .ok (.if_icmp .le 6, 3) := by decide +kernel
theorem dX11_choose_20 : decode cX11_choose 20 = .ok (.ldc 65, 2) := by decide +kernel
theorem dX11_choose_22 : decode cX11_choose 22 = .ok (.ireturn, 1) := by decide +kernel
theorem dX11_choose_23 : decode cX11_choose 23 = .ok (.iload_n 1, 1) := by decide +kernel
theorem dX11_choose_24 : decode cX11_choose 24 = .ok (.iload_n 2, 1) := by decide +kernel
theorem dX11_choose_25 : decode cX11_choose 25 = .ok (.invokestatic 217, 3) := by decide +kernel
theorem dX11_choose_28 : decode cX11_choose 28 = .ok (.ireturn, 1) := by decide +kernel
set_option maxRecDepth 20000 in
set_option maxHeartbeats 4000000 in
theorem W_X11_choose (K : xK) (L : xL) (a0 : Nat) (a1 : Int32) (a2 : Int32) (h : xH) : Sim K L cX11_choose RX11 "choose" 3 1 (fun q : Int32 × xH => q.2) (xRi cX11_choose) 0 [(0, .ref a0), (1, .int a1), (2, .int a2)] [] h (f_X11_choose a0 a1 a2 h) := by
  unfold f_X11_choose
  refine S_iload_n (pc := 0) 1 rfl dX11_choose_0 rfl ?_
  refine S_if_lt (pc := 1) (tgt := 20) dX11_choose_1 (by decide) ?_ ?_
  · refine S_ldc (pc := 20) wd_233 dX11_choose_20 ?_
    exact Sim.fin ⟨dX11_choose_22, rfl, rfl⟩ rfl
  · refine S_iload_n (pc := 4) 1 rfl dX11_choose_4 rfl ?_
    refine S_bipush (pc := 5) dX11_choose_5 bi_15 ?_
    refine S_icmp_gt (pc := 7) (tgt := 20) dX11_choose_7 (by decide) ?_ ?_
    · refine S_ldc (pc := 20) wd_233 dX11_choose_20 ?_
      exact Sim.fin ⟨dX11_choose_22, rfl, rfl⟩ rfl
    · refine S_iload_n (pc := 10) 2 rfl dX11_choose_10 rfl ?_
      refine S_if_lt (pc := 11) (tgt := 20) dX11_choose_11 (by decide) ?_ ?_
      · refine S_ldc (pc := 20) wd_233 dX11_choose_20 ?_
        exact Sim.fin ⟨dX11_choose_22, rfl, rfl⟩ rfl
      · refine S_iload_n (pc := 14) 2 rfl dX11_choose_14 rfl ?_
        refine S_bipush (pc := 15) dX11_choose_15 bi_15 ?_
        refine S_icmp_le (pc := 17) (tgt := 23) dX11_choose_17 (by decide) ?_ ?_
        · refine S_iload_n (pc := 23) 1 rfl dX11_choose_23 rfl ?_
          refine S_iload_n (pc := 24) 2 rfl dX11_choose_24 rfl ?_
          refine S_call_i (pc := 25) (rest := []) (fun q hq => R_S (av := [.int a1, .int a2]) (M_X11_choices _ a1 a2 h hq) wd_558 wd_556 wd_557 wd_44 hd_X11_choices ⟨Nat.le_of_ble_eq_true rfl, Nat.le_of_ble_eq_true rfl⟩ rfl (Nat.le_of_ble_eq_true rfl) dX11_choose_25) (fun _ h => absurd h List.not_mem_nil) (fun q1 => ?_)
          exact Sim.fin ⟨dX11_choose_28, rfl, rfl⟩ rfl
        · refine S_ldc (pc := 20) wd_233 dX11_choose_20 ?_
          exact Sim.fin ⟨dX11_choose_22, rfl, rfl⟩ rfl
theorem M_X11_choose (l : Launch) (a0 : Nat) (a1 : Int32) (a2 : Int32) (h : xH) {q : Int32 × xH} (hq : f_X11_choose a0 a1 a2 h = some q) : xM l yX11_choose cX11_choose 3 (some .int) 1 [.ref a0, .int a1, .int a2] h (some (.int q.1)) q.2 := xM_i (by decide +kernel) (Nat.le_of_ble_eq_true rfl) (fun K L => W_X11_choose K L a0 a1 a2 h) hq
theorem dX11_isRow_0 : decode cX11_isRow 0 = .ok (.iload_n 0, 1) := by decide +kernel
theorem dX11_isRow_1 : decode cX11_isRow 1 = .ok (.ifCond .lt 13, 3) := by decide +kernel
theorem dX11_isRow_4 : decode cX11_isRow 4 = .ok (.iload_n 0, 1) := by decide +kernel
theorem dX11_isRow_5 : decode cX11_isRow 5 = .ok (.bipush 8, 2) := by decide +kernel
theorem dX11_isRow_7 : decode cX11_isRow 7 = .ok (.if_icmp .ge 7, 3) := by decide +kernel
theorem dX11_isRow_10 : decode cX11_isRow 10 = .ok (.iconst 1, 1) := by decide +kernel
theorem dX11_isRow_11 : decode cX11_isRow 11 = .ok (.goto 4, 3) := by decide +kernel
theorem dX11_isRow_14 : decode cX11_isRow 14 = .ok (.iconst 0, 1) := by decide +kernel
theorem dX11_isRow_15 : decode cX11_isRow 15 = .ok (.ireturn, 1) := by decide +kernel
set_option maxRecDepth 20000 in
set_option maxHeartbeats 4000000 in
theorem W_X11_isRow (K : xK) (L : xL) (a0 : Int32) (h : xH) : Sim K L cX11_isRow RX11 "isRow" 1 0 (fun q : Int32 × xH => q.2) (xRz cX11_isRow) 0 [(0, .int a0)] [] h (f_X11_isRow a0 h) := by
  unfold f_X11_isRow
  refine S_iload_n (pc := 0) 0 rfl dX11_isRow_0 rfl ?_
  refine S_if_lt (pc := 1) (tgt := 14) dX11_isRow_1 (by decide) ?_ ?_
  · refine S_iconst (pc := 14) dX11_isRow_14 ic_0 ?_
    exact Sim.fin ⟨dX11_isRow_15, rfl, rfl, x_nar (Or.inl rfl)⟩ rfl
  · refine S_iload_n (pc := 4) 0 rfl dX11_isRow_4 rfl ?_
    refine S_bipush (pc := 5) dX11_isRow_5 bi_8 ?_
    refine S_icmp_ge (pc := 7) (tgt := 14) dX11_isRow_7 (by decide) ?_ ?_
    · refine S_iconst (pc := 14) dX11_isRow_14 ic_0 ?_
      exact Sim.fin ⟨dX11_isRow_15, rfl, rfl, x_nar (Or.inl rfl)⟩ rfl
    · refine S_iconst (pc := 10) dX11_isRow_10 ic_1 ?_
      refine S_goto (pc := 11) (tgt := 15) dX11_isRow_11 (by decide) ?_
      exact Sim.fin ⟨dX11_isRow_15, rfl, rfl, x_nar (Or.inr rfl)⟩ rfl
theorem M_X11_isRow (l : Launch) (a0 : Int32) (h : xH) {q : Int32 × xH} (hq : f_X11_isRow a0 h = some q) : xM l yX11_isRow cX11_isRow 1 (some .boolean) 0 [.int a0] h (some (.int q.1)) q.2 := xM_z (by decide +kernel) (Nat.le_of_ble_eq_true rfl) (fun K L => W_X11_isRow K L a0 h) hq
theorem dX5_hasPart_0 : decode cX5_hasPart 0 = .ok (.iload_n 1, 1) := by decide +kernel
theorem dX5_hasPart_1 : decode cX5_hasPart 1 = .ok (.ifCond .lt 21, 3) := by decide +kernel
theorem dX5_hasPart_4 : decode cX5_hasPart 4 = .ok (.iload_n 2, 1) := by decide +kernel
theorem dX5_hasPart_5 : decode cX5_hasPart 5 = .ok (.ifCond .lt 17, 3) := by decide +kernel
theorem dX5_hasPart_8 : decode cX5_hasPart 8 = .ok (.iload_n 1, 1) := by decide +kernel
theorem dX5_hasPart_9 : decode cX5_hasPart 9 = .ok (.aload_n 0, 1) := by decide +kernel
theorem dX5_hasPart_10 : decode cX5_hasPart 10 = .ok (.getfield 23, 3) := by decide +kernel
theorem dX5_hasPart_13 : decode cX5_hasPart 13 = .ok (.iload_n 2, 1) := by decide +kernel
theorem dX5_hasPart_14 : decode cX5_hasPart 14 = .ok (.isub, 1) := by decide +kernel
theorem dX5_hasPart_15 : decode cX5_hasPart 15 = .ok (.if_icmp .gt 7, 3) := by decide +kernel
theorem dX5_hasPart_18 : decode cX5_hasPart 18 = .ok (.iconst 1, 1) := by decide +kernel
theorem dX5_hasPart_19 : decode cX5_hasPart 19 = .ok (.goto 4, 3) := by decide +kernel
theorem dX5_hasPart_22 : decode cX5_hasPart 22 = .ok (.iconst 0, 1) := by decide +kernel
theorem dX5_hasPart_23 : decode cX5_hasPart 23 = .ok (.ireturn, 1) := by decide +kernel
set_option maxRecDepth 20000 in
set_option maxHeartbeats 4000000 in
theorem W_X5_hasPart (K : xK) (L : xL) (a0 : Nat) (a1 : Int32) (a2 : Int32) (h : xH) : Sim K L cX5_hasPart RX5 "hasPart" 3 0 (fun q : Int32 × xH => q.2) (xRz cX5_hasPart) 0 [(0, .ref a0), (1, .int a1), (2, .int a2)] [] h (f_X5_hasPart a0 a1 a2 h) := by
  unfold f_X5_hasPart
  refine S_iload_n (pc := 0) 1 rfl dX5_hasPart_0 rfl ?_
  refine S_if_lt (pc := 1) (tgt := 22) dX5_hasPart_1 (by decide) ?_ ?_
  · refine S_iconst (pc := 22) dX5_hasPart_22 ic_0 ?_
    exact Sim.fin ⟨dX5_hasPart_23, rfl, rfl, x_nar (Or.inl rfl)⟩ rfl
  · refine S_iload_n (pc := 4) 2 rfl dX5_hasPart_4 rfl ?_
    refine S_if_lt (pc := 5) (tgt := 22) dX5_hasPart_5 (by decide) ?_ ?_
    · refine S_iconst (pc := 22) dX5_hasPart_22 ic_0 ?_
      exact Sim.fin ⟨dX5_hasPart_23, rfl, rfl, x_nar (Or.inl rfl)⟩ rfl
    · refine S_iload_n (pc := 8) 1 rfl dX5_hasPart_8 rfl ?_
      refine S_aload_n (pc := 9) 0 rfl dX5_hasPart_9 rfl ?_
      refine S_getI (pc := 10) fd_X5_length wd_178 dX5_hasPart_10 (fun v1 => ?_)
      refine S_iload_n (pc := 13) 2 rfl dX5_hasPart_13 rfl ?_
      refine S_isub (pc := 14) dX5_hasPart_14 ?_
      refine S_icmp_gt (pc := 15) (tgt := 22) dX5_hasPart_15 (by decide) ?_ ?_
      · refine S_iconst (pc := 22) dX5_hasPart_22 ic_0 ?_
        exact Sim.fin ⟨dX5_hasPart_23, rfl, rfl, x_nar (Or.inl rfl)⟩ rfl
      · refine S_iconst (pc := 18) dX5_hasPart_18 ic_1 ?_
        refine S_goto (pc := 19) (tgt := 23) dX5_hasPart_19 (by decide) ?_
        exact Sim.fin ⟨dX5_hasPart_23, rfl, rfl, x_nar (Or.inr rfl)⟩ rfl
theorem M_X5_hasPart (l : Launch) (a0 : Nat) (a1 : Int32) (a2 : Int32) (h : xH) {q : Int32 × xH} (hq : f_X5_hasPart a0 a1 a2 h = some q) : xM l yX5_hasPart cX5_hasPart 3 (some .boolean) 0 [.ref a0, .int a1, .int a2] h (some (.int q.1)) q.2 := xM_z (by decide +kernel) (Nat.le_of_ble_eq_true rfl) (fun K L => W_X5_hasPart K L a0 a1 a2 h) hq
theorem dX11_copy_0 : decode cX11_copy 0 = .ok (.iload_n 1, 1) := by decide +kernel
theorem dX11_copy_1 : decode cX11_copy 1 = .ok (.invokestatic 61, 3) := by decide +kernel
theorem dX11_copy_4 : decode cX11_copy 4 = .ok (.ifCond .eq 10, 3) := by decide +kernel
theorem dX11_copy_7 : decode cX11_copy 7 = .ok (.iload_n 3, 1) := by decide +kernel
theorem dX11_copy_8 : decode cX11_copy 8 = .ok (.invokestatic 61, 3) := by decide +kernel
theorem dX11_copy_11 : decode cX11_copy 11 = .ok (.ifCond .ne 6, 3) := by decide +kernel
theorem dX11_copy_14 : decode cX11_copy 14 = .ok (.ldc 65, 2) := by decide +kernel
theorem dX11_copy_16 : decode cX11_copy 16 = .ok (.ireturn, 1) := by decide +kernel
theorem dX11_copy_17 : decode cX11_copy 17 = .ok (.aload_n 0, 1) := by decide +kernel
theorem dX11_copy_18 : decode cX11_copy 18 = .ok (.getfield 11, 3) := by decide +kernel
theorem dX11_copy_21 : decode cX11_copy 21 = .ok (.iload_n 1, 1) := by decide +kernel
theorem dX11_copy_22 : decode cX11_copy 22 = .ok (.aaload, 1) := by decide +kernel
theorem dX11_copy_23 : decode cX11_copy 23 = .ok (.astore 6, 2) := by decide +kernel
theorem dX11_copy_25 : decode cX11_copy 25 = .ok (.aload_n 0, 1) := by decide +kernel
theorem dX11_copy_26 : decode cX11_copy 26 = .ok (.getfield 11, 3) := by decide +kernel
theorem dX11_copy_29 : decode cX11_copy 29 = .ok (.iload_n 3, 1) := by decide +kernel
theorem dX11_copy_30 : decode cX11_copy 30 = .ok (.aaload, 1) := by decide +kernel
theorem dX11_copy_31 : decode cX11_copy 31 = .ok (.astore 7, 2) := by decide +kernel
theorem dX11_copy_33 : decode cX11_copy 33 = .ok (.aload 6, 2) := by decide +kernel
theorem dX11_copy_35 : decode cX11_copy 35 = .ok (.getfield 77, 3) := by decide +kernel
theorem dX11_copy_38 : decode cX11_copy 38 = .ok (.ifCond .ne 11, 3) := by decide +kernel
theorem dX11_copy_41 : decode cX11_copy 41 = .ok (.aload 7, 2) := by decide +kernel
theorem dX11_copy_43 : decode cX11_copy 43 = .ok (.getfield 77, 3) := by decide +kernel
theorem dX11_copy_46 : decode cX11_copy 46 = .ok (.ifCond .eq 9, 3) := by decide +kernel
theorem dX11_copy_49 : decode cX11_copy 49 = .ok (.aload_n 0, 1) := by decide +kernel
theorem dX11_copy_50 : decode cX11_copy 50 = .ok (.iconst 1, 1) := by decide +kernel
theorem dX11_copy_51 : decode cX11_copy 51 = .ok (.invokevirtual 66, 3) := by decide +kernel
theorem dX11_copy_54 : decode cX11_copy 54 = .ok (.ireturn, 1) := by decide +kernel
theorem dX11_copy_55 : decode cX11_copy 55 = .ok (.aload 6, 2) := by decide +kernel
theorem dX11_copy_57 : decode cX11_copy 57 = .ok (.getfield 92, 3) := by decide +kernel
theorem dX11_copy_60 : decode cX11_copy 60 = .ok (.aload 7, 2) := by decide +kernel
theorem dX11_copy_62 : decode cX11_copy 62 = .ok (.getfield 92, 3) := by decide +kernel
theorem dX11_copy_65 : decode cX11_copy 65 = .ok (.if_icmp .eq 9, 3) := by decide +kernel
theorem dX11_copy_68 : decode cX11_copy 68 = .ok (.aload_n 0, 1) := by decide +kernel
theorem dX11_copy_69 : decode cX11_copy 69 = .ok (.iconst 5, 1) := by decide +kernel
theorem dX11_copy_70 : decode cX11_copy 70 = .ok (.invokevirtual 66, 3) := by decide +kernel
theorem dX11_copy_73 : decode cX11_copy 73 = .ok (.ireturn, 1) := by decide +kernel
theorem dX11_copy_74 : decode cX11_copy 74 = .ok (.aload 6, 2) := by decide +kernel
theorem dX11_copy_76 : decode cX11_copy 76 = .ok (.iload_n 2, 1) := by decide +kernel
theorem dX11_copy_77 : decode cX11_copy 77 = .ok (.iload 5, 2) := by decide +kernel
theorem dX11_copy_79 : decode cX11_copy 79 = .ok (.invokevirtual 95, 3) := by decide +kernel
theorem dX11_copy_82 : decode cX11_copy 82 = .ok (.ifCond .eq 15, 3) := by decide +kernel
theorem dX11_copy_85 : decode cX11_copy 85 = .ok (.aload 7, 2) := by decide +kernel
theorem dX11_copy_87 : decode cX11_copy 87 = .ok (.iload 4, 2) := by decide +kernel
theorem dX11_copy_89 : decode cX11_copy 89 = .ok (.iload 5, 2) := by decide +kernel
theorem dX11_copy_91 : decode cX11_copy 91 = .ok (.invokevirtual 95, 3) := by decide +kernel
theorem dX11_copy_94 : decode cX11_copy 94 = .ok (.ifCond .ne 9, 3) := by decide +kernel
theorem dX11_copy_97 : decode cX11_copy 97 = .ok (.aload_n 0, 1) := by decide +kernel
theorem dX11_copy_98 : decode cX11_copy 98 = .ok (.iconst 2, 1) := by decide +kernel
theorem dX11_copy_99 : decode cX11_copy 99 = .ok (.invokevirtual 66, 3) := by decide +kernel
theorem dX11_copy_102 : decode cX11_copy 102 = .ok (.ireturn, 1) := by decide +kernel
theorem dX11_copy_103 : decode cX11_copy 103 = .ok (.aload 6, 2) := by decide +kernel
theorem dX11_copy_105 : decode cX11_copy 105 = .ok (.getfield 88, 3) := by decide +kernel
theorem dX11_copy_108 : decode cX11_copy 108 = .ok (.iload_n 2, 1) := by decide +kernel
theorem dX11_copy_109 : decode cX11_copy 109 = .ok (.aload 7, 2) := by decide +kernel
theorem dX11_copy_111 : decode cX11_copy 111 = .ok (.getfield 88, 3) := by decide +kernel
theorem dX11_copy_114 : decode cX11_copy 114 = .ok (.iload 4, 2) := by decide +kernel
theorem dX11_copy_116 : decode cX11_copy 116 = .ok (.iload 5, 2) := by decide +kernel
theorem dX11_copy_118 : decode cX11_copy 118 = .ok (.invokestatic 99, 3) := by decide +kernel
theorem dX11_copy_121 : decode cX11_copy 121 = .ok (.aload_n 0, 1) := by decide +kernel
theorem dX11_copy_122 : decode cX11_copy 122 = .ok (.iload 5, 2) := by decide +kernel
theorem dX11_copy_124 : decode cX11_copy 124 = .ok (.invokevirtual 74, 3) := by decide +kernel
theorem dX11_copy_127 : decode cX11_copy 127 = .ok (.ireturn, 1) := by decide +kernel
set_option maxRecDepth 20000 in
set_option maxHeartbeats 4000000 in
theorem W_X11_copy (K : xK) (L : xL) (a0 : Nat) (a1 : Int32) (a2 : Int32) (a3 : Int32) (a4 : Int32) (a5 : Int32) (h : xH) : Sim K L cX11_copy RX11 "copy" 8 1 (fun q : Int32 × xH => q.2) (xRi cX11_copy) 0 [(0, .ref a0), (1, .int a1), (2, .int a2), (3, .int a3), (4, .int a4), (5, .int a5)] [] h (f_X11_copy a0 a1 a2 a3 a4 a5 h) := by
  unfold f_X11_copy
  refine S_iload_n (pc := 0) 1 rfl dX11_copy_0 rfl ?_
  refine S_call_i (pc := 1) (rest := []) (fun q hq => R_S (av := [.int a1]) (M_X11_isRow _ a1 h hq) wd_232 wd_230 wd_231 wd_44 hd_X11_isRow ⟨Nat.le_of_ble_eq_true rfl, Nat.le_of_ble_eq_true rfl⟩ rfl (Nat.le_of_ble_eq_true rfl) dX11_copy_1) (fun _ h => absurd h List.not_mem_nil) (fun q1 => ?_)
  refine S_if_eq (pc := 4) (tgt := 14) dX11_copy_4 (by decide) ?_ ?_
  · refine S_ldc (pc := 14) wd_233 dX11_copy_14 ?_
    exact Sim.fin ⟨dX11_copy_16, rfl, rfl⟩ rfl
  · refine S_iload_n (pc := 7) 3 rfl dX11_copy_7 rfl ?_
    refine S_call_i (pc := 8) (rest := []) (fun q hq => R_S (av := [.int a3]) (M_X11_isRow _ a3 q1.2 hq) wd_232 wd_230 wd_231 wd_44 hd_X11_isRow ⟨Nat.le_of_ble_eq_true rfl, Nat.le_of_ble_eq_true rfl⟩ rfl (Nat.le_of_ble_eq_true rfl) dX11_copy_8) (fun _ h => absurd h List.not_mem_nil) (fun q2 => ?_)
    refine S_if_ne (pc := 11) (tgt := 17) dX11_copy_11 (by decide) ?_ ?_
    · refine S_ldc (pc := 14) wd_233 dX11_copy_14 ?_
      exact Sim.fin ⟨dX11_copy_16, rfl, rfl⟩ rfl
    · refine S_aload_n (pc := 17) 0 rfl dX11_copy_17 rfl ?_
      refine S_getR (pc := 18) fd_X11_rows wd_189 dX11_copy_18 (fun v3 => ?_)
      refine S_iload_n (pc := 21) 1 rfl dX11_copy_21 rfl ?_
      refine S_aR (pc := 22) (fun _ => rfl) dX11_copy_22 (fun v4 => ?_)
      refine S_astore (pc := 23) dX11_copy_23 (Nat.le_of_ble_eq_true rfl) rfl ?_
      refine S_aload_n (pc := 25) 1 rfl dX11_copy_25 rfl ?_
      refine S_getR (pc := 26) fd_X11_rows wd_189 dX11_copy_26 (fun v5 => ?_)
      refine S_iload_n (pc := 29) 4 rfl dX11_copy_29 rfl ?_
      refine S_aR (pc := 30) (fun _ => rfl) dX11_copy_30 (fun v6 => ?_)
      refine S_astore (pc := 31) dX11_copy_31 (Nat.le_of_ble_eq_true rfl) rfl ?_
      refine S_aload (pc := 33) 1 rfl dX11_copy_33 ?_
      refine S_getI (pc := 35) fd_X5_missing wd_175 dX11_copy_35 (fun v7 => ?_)
      refine S_if_ne (pc := 38) (tgt := 49) dX11_copy_38 (by decide) ?_ ?_
      · refine S_aload (pc := 41) 0 rfl dX11_copy_41 ?_
        refine S_getI (pc := 43) fd_X5_missing wd_175 dX11_copy_43 (fun v8 => ?_)
        refine S_if_eq (pc := 46) (tgt := 55) dX11_copy_46 (by decide) ?_ ?_
        · refine S_aload (pc := 55) 1 rfl dX11_copy_55 ?_
          refine S_getI (pc := 57) fd_X5_lane wd_177 dX11_copy_57 (fun v9 => ?_)
          refine S_aload (pc := 60) 0 rfl dX11_copy_60 ?_
          refine S_getI (pc := 62) fd_X5_lane wd_177 dX11_copy_62 (fun v10 => ?_)
          refine S_icmp_eq (pc := 65) (tgt := 74) dX11_copy_65 (by decide) ?_ ?_
          · refine S_aload (pc := 74) 1 rfl dX11_copy_74 ?_
            refine S_iload_n (pc := 76) 4 rfl dX11_copy_76 rfl ?_
            refine S_iload (pc := 77) 7 rfl dX11_copy_77 ?_
            refine S_call_i (pc := 79) (rest := []) (fun q hq => (x_if hq).elim (fun z => R_V (av := [.int a2, .int a5]) (q := (RX5, TX5, 4)) (M_X5_hasPart _ v4 a2 a5 q2.2 z.2) z.1 rfl wd_265 wd_262 wd_263 wd_49 wd_264 ⟨rfl, hd_X5_hasPart⟩ ⟨Nat.le_of_ble_eq_true rfl, Nat.le_of_ble_eq_true rfl⟩ rfl (Nat.le_of_ble_eq_true rfl) dX11_copy_79) (fun hq => (by cases hq))) (fun _ h => absurd h List.not_mem_nil) (fun q11 => ?_)
            refine S_if_eq (pc := 82) (tgt := 97) dX11_copy_82 (by decide) ?_ ?_
            · refine S_aload_n (pc := 97) 2 rfl dX11_copy_97 rfl ?_
              refine S_iconst (pc := 98) dX11_copy_98 ic_2 ?_
              refine S_call_i (pc := 99) (rest := []) (fun q hq => (x_if hq).elim (fun z => R_V (av := [.int (2 : Int32)]) (q := (RX11, TX11, 12)) (M_X11_found _ a0 (2 : Int32) q11.2 z.2) z.1 rfl wd_237 wd_234 wd_236 wd_44 wd_0 ⟨rfl, hd_X11_found⟩ ⟨Nat.le_of_ble_eq_true rfl, Nat.le_of_ble_eq_true rfl⟩ rfl (Nat.le_of_ble_eq_true rfl) dX11_copy_99) (fun hq => (by cases hq))) (fun _ h => absurd h List.not_mem_nil) (fun q12 => ?_)
              exact Sim.fin ⟨dX11_copy_102, rfl, rfl⟩ rfl
            · refine S_aload (pc := 85) 0 rfl dX11_copy_85 ?_
              refine S_iload (pc := 87) 6 rfl dX11_copy_87 ?_
              refine S_iload (pc := 89) 7 rfl dX11_copy_89 ?_
              refine S_call_i (pc := 91) (rest := []) (fun q hq => (x_if hq).elim (fun z => R_V (av := [.int a4, .int a5]) (q := (RX5, TX5, 4)) (M_X5_hasPart _ v6 a4 a5 q11.2 z.2) z.1 rfl wd_265 wd_262 wd_263 wd_49 wd_264 ⟨rfl, hd_X5_hasPart⟩ ⟨Nat.le_of_ble_eq_true rfl, Nat.le_of_ble_eq_true rfl⟩ rfl (Nat.le_of_ble_eq_true rfl) dX11_copy_91) (fun hq => (by cases hq))) (fun _ h => absurd h List.not_mem_nil) (fun q13 => ?_)
              refine S_if_ne (pc := 94) (tgt := 103) dX11_copy_94 (by decide) ?_ ?_
              · refine S_aload_n (pc := 97) 2 rfl dX11_copy_97 rfl ?_
                refine S_iconst (pc := 98) dX11_copy_98 ic_2 ?_
                refine S_call_i (pc := 99) (rest := []) (fun q hq => (x_if hq).elim (fun z => R_V (av := [.int (2 : Int32)]) (q := (RX11, TX11, 12)) (M_X11_found _ a0 (2 : Int32) q13.2 z.2) z.1 rfl wd_237 wd_234 wd_236 wd_44 wd_0 ⟨rfl, hd_X11_found⟩ ⟨Nat.le_of_ble_eq_true rfl, Nat.le_of_ble_eq_true rfl⟩ rfl (Nat.le_of_ble_eq_true rfl) dX11_copy_99) (fun hq => (by cases hq))) (fun _ h => absurd h List.not_mem_nil) (fun q14 => ?_)
                exact Sim.fin ⟨dX11_copy_102, rfl, rfl⟩ rfl
              · refine S_aload (pc := 103) 1 rfl dX11_copy_103 ?_
                refine S_getR (pc := 105) fd_X5_items wd_173 dX11_copy_105 (fun v15 => ?_)
                refine S_iload_n (pc := 108) 4 rfl dX11_copy_108 rfl ?_
                refine S_aload (pc := 109) 0 rfl dX11_copy_109 ?_
                refine S_getR (pc := 111) fd_X5_items wd_173 dX11_copy_111 (fun v16 => ?_)
                refine S_iload (pc := 114) 6 rfl dX11_copy_114 ?_
                refine S_iload (pc := 116) 7 rfl dX11_copy_116 ?_
                refine S_acp (pc := 118) (Nat.le_of_ble_eq_true rfl) wd_266 wd_268 wd_267 wd_52 (Nat.le_of_ble_eq_true rfl) dX11_copy_118 (fun h17 => ?_)
                refine S_aload_n (pc := 121) 2 rfl dX11_copy_121 rfl ?_
                refine S_iload (pc := 122) 7 rfl dX11_copy_122 ?_
                refine S_call_i (pc := 124) (rest := []) (fun q hq => (x_if hq).elim (fun z => R_V (av := [.int a5]) (q := (RX11, TX11, 12)) (M_X11_fine _ a0 a5 h17 z.2) z.1 rfl wd_249 wd_246 wd_248 wd_44 wd_1 ⟨rfl, hd_X11_fine⟩ ⟨Nat.le_of_ble_eq_true rfl, Nat.le_of_ble_eq_true rfl⟩ rfl (Nat.le_of_ble_eq_true rfl) dX11_copy_124) (fun hq => (by cases hq))) (fun _ h => absurd h List.not_mem_nil) (fun q18 => ?_)
                exact Sim.fin ⟨dX11_copy_127, rfl, rfl⟩ rfl
          · refine S_aload_n (pc := 68) 2 rfl dX11_copy_68 rfl ?_
            refine S_iconst (pc := 69) dX11_copy_69 ic_5 ?_
            refine S_call_i (pc := 70) (rest := []) (fun q hq => (x_if hq).elim (fun z => R_V (av := [.int (5 : Int32)]) (q := (RX11, TX11, 12)) (M_X11_found _ a0 (5 : Int32) q2.2 z.2) z.1 rfl wd_237 wd_234 wd_236 wd_44 wd_0 ⟨rfl, hd_X11_found⟩ ⟨Nat.le_of_ble_eq_true rfl, Nat.le_of_ble_eq_true rfl⟩ rfl (Nat.le_of_ble_eq_true rfl) dX11_copy_70) (fun hq => (by cases hq))) (fun _ h => absurd h List.not_mem_nil) (fun q19 => ?_)
            exact Sim.fin ⟨dX11_copy_73, rfl, rfl⟩ rfl
        · refine S_aload_n (pc := 49) 2 rfl dX11_copy_49 rfl ?_
          refine S_iconst (pc := 50) dX11_copy_50 ic_1 ?_
          refine S_call_i (pc := 51) (rest := []) (fun q hq => (x_if hq).elim (fun z => R_V (av := [.int (1 : Int32)]) (q := (RX11, TX11, 12)) (M_X11_found _ a0 (1 : Int32) q2.2 z.2) z.1 rfl wd_237 wd_234 wd_236 wd_44 wd_0 ⟨rfl, hd_X11_found⟩ ⟨Nat.le_of_ble_eq_true rfl, Nat.le_of_ble_eq_true rfl⟩ rfl (Nat.le_of_ble_eq_true rfl) dX11_copy_51) (fun hq => (by cases hq))) (fun _ h => absurd h List.not_mem_nil) (fun q20 => ?_)
          exact Sim.fin ⟨dX11_copy_54, rfl, rfl⟩ rfl
      · refine S_aload_n (pc := 49) 2 rfl dX11_copy_49 rfl ?_
        refine S_iconst (pc := 50) dX11_copy_50 ic_1 ?_
        refine S_call_i (pc := 51) (rest := []) (fun q hq => (x_if hq).elim (fun z => R_V (av := [.int (1 : Int32)]) (q := (RX11, TX11, 12)) (M_X11_found _ a0 (1 : Int32) q2.2 z.2) z.1 rfl wd_237 wd_234 wd_236 wd_44 wd_0 ⟨rfl, hd_X11_found⟩ ⟨Nat.le_of_ble_eq_true rfl, Nat.le_of_ble_eq_true rfl⟩ rfl (Nat.le_of_ble_eq_true rfl) dX11_copy_51) (fun hq => (by cases hq))) (fun _ h => absurd h List.not_mem_nil) (fun q21 => ?_)
        exact Sim.fin ⟨dX11_copy_54, rfl, rfl⟩ rfl
theorem M_X11_copy (l : Launch) (a0 : Nat) (a1 : Int32) (a2 : Int32) (a3 : Int32) (a4 : Int32) (a5 : Int32) (h : xH) {q : Int32 × xH} (hq : f_X11_copy a0 a1 a2 a3 a4 a5 h = some q) : xM l yX11_copy cX11_copy 8 (some .int) 1 [.ref a0, .int a1, .int a2, .int a3, .int a4, .int a5] h (some (.int q.1)) q.2 := xM_i (by decide +kernel) (Nat.le_of_ble_eq_true rfl) (fun K L => W_X11_copy K L a0 a1 a2 a3 a4 a5 h) hq
theorem dX11_onesOfAll_0 : decode cX11_onesOfAll 0 = .ok (.iconst 0, 1) := by decide +kernel
theorem dX11_onesOfAll_1 : decode cX11_onesOfAll 1 = .ok (.istore_n 1, 1) := by decide +kernel
theorem dX11_onesOfAll_2 : decode cX11_onesOfAll 2 = .ok (.iconst 0, 1) := by decide +kernel
theorem dX11_onesOfAll_3 : decode cX11_onesOfAll 3 = .ok (.istore_n 2, 1) := by decide +kernel
theorem dX11_onesOfAll_4 : decode cX11_onesOfAll 4 = .ok (.iload_n 2, 1) := by decide +kernel
theorem dX11_onesOfAll_5 : decode cX11_onesOfAll 5 = .ok (.iconst 4, 1) := by decide +kernel
theorem dX11_onesOfAll_6 : decode cX11_onesOfAll 6 = .ok (.if_icmp .ge 21, 3) := by decide +kernel
theorem dX11_onesOfAll_9 : decode cX11_onesOfAll 9 = .ok (.iload_n 1, 1) := by decide +kernel
theorem dX11_onesOfAll_10 : decode cX11_onesOfAll 10 = .ok (.aload_n 0, 1) := by decide +kernel
theorem dX11_onesOfAll_11 : decode cX11_onesOfAll 11 = .ok (.getfield 17, 3) := by decide +kernel
theorem dX11_onesOfAll_14 : decode cX11_onesOfAll 14 = .ok (.iload_n 2, 1) := by decide +kernel
theorem dX11_onesOfAll_15 : decode cX11_onesOfAll 15 = .ok (.aaload, 1) := by decide +kernel
theorem dX11_onesOfAll_16 : decode cX11_onesOfAll 16 = .ok (.invokevirtual 167, 3) := by decide +kernel
theorem dX11_onesOfAll_19 : decode cX11_onesOfAll 19 = .ok (.iadd, 1) := by decide +kernel
theorem dX11_onesOfAll_20 : decode cX11_onesOfAll 20 = .ok (.istore_n 1, 1) := by decide +kernel
theorem dX11_onesOfAll_21 : decode cX11_onesOfAll 21 = .ok (.iinc 2 1, 3) := by decide +kernel
theorem dX11_onesOfAll_24 : decode cX11_onesOfAll 24 = .ok (.goto (-20), 3) := by decide +kernel
theorem dX11_onesOfAll_27 : decode cX11_onesOfAll 27 = .ok (.iload_n 1, 1) := by decide +kernel
theorem dX11_onesOfAll_28 : decode cX11_onesOfAll 28 = .ok (.ireturn, 1) := by decide +kernel
set_option maxRecDepth 20000 in
set_option maxHeartbeats 4000000 in
theorem L_X11_onesOfAll_4 (K : xK) (L : xL) : ∀ (n : Nat) (a0 : Nat) (a1 : Int32) (a2 : Int32) (h : xH), Sim K L cX11_onesOfAll RX11 "onesOfAll" 3 4 (fun q : Int32 × Int32 × xH => q.2.2) (fun q pc' ls' st' h' => pc' = 27 ∧ ls' = [(0, .ref a0), (1, .int q.1), (2, .int q.2.1)] ∧ st' = [] ∧ h' = q.2.2) 4 [(0, .ref a0), (1, .int a1), (2, .int a2)] [] h (f_X11_onesOfAll_L4 n a0 a1 a2 h) := by
  intro n
  induction n with
  | zero =>
    intro a0 a1 a2 h
    exact Sim.none
  | succ n ih =>
    intro a0 a1 a2 h
    unfold f_X11_onesOfAll_L4
    refine S_iload_n (pc := 4) 2 rfl dX11_onesOfAll_4 rfl ?_
    refine S_iconst (pc := 5) dX11_onesOfAll_5 ic_4 ?_
    refine S_icmp_ge (pc := 6) (tgt := 27) dX11_onesOfAll_6 (by decide) ?_ ?_
    · refine S_sub [0, 1, 2] rfl ?_
      exact Sim.fin ⟨rfl, rfl, rfl, rfl⟩ rfl
    · refine S_iload_n (pc := 9) 1 rfl dX11_onesOfAll_9 rfl ?_
      refine S_aload_n (pc := 10) 0 rfl dX11_onesOfAll_10 rfl ?_
      refine S_getR (pc := 11) fd_X11_vectors wd_190 dX11_onesOfAll_11 (fun v1 => ?_)
      refine S_iload_n (pc := 14) 2 rfl dX11_onesOfAll_14 rfl ?_
      refine S_aR (pc := 15) (fun _ => rfl) dX11_onesOfAll_15 (fun v2 => ?_)
      refine S_call_i (pc := 16) (rest := [.int a1]) (fun q hq => (x_if hq).elim (fun z => R_V (av := []) (q := (RX1, TX1, 2)) (M_X1_countOnes _ v2 h z.2) z.1 rfl wd_493 wd_490 wd_491 wd_45 wd_492 ⟨rfl, hd_X1_countOnes⟩ ⟨Nat.le_of_ble_eq_true rfl, Nat.le_of_ble_eq_true rfl⟩ rfl (Nat.le_of_ble_eq_true rfl) dX11_onesOfAll_16) (fun hq => (by cases hq))) (fun _ h => List.mem_cons_of_mem _ (h)) (fun q3 => ?_)
      refine S_iadd (pc := 19) dX11_onesOfAll_19 ?_
      refine S_istore_n (pc := 20) dX11_onesOfAll_20 rfl (Nat.le_of_ble_eq_true rfl) rfl ?_
      refine S_iinc (pc := 21) (v := a2 + (1 : Int32)) 2 rfl dX11_onesOfAll_21 (x_inc ic_1) (Nat.le_of_ble_eq_true rfl) rfl ?_
      refine S_goto (pc := 24) (tgt := 4) dX11_onesOfAll_24 (by decide) ?_
      refine S_sub [2, 1, 0] rfl ?_
      exact ih a0 (a1 + q3.1) (a2 + (1 : Int32)) q3.2
set_option maxRecDepth 20000 in
set_option maxHeartbeats 4000000 in
theorem W_X11_onesOfAll (K : xK) (L : xL) (a0 : Nat) (h : xH) : Sim K L cX11_onesOfAll RX11 "onesOfAll" 3 4 (fun q : Int32 × xH => q.2) (xRi cX11_onesOfAll) 0 [(0, .ref a0)] [] h (f_X11_onesOfAll a0 h) := by
  unfold f_X11_onesOfAll
  refine S_iconst (pc := 0) dX11_onesOfAll_0 ic_0 ?_
  refine S_istore_n (pc := 1) dX11_onesOfAll_1 rfl (Nat.le_of_ble_eq_true rfl) rfl ?_
  refine S_iconst (pc := 2) dX11_onesOfAll_2 ic_0 ?_
  refine S_istore_n (pc := 3) dX11_onesOfAll_3 rfl (Nat.le_of_ble_eq_true rfl) rfl ?_
  refine S_sub [2, 1, 0] rfl ?_
  refine Sim.bind (hs := fun q4 : Int32 × Int32 × xH => q4.2.2) (px := 27) (lsx := fun q4 => [(0, .ref a0), (1, .int q4.1), (2, .int q4.2.1)]) (L_X11_onesOfAll_4 K L xN a0 (0 : Int32) (0 : Int32) h) (fun q4 => ?_)
  refine S_iload_n (pc := 27) 1 rfl dX11_onesOfAll_27 rfl ?_
  exact Sim.fin ⟨dX11_onesOfAll_28, rfl, rfl⟩ rfl
theorem M_X11_onesOfAll (l : Launch) (a0 : Nat) (h : xH) {q : Int32 × xH} (hq : f_X11_onesOfAll a0 h = some q) : xM l yX11_onesOfAll cX11_onesOfAll 3 (some .int) 4 [.ref a0] h (some (.int q.1)) q.2 := xM_i (by decide +kernel) (Nat.le_of_ble_eq_true rfl) (fun K L => W_X11_onesOfAll K L a0 h) hq
theorem dX11_rowsThatAreThere_0 : decode cX11_rowsThatAreThere 0 = .ok (.iconst 0, 1) := by decide +kernel
theorem dX11_rowsThatAreThere_1 : decode cX11_rowsThatAreThere 1 = .ok (.istore_n 1, 1) := by decide +kernel
theorem dX11_rowsThatAreThere_2 : decode cX11_rowsThatAreThere 2 = .ok (.iconst 0, 1) := by decide +kernel
theorem dX11_rowsThatAreThere_3 : decode cX11_rowsThatAreThere 3 = .ok (.istore_n 2, 1) := by decide +kernel
theorem dX11_rowsThatAreThere_4 : decode cX11_rowsThatAreThere 4 = .ok (.iload_n 2, 1) := by decide +kernel
theorem dX11_rowsThatAreThere_5 : decode cX11_rowsThatAreThere 5 = .ok (.bipush 8, 2) := by decide +kernel
theorem dX11_rowsThatAreThere_7 : decode cX11_rowsThatAreThere 7 = .ok (.if_icmp .ge 24, 3) := by decide +kernel
theorem dX11_rowsThatAreThere_10 : decode cX11_rowsThatAreThere 10 = .ok (.aload_n 0, 1) := by decide +kernel
theorem dX11_rowsThatAreThere_11 : decode cX11_rowsThatAreThere 11 = .ok (.getfield 11, 3) := by decide +kernel
theorem dX11_rowsThatAreThere_14 : decode cX11_rowsThatAreThere 14 = .ok (.iload_n 2, 1) := by decide +kernel
theorem dX11_rowsThatAreThere_15 : decode cX11_rowsThatAreThere 15 = .ok (.aaload, 1) := by decide +kernel
theorem dX11_rowsThatAreThere_16 : decode cX11_rowsThatAreThere 16 = .ok (.getfield 77, 3) := by decide +kernel
theorem dX11_rowsThatAreThere_19 : decode cX11_rowsThatAreThere 19 = .ok (.ifCond .ne 6, 3) := by decide +kernel
theorem dX11_rowsThatAreThere_22 : decode cX11_rowsThatAreThere 22 = .ok (.iinc 1 1, 3) := by decide +kernel
theorem dX11_rowsThatAreThere_25 : decode cX11_rowsThatAreThere 25 = .ok (.iinc 2 1, 3) := by decide +kernel
theorem dX11_rowsThatAreThere_28 : decode cX11_rowsThatAreThere 28 = .ok (.goto (-24), 3) := by decide +kernel
theorem dX11_rowsThatAreThere_31 : decode cX11_rowsThatAreThere 31 = .ok (.iload_n 1, 1) := by decide +kernel
theorem dX11_rowsThatAreThere_32 : decode cX11_rowsThatAreThere 32 = .ok (.ireturn, 1) := by decide +kernel
set_option maxRecDepth 20000 in
set_option maxHeartbeats 4000000 in
theorem L_X11_rowsThatAreThere_4 (K : xK) (L : xL) : ∀ (n : Nat) (a0 : Nat) (a1 : Int32) (a2 : Int32) (h : xH), Sim K L cX11_rowsThatAreThere RX11 "rowsThatAreThere" 3 0 (fun q : Int32 × Int32 × xH => q.2.2) (fun q pc' ls' st' h' => pc' = 31 ∧ ls' = [(0, .ref a0), (1, .int q.1), (2, .int q.2.1)] ∧ st' = [] ∧ h' = q.2.2) 4 [(0, .ref a0), (1, .int a1), (2, .int a2)] [] h (f_X11_rowsThatAreThere_L4 n a0 a1 a2 h) := by
  intro n
  induction n with
  | zero =>
    intro a0 a1 a2 h
    exact Sim.none
  | succ n ih =>
    intro a0 a1 a2 h
    unfold f_X11_rowsThatAreThere_L4
    refine S_iload_n (pc := 4) 2 rfl dX11_rowsThatAreThere_4 rfl ?_
    refine S_bipush (pc := 5) dX11_rowsThatAreThere_5 bi_8 ?_
    refine S_icmp_ge (pc := 7) (tgt := 31) dX11_rowsThatAreThere_7 (by decide) ?_ ?_
    · refine S_sub [0, 1, 2] rfl ?_
      exact Sim.fin ⟨rfl, rfl, rfl, rfl⟩ rfl
    · refine S_aload_n (pc := 10) 0 rfl dX11_rowsThatAreThere_10 rfl ?_
      refine S_getR (pc := 11) fd_X11_rows wd_189 dX11_rowsThatAreThere_11 (fun v1 => ?_)
      refine S_iload_n (pc := 14) 2 rfl dX11_rowsThatAreThere_14 rfl ?_
      refine S_aR (pc := 15) (fun _ => rfl) dX11_rowsThatAreThere_15 (fun v2 => ?_)
      refine S_getI (pc := 16) fd_X5_missing wd_175 dX11_rowsThatAreThere_16 (fun v3 => ?_)
      refine S_if_ne (pc := 19) (tgt := 25) dX11_rowsThatAreThere_19 (by decide) ?_ ?_
      · refine S_iinc (pc := 22) (v := a1 + (1 : Int32)) 1 rfl dX11_rowsThatAreThere_22 (x_inc ic_1) (Nat.le_of_ble_eq_true rfl) rfl ?_
        refine S_iinc (pc := 25) (v := a2 + (1 : Int32)) 2 rfl dX11_rowsThatAreThere_25 (x_inc ic_1) (Nat.le_of_ble_eq_true rfl) rfl ?_
        refine S_goto (pc := 28) (tgt := 4) dX11_rowsThatAreThere_28 (by decide) ?_
        refine S_sub [2, 1, 0] rfl ?_
        exact ih a0 (a1 + (1 : Int32)) (a2 + (1 : Int32)) h
      · refine S_iinc (pc := 25) (v := a2 + (1 : Int32)) 2 rfl dX11_rowsThatAreThere_25 (x_inc ic_1) (Nat.le_of_ble_eq_true rfl) rfl ?_
        refine S_goto (pc := 28) (tgt := 4) dX11_rowsThatAreThere_28 (by decide) ?_
        refine S_sub [1, 2, 0] rfl ?_
        exact ih a0 a1 (a2 + (1 : Int32)) h
set_option maxRecDepth 20000 in
set_option maxHeartbeats 4000000 in
theorem W_X11_rowsThatAreThere (K : xK) (L : xL) (a0 : Nat) (h : xH) : Sim K L cX11_rowsThatAreThere RX11 "rowsThatAreThere" 3 0 (fun q : Int32 × xH => q.2) (xRi cX11_rowsThatAreThere) 0 [(0, .ref a0)] [] h (f_X11_rowsThatAreThere a0 h) := by
  unfold f_X11_rowsThatAreThere
  refine S_iconst (pc := 0) dX11_rowsThatAreThere_0 ic_0 ?_
  refine S_istore_n (pc := 1) dX11_rowsThatAreThere_1 rfl (Nat.le_of_ble_eq_true rfl) rfl ?_
  refine S_iconst (pc := 2) dX11_rowsThatAreThere_2 ic_0 ?_
  refine S_istore_n (pc := 3) dX11_rowsThatAreThere_3 rfl (Nat.le_of_ble_eq_true rfl) rfl ?_
  refine S_sub [2, 1, 0] rfl ?_
  refine Sim.bind (hs := fun q4 : Int32 × Int32 × xH => q4.2.2) (px := 31) (lsx := fun q4 => [(0, .ref a0), (1, .int q4.1), (2, .int q4.2.1)]) (L_X11_rowsThatAreThere_4 K L xN a0 (0 : Int32) (0 : Int32) h) (fun q4 => ?_)
  refine S_iload_n (pc := 31) 1 rfl dX11_rowsThatAreThere_31 rfl ?_
  exact Sim.fin ⟨dX11_rowsThatAreThere_32, rfl, rfl⟩ rfl
theorem M_X11_rowsThatAreThere (l : Launch) (a0 : Nat) (h : xH) {q : Int32 × xH} (hq : f_X11_rowsThatAreThere a0 h = some q) : xM l yX11_rowsThatAreThere cX11_rowsThatAreThere 3 (some .int) 0 [.ref a0] h (some (.int q.1)) q.2 := xM_i (by decide +kernel) (Nat.le_of_ble_eq_true rfl) (fun K L => W_X11_rowsThatAreThere K L a0 h) hq
theorem dX11_count_0 : decode cX11_count 0 = .ok (.iload_n 1, 1) := by decide +kernel
theorem dX11_count_1 : decode cX11_count 1 = .ok (.tableswitch 75 0 5 #[39, 44, 49, 54, 59, 67], 39) := by decide +kernel
theorem dX11_count_40 : decode cX11_count 40 = .ok (.aload_n 0, 1) := by decide +kernel
theorem dX11_count_41 : decode cX11_count 41 = .ok (.invokevirtual 274, 3) := by decide +kernel
theorem dX11_count_44 : decode cX11_count 44 = .ok (.ireturn, 1) := by decide +kernel
theorem dX11_count_45 : decode cX11_count 45 = .ok (.aload_n 0, 1) := by decide +kernel
theorem dX11_count_46 : decode cX11_count 46 = .ok (.getfield 141, 3) := by decide +kernel
theorem dX11_count_49 : decode cX11_count 49 = .ok (.ireturn, 1) := by decide +kernel
theorem dX11_count_50 : decode cX11_count 50 = .ok (.aload_n 0, 1) := by decide +kernel
theorem dX11_count_51 : decode cX11_count 51 = .ok (.invokevirtual 277, 3) := by decide +kernel
theorem dX11_count_54 : decode cX11_count 54 = .ok (.ireturn, 1) := by decide +kernel
theorem dX11_count_55 : decode cX11_count 55 = .ok (.aload_n 0, 1) := by decide +kernel
theorem dX11_count_56 : decode cX11_count 56 = .ok (.invokevirtual 244, 3) := by decide +kernel
theorem dX11_count_59 : decode cX11_count 59 = .ok (.ireturn, 1) := by decide +kernel
theorem dX11_count_60 : decode cX11_count 60 = .ok (.aload_n 0, 1) := by decide +kernel
theorem dX11_count_61 : decode cX11_count 61 = .ok (.getfield 36, 3) := by decide +kernel
theorem dX11_count_64 : decode cX11_count 64 = .ok (.getfield 176, 3) := by decide +kernel
theorem dX11_count_67 : decode cX11_count 67 = .ok (.ireturn, 1) := by decide +kernel
theorem dX11_count_68 : decode cX11_count 68 = .ok (.aload_n 0, 1) := by decide +kernel
theorem dX11_count_69 : decode cX11_count 69 = .ok (.getfield 43, 3) := by decide +kernel
theorem dX11_count_72 : decode cX11_count 72 = .ok (.getfield 280, 3) := by decide +kernel
theorem dX11_count_75 : decode cX11_count 75 = .ok (.ireturn, 1) := by decide +kernel
theorem dX11_count_76 : decode cX11_count 76 = .ok (.ldc 65, 2) := by decide +kernel
theorem dX11_count_78 : decode cX11_count 78 = .ok (.ireturn, 1) := by decide +kernel
set_option maxRecDepth 20000 in
set_option maxHeartbeats 4000000 in
theorem W_X11_count (K : xK) (L : xL) (a0 : Nat) (a1 : Int32) (h : xH) : Sim K L cX11_count RX11 "count" 2 5 (fun q : Int32 × xH => q.2) (xRi cX11_count) 0 [(0, .ref a0), (1, .int a1)] [] h (f_X11_count a0 a1 h) := by
  unfold f_X11_count
  refine S_iload_n (pc := 0) 1 rfl dX11_count_0 rfl ?_
  refine S_tabIn (pc := 1) (v := 0) (tgt := 40) dX11_count_1 (by decide) (by decide) rfl (by decide) ?_ (fun hs2 => ?_)
  · refine S_aload_n (pc := 40) 0 rfl dX11_count_40 rfl ?_
    refine S_call_i (pc := 41) (rest := []) (fun q hq => (x_if hq).elim (fun z => R_V (av := []) (q := (RX11, TX11, 12)) (M_X11_rowsThatAreThere _ a0 h z.2) z.1 rfl wd_792 wd_789 wd_791 wd_44 wd_12 ⟨rfl, hd_X11_rowsThatAreThere⟩ ⟨Nat.le_of_ble_eq_true rfl, Nat.le_of_ble_eq_true rfl⟩ rfl (Nat.le_of_ble_eq_true rfl) dX11_count_41) (fun hq => (by cases hq))) (fun _ h => absurd h List.not_mem_nil) (fun q1 => ?_)
    exact Sim.fin ⟨dX11_count_44, rfl, rfl⟩ rfl
  refine S_tabIn (pc := 1) (v := 1) (tgt := 45) dX11_count_1 (by decide) (by decide) rfl (by decide) ?_ (fun hs4 => ?_)
  · refine S_aload_n (pc := 45) 0 rfl dX11_count_45 rfl ?_
    refine S_getI (pc := 46) fd_X11_runCount wd_198 dX11_count_46 (fun v3 => ?_)
    exact Sim.fin ⟨dX11_count_49, rfl, rfl⟩ rfl
  refine S_tabIn (pc := 1) (v := 2) (tgt := 50) dX11_count_1 (by decide) (by decide) rfl (by decide) ?_ (fun hs6 => ?_)
  · refine S_aload_n (pc := 50) 0 rfl dX11_count_50 rfl ?_
    refine S_call_i (pc := 51) (rest := []) (fun q hq => (x_if hq).elim (fun z => R_V (av := []) (q := (RX11, TX11, 12)) (M_X11_bitsOfAll _ a0 h z.2) z.1 rfl wd_796 wd_793 wd_795 wd_44 wd_13 ⟨rfl, hd_X11_bitsOfAll⟩ ⟨Nat.le_of_ble_eq_true rfl, Nat.le_of_ble_eq_true rfl⟩ rfl (Nat.le_of_ble_eq_true rfl) dX11_count_51) (fun hq => (by cases hq))) (fun _ h => absurd h List.not_mem_nil) (fun q5 => ?_)
    exact Sim.fin ⟨dX11_count_54, rfl, rfl⟩ rfl
  refine S_tabIn (pc := 1) (v := 3) (tgt := 55) dX11_count_1 (by decide) (by decide) rfl (by decide) ?_ (fun hs8 => ?_)
  · refine S_aload_n (pc := 55) 0 rfl dX11_count_55 rfl ?_
    refine S_call_i (pc := 56) (rest := []) (fun q hq => (x_if hq).elim (fun z => R_V (av := []) (q := (RX11, TX11, 12)) (M_X11_onesOfAll _ a0 h z.2) z.1 rfl wd_675 wd_672 wd_674 wd_44 wd_10 ⟨rfl, hd_X11_onesOfAll⟩ ⟨Nat.le_of_ble_eq_true rfl, Nat.le_of_ble_eq_true rfl⟩ rfl (Nat.le_of_ble_eq_true rfl) dX11_count_56) (fun hq => (by cases hq))) (fun _ h => absurd h List.not_mem_nil) (fun q7 => ?_)
    exact Sim.fin ⟨dX11_count_59, rfl, rfl⟩ rfl
  refine S_tabIn (pc := 1) (v := 4) (tgt := 60) dX11_count_1 (by decide) (by decide) rfl (by decide) ?_ (fun hs11 => ?_)
  · refine S_aload_n (pc := 60) 0 rfl dX11_count_60 rfl ?_
    refine S_getR (pc := 61) fd_X11_history wd_194 dX11_count_61 (fun v9 => ?_)
    refine S_getI (pc := 64) fd_X3_held wd_101 dX11_count_64 (fun v10 => ?_)
    exact Sim.fin ⟨dX11_count_67, rfl, rfl⟩ rfl
  refine S_tabIn (pc := 1) (v := 5) (tgt := 68) dX11_count_1 (by decide) (by decide) rfl (by decide) ?_ (fun hs14 => ?_)
  · refine S_aload_n (pc := 68) 0 rfl dX11_count_68 rfl ?_
    refine S_getR (pc := 69) fd_X11_reader wd_195 dX11_count_69 (fun v12 => ?_)
    refine S_getI (pc := 72) fd_X7_tapeLength wd_123 dX11_count_72 (fun v13 => ?_)
    exact Sim.fin ⟨dX11_count_75, rfl, rfl⟩ rfl
  refine S_tabOut (pc := 1) (tgt := 76) dX11_count_1 (by have := lv_neT hs2 (show (0 : Int32).toInt = 0 from by decide); have := lv_neT hs4 (show (1 : Int32).toInt = 1 from by decide); have := lv_neT hs6 (show (2 : Int32).toInt = 2 from by decide); have := lv_neT hs8 (show (3 : Int32).toInt = 3 from by decide); have := lv_neT hs11 (show (4 : Int32).toInt = 4 from by decide); have := lv_neT hs14 (show (5 : Int32).toInt = 5 from by decide); omega) (by decide) ?_
  refine S_ldc (pc := 76) wd_233 dX11_count_76 ?_
  exact Sim.fin ⟨dX11_count_78, rfl, rfl⟩ rfl
theorem M_X11_count (l : Launch) (a0 : Nat) (a1 : Int32) (h : xH) {q : Int32 × xH} (hq : f_X11_count a0 a1 h = some q) : xM l yX11_count cX11_count 2 (some .int) 5 [.ref a0, .int a1] h (some (.int q.1)) q.2 := xM_i (by decide +kernel) (Nat.le_of_ble_eq_true rfl) (fun K L => W_X11_count K L a0 a1 h) hq
theorem dX1_shorten_0 : decode cX1_shorten 0 = .ok (.aload_n 0, 1) := by decide +kernel
theorem dX1_shorten_1 : decode cX1_shorten 1 = .ok (.iload_n 1, 1) := by decide +kernel
theorem dX1_shorten_2 : decode cX1_shorten 2 = .ok (.putfield 15, 3) := by decide +kernel
theorem dX1_shorten_5 : decode cX1_shorten 5 = .ok (.iconst 0, 1) := by decide +kernel
theorem dX1_shorten_6 : decode cX1_shorten 6 = .ok (.istore_n 2, 1) := by decide +kernel
theorem dX1_shorten_7 : decode cX1_shorten 7 = .ok (.iload_n 2, 1) := by decide +kernel
theorem dX1_shorten_8 : decode cX1_shorten 8 = .ok (.bipush 32, 2) := by decide +kernel
theorem dX1_shorten_10 : decode cX1_shorten 10 = .ok (.if_icmp .ge 30, 3) := by decide +kernel
theorem dX1_shorten_13 : decode cX1_shorten 13 = .ok (.aload_n 0, 1) := by decide +kernel
theorem dX1_shorten_14 : decode cX1_shorten 14 = .ok (.getfield 9, 3) := by decide +kernel
theorem dX1_shorten_17 : decode cX1_shorten 17 = .ok (.iload_n 2, 1) := by decide +kernel
theorem dX1_shorten_18 : decode cX1_shorten 18 = .ok (.dup2, 1) := by decide +kernel
theorem dX1_shorten_19 : decode cX1_shorten 19 = .ok (.iaload, 1) := by decide +kernel
theorem dX1_shorten_20 : decode cX1_shorten 20 = .ok (.aload_n 0, 1) := by decide +kernel
theorem dX1_shorten_21 : decode cX1_shorten 21 = .ok (.getfield 15, 3) := by decide +kernel
theorem dX1_shorten_24 : decode cX1_shorten 24 = .ok (.bipush 15, 2) := by decide +kernel
theorem dX1_shorten_26 : decode cX1_shorten 26 = .ok (.iload_n 2, 1) := by decide +kernel
theorem dX1_shorten_27 : decode cX1_shorten 27 = .ok (.imul, 1) := by decide +kernel
theorem dX1_shorten_28 : decode cX1_shorten 28 = .ok (.isub, 1) := by decide +kernel
theorem dX1_shorten_29 : decode cX1_shorten 29 = .ok (.invokestatic 40, 3) := by decide +kernel
theorem dX1_shorten_32 : decode cX1_shorten 32 = .ok (.iand, 1) := by decide +kernel
theorem dX1_shorten_33 : decode cX1_shorten 33 = .ok (.iastore, 1) := by decide +kernel
theorem dX1_shorten_34 : decode cX1_shorten 34 = .ok (.iinc 2 1, 3) := by decide +kernel
theorem dX1_shorten_37 : decode cX1_shorten 37 = .ok (.goto (-30), 3) := by decide +kernel
theorem dX1_shorten_40 : decode cX1_shorten 40 = .ok (.return_, 1) := by decide +kernel
set_option maxRecDepth 20000 in
set_option maxHeartbeats 4000000 in
theorem L_X1_shorten_7 (K : xK) (L : xL) : ∀ (n : Nat) (a0 : Nat) (a2 : Int32) (h : xH), Sim K L cX1_shorten RX1 "shorten" 3 2 (fun q : Int32 × xH => q.2) (fun q pc' ls' st' h' => pc' = 40 ∧ ls' = [(0, .ref a0), (2, .int q.1)] ∧ st' = [] ∧ h' = q.2) 7 [(0, .ref a0), (2, .int a2)] [] h (f_X1_shorten_L7 n a0 a2 h) := by
  intro n
  induction n with
  | zero =>
    intro a0 a2 h
    exact Sim.none
  | succ n ih =>
    intro a0 a2 h
    unfold f_X1_shorten_L7
    refine S_iload_n (pc := 7) 1 rfl dX1_shorten_7 rfl ?_
    refine S_bipush (pc := 8) dX1_shorten_8 bi_32 ?_
    refine S_icmp_ge (pc := 10) (tgt := 40) dX1_shorten_10 (by decide) ?_ ?_
    · refine S_sub [0, 1] rfl ?_
      exact Sim.fin ⟨rfl, rfl, rfl, rfl⟩ rfl
    · refine S_aload_n (pc := 13) 0 rfl dX1_shorten_13 rfl ?_
      refine S_getR (pc := 14) fd_X1_masks wd_78 dX1_shorten_14 (fun v2 => ?_)
      refine S_iload_n (pc := 17) 1 rfl dX1_shorten_17 rfl ?_
      refine S_dup2 (pc := 18) rfl rfl dX1_shorten_18 ?_
      refine S_aI (pc := 19) dX1_shorten_19 (fun v3 => ?_)
      refine S_aload_n (pc := 20) 0 rfl dX1_shorten_20 rfl ?_
      refine S_getI (pc := 21) fd_X1_length wd_80 dX1_shorten_21 (fun v4 => ?_)
      refine S_bipush (pc := 24) dX1_shorten_24 bi_15 ?_
      refine S_iload_n (pc := 26) 1 rfl dX1_shorten_26 rfl ?_
      refine S_imul (pc := 27) dX1_shorten_27 ?_
      refine S_isub (pc := 28) dX1_shorten_28 ?_
      refine S_call_i (pc := 29) (rest := [.int v3, .int a2, .ref v2]) (fun q hq => R_SN (av := [.int (v4 - ((15 : Int32) * a2))]) (host := RX11) (M_X11_firstPlaces _ (v4 - ((15 : Int32) * a2)) h hq) wd_471 (by decide +kernel) wd_470 wd_44 hd_X11_firstPlaces ⟨Nat.le_of_ble_eq_true rfl, Nat.le_of_ble_eq_true rfl⟩ rfl (Nat.le_of_ble_eq_true rfl) dX1_shorten_29) (fun _ h => List.mem_cons_of_mem _ (h)) (fun q5 => ?_)
      refine S_iand (pc := 32) dX1_shorten_32 ?_
      refine S_uI (pc := 33) dX1_shorten_33 (fun h6 => ?_)
      refine S_iinc (pc := 34) (v := a2 + (1 : Int32)) 1 rfl dX1_shorten_34 (x_inc ic_1) (Nat.le_of_ble_eq_true rfl) rfl ?_
      refine S_goto (pc := 37) (tgt := 7) dX1_shorten_37 (by decide) ?_
      refine S_sub [1, 0] rfl ?_
      exact ih a0 (a2 + (1 : Int32)) h6
set_option maxRecDepth 20000 in
set_option maxHeartbeats 4000000 in
theorem W_X1_shorten (K : xK) (L : xL) (a0 : Nat) (a1 : Int32) (h : xH) : Sim K L cX1_shorten RX1 "shorten" 3 2 (fun q : xH => q) (xRv cX1_shorten) 0 [(0, .ref a0), (1, .int a1)] [] h (f_X1_shorten a0 a1 h) := by
  unfold f_X1_shorten
  refine S_aload_n (pc := 0) 0 rfl dX1_shorten_0 rfl ?_
  refine S_iload_n (pc := 1) 1 rfl dX1_shorten_1 rfl ?_
  refine S_putI (pc := 2) fd_X1_length wd_80 rfl rfl dX1_shorten_2 (fun h1 => ?_)
  refine S_iconst (pc := 5) dX1_shorten_5 ic_0 ?_
  refine S_istore_n (pc := 6) dX1_shorten_6 rfl (Nat.le_of_ble_eq_true rfl) rfl ?_
  refine S_sub [1, 0] rfl ?_
  refine Sim.bind (hs := fun q7 : Int32 × xH => q7.2) (px := 40) (lsx := fun q7 => [(0, .ref a0), (2, .int q7.1)]) (L_X1_shorten_7 K L xN a0 (0 : Int32) h1) (fun q7 => ?_)
  exact Sim.fin ⟨dX1_shorten_40, rfl, rfl⟩ rfl
theorem M_X1_shorten (l : Launch) (a0 : Nat) (a1 : Int32) (h : xH) {q : xH} (hq : f_X1_shorten a0 a1 h = some q) : xM l yX1_shorten cX1_shorten 3 none 2 [.ref a0, .int a1] h none q := xM_v (by decide +kernel) (Nat.le_of_ble_eq_true rfl) (fun K L => W_X1_shorten K L a0 a1 h) hq
theorem dX11_cut_0 : decode cX11_cut 0 = .ok (.iload_n 1, 1) := by decide +kernel
theorem dX11_cut_1 : decode cX11_cut 1 = .ok (.invokestatic 113, 3) := by decide +kernel
theorem dX11_cut_4 : decode cX11_cut 4 = .ok (.ifCond .eq 20, 3) := by decide +kernel
theorem dX11_cut_7 : decode cX11_cut 7 = .ok (.iload_n 2, 1) := by decide +kernel
theorem dX11_cut_8 : decode cX11_cut 8 = .ok (.ifCond .lt 16, 3) := by decide +kernel
theorem dX11_cut_11 : decode cX11_cut 11 = .ok (.iload_n 2, 1) := by decide +kernel
theorem dX11_cut_12 : decode cX11_cut 12 = .ok (.aload_n 0, 1) := by decide +kernel
theorem dX11_cut_13 : decode cX11_cut 13 = .ok (.getfield 17, 3) := by decide +kernel
theorem dX11_cut_16 : decode cX11_cut 16 = .ok (.iload_n 1, 1) := by decide +kernel
theorem dX11_cut_17 : decode cX11_cut 17 = .ok (.aaload, 1) := by decide +kernel
theorem dX11_cut_18 : decode cX11_cut 18 = .ok (.getfield 148, 3) := by decide +kernel
theorem dX11_cut_21 : decode cX11_cut 21 = .ok (.if_icmp .le 6, 3) := by decide +kernel
theorem dX11_cut_24 : decode cX11_cut 24 = .ok (.ldc 65, 2) := by decide +kernel
theorem dX11_cut_26 : decode cX11_cut 26 = .ok (.ireturn, 1) := by decide +kernel
theorem dX11_cut_27 : decode cX11_cut 27 = .ok (.aload_n 0, 1) := by decide +kernel
theorem dX11_cut_28 : decode cX11_cut 28 = .ok (.iload_n 1, 1) := by decide +kernel
theorem dX11_cut_29 : decode cX11_cut 29 = .ok (.invokevirtual 133, 3) := by decide +kernel
theorem dX11_cut_32 : decode cX11_cut 32 = .ok (.astore_n 3, 1) := by decide +kernel
theorem dX11_cut_33 : decode cX11_cut 33 = .ok (.aload_n 3, 1) := by decide +kernel
theorem dX11_cut_34 : decode cX11_cut 34 = .ok (.getfield 148, 3) := by decide +kernel
theorem dX11_cut_37 : decode cX11_cut 37 = .ok (.istore 4, 2) := by decide +kernel
theorem dX11_cut_39 : decode cX11_cut 39 = .ok (.aload_n 3, 1) := by decide +kernel
theorem dX11_cut_40 : decode cX11_cut 40 = .ok (.iload_n 2, 1) := by decide +kernel
theorem dX11_cut_41 : decode cX11_cut 41 = .ok (.invokevirtual 160, 3) := by decide +kernel
theorem dX11_cut_44 : decode cX11_cut 44 = .ok (.iload 4, 2) := by decide +kernel
theorem dX11_cut_46 : decode cX11_cut 46 = .ok (.ireturn, 1) := by decide +kernel
set_option maxRecDepth 20000 in
set_option maxHeartbeats 4000000 in
theorem W_X11_cut (K : xK) (L : xL) (a0 : Nat) (a1 : Int32) (a2 : Int32) (h : xH) : Sim K L cX11_cut RX11 "cut" 5 4 (fun q : Int32 × xH => q.2) (xRi cX11_cut) 0 [(0, .ref a0), (1, .int a1), (2, .int a2)] [] h (f_X11_cut a0 a1 a2 h) := by
  unfold f_X11_cut
  refine S_iload_n (pc := 0) 1 rfl dX11_cut_0 rfl ?_
  refine S_call_i (pc := 1) (rest := []) (fun q hq => R_S (av := [.int a1]) (M_X11_isVector _ a1 h hq) wd_293 wd_291 wd_292 wd_44 hd_X11_isVector ⟨Nat.le_of_ble_eq_true rfl, Nat.le_of_ble_eq_true rfl⟩ rfl (Nat.le_of_ble_eq_true rfl) dX11_cut_1) (fun _ h => absurd h List.not_mem_nil) (fun q1 => ?_)
  refine S_if_eq (pc := 4) (tgt := 24) dX11_cut_4 (by decide) ?_ ?_
  · refine S_ldc (pc := 24) wd_233 dX11_cut_24 ?_
    exact Sim.fin ⟨dX11_cut_26, rfl, rfl⟩ rfl
  · refine S_iload_n (pc := 7) 2 rfl dX11_cut_7 rfl ?_
    refine S_if_lt (pc := 8) (tgt := 24) dX11_cut_8 (by decide) ?_ ?_
    · refine S_ldc (pc := 24) wd_233 dX11_cut_24 ?_
      exact Sim.fin ⟨dX11_cut_26, rfl, rfl⟩ rfl
    · refine S_iload_n (pc := 11) 2 rfl dX11_cut_11 rfl ?_
      refine S_aload_n (pc := 12) 0 rfl dX11_cut_12 rfl ?_
      refine S_getR (pc := 13) fd_X11_vectors wd_190 dX11_cut_13 (fun v2 => ?_)
      refine S_iload_n (pc := 16) 1 rfl dX11_cut_16 rfl ?_
      refine S_aR (pc := 17) (fun _ => rfl) dX11_cut_17 (fun v3 => ?_)
      refine S_getI (pc := 18) fd_X1_length wd_81 dX11_cut_18 (fun v4 => ?_)
      refine S_icmp_le (pc := 21) (tgt := 27) dX11_cut_21 (by decide) ?_ ?_
      · refine S_aload_n (pc := 27) 0 rfl dX11_cut_27 rfl ?_
        refine S_iload_n (pc := 28) 1 rfl dX11_cut_28 rfl ?_
        refine S_call_r (pc := 29) (rest := []) (fun q hq => (x_if hq).elim (fun z => R_V (av := [.int a1]) (q := (RX11, TX11, 12)) (M_X11_vectorToChange _ a0 a1 q1.2 z.2) z.1 rfl wd_394 wd_391 wd_393 wd_44 wd_8 ⟨rfl, hd_X11_vectorToChange⟩ ⟨Nat.le_of_ble_eq_true rfl, Nat.le_of_ble_eq_true rfl⟩ rfl (Nat.le_of_ble_eq_true rfl) dX11_cut_29) (fun hq => (by cases hq))) (fun _ h => absurd h List.not_mem_nil) (fun q5 => ?_)
        refine S_astore_n (pc := 32) dX11_cut_32 rfl (Nat.le_of_ble_eq_true rfl) rfl ?_
        refine S_aload_n (pc := 33) 0 rfl dX11_cut_33 rfl ?_
        refine S_getI (pc := 34) fd_X1_length wd_81 dX11_cut_34 (fun v6 => ?_)
        refine S_istore (pc := 37) dX11_cut_37 (Nat.le_of_ble_eq_true rfl) rfl ?_
        refine S_aload_n (pc := 39) 1 rfl dX11_cut_39 rfl ?_
        refine S_iload_n (pc := 40) 4 rfl dX11_cut_40 rfl ?_
        refine S_call_v (pc := 41) (rest := []) (fun q hq => (x_if hq).elim (fun z => R_V (av := [.int a2]) (q := (RX1, TX1, 2)) (M_X1_shorten _ q5.1 a2 q5.2 z.2) z.1 rfl wd_468 wd_465 wd_466 wd_45 wd_467 ⟨rfl, hd_X1_shorten⟩ ⟨Nat.le_of_ble_eq_true rfl, Nat.le_of_ble_eq_true rfl⟩ rfl (Nat.le_of_ble_eq_true rfl) dX11_cut_41) (fun hq => (by cases hq))) (fun _ h => absurd h List.not_mem_nil) (fun q7 => ?_)
        refine S_iload (pc := 44) 0 rfl dX11_cut_44 ?_
        exact Sim.fin ⟨dX11_cut_46, rfl, rfl⟩ rfl
      · refine S_ldc (pc := 24) wd_233 dX11_cut_24 ?_
        exact Sim.fin ⟨dX11_cut_26, rfl, rfl⟩ rfl
theorem M_X11_cut (l : Launch) (a0 : Nat) (a1 : Int32) (a2 : Int32) (h : xH) {q : Int32 × xH} (hq : f_X11_cut a0 a1 a2 h = some q) : xM l yX11_cut cX11_cut 5 (some .int) 4 [.ref a0, .int a1, .int a2] h (some (.int q.1)) q.2 := xM_i (by decide +kernel) (Nat.le_of_ble_eq_true rfl) (fun K L => W_X11_cut K L a0 a1 a2 h) hq
theorem dX1_bitAt_0 : decode cX1_bitAt 0 = .ok (.iload_n 1, 1) := by decide +kernel
theorem dX1_bitAt_1 : decode cX1_bitAt 1 = .ok (.ifCond .lt 11, 3) := by decide +kernel
theorem dX1_bitAt_4 : decode cX1_bitAt 4 = .ok (.iload_n 1, 1) := by decide +kernel
theorem dX1_bitAt_5 : decode cX1_bitAt 5 = .ok (.aload_n 0, 1) := by decide +kernel
theorem dX1_bitAt_6 : decode cX1_bitAt 6 = .ok (.getfield 15, 3) := by decide +kernel
theorem dX1_bitAt_9 : decode cX1_bitAt 9 = .ok (.if_icmp .lt 5, 3) := by decide +kernel
theorem dX1_bitAt_12 : decode cX1_bitAt 12 = .ok (.iconst 0, 1) := by decide +kernel
theorem dX1_bitAt_13 : decode cX1_bitAt 13 = .ok (.ireturn, 1) := by decide +kernel
theorem dX1_bitAt_14 : decode cX1_bitAt 14 = .ok (.aload_n 0, 1) := by decide +kernel
theorem dX1_bitAt_15 : decode cX1_bitAt 15 = .ok (.getfield 9, 3) := by decide +kernel
theorem dX1_bitAt_18 : decode cX1_bitAt 18 = .ok (.iload_n 1, 1) := by decide +kernel
theorem dX1_bitAt_19 : decode cX1_bitAt 19 = .ok (.bipush 15, 2) := by decide +kernel
theorem dX1_bitAt_21 : decode cX1_bitAt 21 = .ok (.idiv, 1) := by decide +kernel
theorem dX1_bitAt_22 : decode cX1_bitAt 22 = .ok (.iaload, 1) := by decide +kernel
theorem dX1_bitAt_23 : decode cX1_bitAt 23 = .ok (.iload_n 1, 1) := by decide +kernel
theorem dX1_bitAt_24 : decode cX1_bitAt 24 = .ok (.bipush 15, 2) := by decide +kernel
theorem dX1_bitAt_26 : decode cX1_bitAt 26 = .ok (.irem, 1) := by decide +kernel
theorem dX1_bitAt_27 : decode cX1_bitAt 27 = .ok (.ishr, 1) := by decide +kernel
theorem dX1_bitAt_28 : decode cX1_bitAt 28 = .ok (.iconst 1, 1) := by decide +kernel
theorem dX1_bitAt_29 : decode cX1_bitAt 29 = .ok (.iand, 1) := by decide +kernel
theorem dX1_bitAt_30 : decode cX1_bitAt 30 = .ok (.ireturn, 1) := by decide +kernel
set_option maxRecDepth 20000 in
set_option maxHeartbeats 4000000 in
theorem W_X1_bitAt (K : xK) (L : xL) (a0 : Nat) (a1 : Int32) (h : xH) : Sim K L cX1_bitAt RX1 "bitAt" 2 0 (fun q : Int32 × xH => q.2) (xRi cX1_bitAt) 0 [(0, .ref a0), (1, .int a1)] [] h (f_X1_bitAt a0 a1 h) := by
  unfold f_X1_bitAt
  refine S_iload_n (pc := 0) 1 rfl dX1_bitAt_0 rfl ?_
  refine S_if_lt (pc := 1) (tgt := 12) dX1_bitAt_1 (by decide) ?_ ?_
  · refine S_iconst (pc := 12) dX1_bitAt_12 ic_0 ?_
    exact Sim.fin ⟨dX1_bitAt_13, rfl, rfl⟩ rfl
  · refine S_iload_n (pc := 4) 1 rfl dX1_bitAt_4 rfl ?_
    refine S_aload_n (pc := 5) 0 rfl dX1_bitAt_5 rfl ?_
    refine S_getI (pc := 6) fd_X1_length wd_80 dX1_bitAt_6 (fun v1 => ?_)
    refine S_icmp_lt (pc := 9) (tgt := 14) dX1_bitAt_9 (by decide) ?_ ?_
    · refine S_aload_n (pc := 14) 0 rfl dX1_bitAt_14 rfl ?_
      refine S_getR (pc := 15) fd_X1_masks wd_78 dX1_bitAt_15 (fun v2 => ?_)
      refine S_iload_n (pc := 18) 1 rfl dX1_bitAt_18 rfl ?_
      refine S_bipush (pc := 19) dX1_bitAt_19 bi_15 ?_
      refine S_idiv (pc := 21) (by decide) dX1_bitAt_21 ?_
      refine S_aI (pc := 22) dX1_bitAt_22 (fun v3 => ?_)
      refine S_iload_n (pc := 23) 1 rfl dX1_bitAt_23 rfl ?_
      refine S_bipush (pc := 24) dX1_bitAt_24 bi_15 ?_
      refine S_irem (pc := 26) (by decide) dX1_bitAt_26 ?_
      refine S_ishr (pc := 27) dX1_bitAt_27 ?_
      refine S_iconst (pc := 28) dX1_bitAt_28 ic_1 ?_
      refine S_iand (pc := 29) dX1_bitAt_29 ?_
      exact Sim.fin ⟨dX1_bitAt_30, rfl, rfl⟩ rfl
    · refine S_iconst (pc := 12) dX1_bitAt_12 ic_0 ?_
      exact Sim.fin ⟨dX1_bitAt_13, rfl, rfl⟩ rfl
theorem M_X1_bitAt (l : Launch) (a0 : Nat) (a1 : Int32) (h : xH) {q : Int32 × xH} (hq : f_X1_bitAt a0 a1 h = some q) : xM l yX1_bitAt cX1_bitAt 2 (some .int) 0 [.ref a0, .int a1] h (some (.int q.1)) q.2 := xM_i (by decide +kernel) (Nat.le_of_ble_eq_true rfl) (fun K L => W_X1_bitAt K L a0 a1 h) hq
theorem dX1_payloadBits_0 : decode cX1_payloadBits 0 = .ok (.aload_n 0, 1) := by decide +kernel
theorem dX1_payloadBits_1 : decode cX1_payloadBits 1 = .ok (.aload_n 0, 1) := by decide +kernel
theorem dX1_payloadBits_2 : decode cX1_payloadBits 2 = .ok (.invokevirtual 67, 3) := by decide +kernel
theorem dX1_payloadBits_5 : decode cX1_payloadBits 5 = .ok (.invokevirtual 77, 3) := by decide +kernel
theorem dX1_payloadBits_8 : decode cX1_payloadBits 8 = .ok (.ireturn, 1) := by decide +kernel
set_option maxRecDepth 20000 in
set_option maxHeartbeats 4000000 in
theorem W_X1_payloadBits (K : xK) (L : xL) (a0 : Nat) (h : xH) : Sim K L cX1_payloadBits RX1 "payloadBits" 1 3 (fun q : Int32 × xH => q.2) (xRi cX1_payloadBits) 0 [(0, .ref a0)] [] h (f_X1_payloadBits a0 h) := by
  unfold f_X1_payloadBits
  refine S_aload_n (pc := 0) 0 rfl dX1_payloadBits_0 rfl ?_
  refine S_aload_n (pc := 1) 0 rfl dX1_payloadBits_1 rfl ?_
  refine S_call_i (pc := 2) (rest := [.ref a0]) (fun q hq => (x_if hq).elim (fun z => R_V (av := []) (q := (RX1, TX1, 2)) (M_X1_blockCount _ a0 h z.2) z.1 rfl wd_548 wd_577 wd_546 wd_45 wd_547 ⟨rfl, hd_X1_blockCount⟩ ⟨Nat.le_of_ble_eq_true rfl, Nat.le_of_ble_eq_true rfl⟩ rfl (Nat.le_of_ble_eq_true rfl) dX1_payloadBits_2) (fun hq => (by cases hq))) (fun _ h => List.mem_cons_of_mem _ (h)) (fun q1 => ?_)
  refine S_call_i (pc := 5) (rest := []) (fun q hq => (x_if hq).elim (fun z => R_V (av := [.int q1.1]) (q := (RX1, TX1, 2)) (M_X1_beginOf _ a0 q1.1 q1.2 z.2) z.1 rfl wd_566 wd_587 wd_564 wd_45 wd_565 ⟨rfl, hd_X1_beginOf⟩ ⟨Nat.le_of_ble_eq_true rfl, Nat.le_of_ble_eq_true rfl⟩ rfl (Nat.le_of_ble_eq_true rfl) dX1_payloadBits_5) (fun hq => (by cases hq))) (fun _ h => absurd h List.not_mem_nil) (fun q2 => ?_)
  exact Sim.fin ⟨dX1_payloadBits_8, rfl, rfl⟩ rfl
theorem M_X1_payloadBits (l : Launch) (a0 : Nat) (h : xH) {q : Int32 × xH} (hq : f_X1_payloadBits a0 h = some q) : xM l yX1_payloadBits cX1_payloadBits 1 (some .int) 3 [.ref a0] h (some (.int q.1)) q.2 := xM_i (by decide +kernel) (Nat.le_of_ble_eq_true rfl) (fun K L => W_X1_payloadBits K L a0 h) hq
theorem dX11_drawn_0 : decode cX11_drawn 0 = .ok (.iload_n 1, 1) := by decide +kernel
theorem dX11_drawn_1 : decode cX11_drawn 1 = .ok (.invokestatic 113, 3) := by decide +kernel
theorem dX11_drawn_4 : decode cX11_drawn 4 = .ok (.ifCond .eq 36, 3) := by decide +kernel
theorem dX11_drawn_7 : decode cX11_drawn 7 = .ok (.iload_n 2, 1) := by decide +kernel
theorem dX11_drawn_8 : decode cX11_drawn 8 = .ok (.ifCond .lt 32, 3) := by decide +kernel
theorem dX11_drawn_11 : decode cX11_drawn 11 = .ok (.iload_n 2, 1) := by decide +kernel
theorem dX11_drawn_12 : decode cX11_drawn 12 = .ok (.sipush 200, 3) := by decide +kernel
theorem dX11_drawn_15 : decode cX11_drawn 15 = .ok (.if_icmp .gt 25, 3) := by decide +kernel
theorem dX11_drawn_18 : decode cX11_drawn 18 = .ok (.iload_n 3, 1) := by decide +kernel
theorem dX11_drawn_19 : decode cX11_drawn 19 = .ok (.iconst 1, 1) := by decide +kernel
theorem dX11_drawn_20 : decode cX11_drawn 20 = .ok (.if_icmp .lt 20, 3) := by decide +kernel
theorem dX11_drawn_23 : decode cX11_drawn 23 = .ok (.iload_n 3, 1) := by decide +kernel
theorem dX11_drawn_24 : decode cX11_drawn 24 = .ok (.ldc 235, 2) := by decide +kernel
theorem dX11_drawn_26 : decode cX11_drawn 26 = .ok (.if_icmp .gt 14, 3) := by decide +kernel
theorem dX11_drawn_29 : decode cX11_drawn 29 = .ok (.iload 4, 2) := by decide +kernel
theorem dX11_drawn_31 : decode cX11_drawn 31 = .ok (.ifCond .lt 9, 3) := by decide +kernel
theorem dX11_drawn_34 : decode cX11_drawn 34 = .ok (.iload 4, 2) := by decide +kernel
theorem dX11_drawn_36 : decode cX11_drawn 36 = .ok (.iconst 1, 1) := by decide +kernel
theorem dX11_drawn_37 : decode cX11_drawn 37 = .ok (.if_icmp .le 6, 3) := by decide +kernel
theorem dX11_drawn_40 : decode cX11_drawn 40 = .ok (.ldc 65, 2) := by decide +kernel
theorem dX11_drawn_42 : decode cX11_drawn 42 = .ok (.ireturn, 1) := by decide +kernel
theorem dX11_drawn_43 : decode cX11_drawn 43 = .ok (.aload_n 0, 1) := by decide +kernel
theorem dX11_drawn_44 : decode cX11_drawn 44 = .ok (.getfield 29, 3) := by decide +kernel
theorem dX11_drawn_47 : decode cX11_drawn 47 = .ok (.aload_n 0, 1) := by decide +kernel
theorem dX11_drawn_48 : decode cX11_drawn 48 = .ok (.getfield 17, 3) := by decide +kernel
theorem dX11_drawn_51 : decode cX11_drawn 51 = .ok (.iload_n 1, 1) := by decide +kernel
theorem dX11_drawn_52 : decode cX11_drawn 52 = .ok (.aaload, 1) := by decide +kernel
theorem dX11_drawn_53 : decode cX11_drawn 53 = .ok (.invokevirtual 236, 3) := by decide +kernel
theorem dX11_drawn_56 : decode cX11_drawn 56 = .ok (.iload_n 3, 1) := by decide +kernel
theorem dX11_drawn_57 : decode cX11_drawn 57 = .ok (.i2l, 1) := by decide +kernel
theorem dX11_drawn_58 : decode cX11_drawn 58 = .ok (.lstore 5, 2) := by decide +kernel
theorem dX11_drawn_60 : decode cX11_drawn 60 = .ok (.iconst 0, 1) := by decide +kernel
theorem dX11_drawn_61 : decode cX11_drawn 61 = .ok (.istore 7, 2) := by decide +kernel
theorem dX11_drawn_63 : decode cX11_drawn 63 = .ok (.iload 7, 2) := by decide +kernel
theorem dX11_drawn_65 : decode cX11_drawn 65 = .ok (.iload_n 2, 1) := by decide +kernel
theorem dX11_drawn_66 : decode cX11_drawn 66 = .ok (.if_icmp .ge 65, 3) := by decide +kernel
theorem dX11_drawn_69 : decode cX11_drawn 69 = .ok (.aload_n 0, 1) := by decide +kernel
theorem dX11_drawn_70 : decode cX11_drawn 70 = .ok (.getfield 29, 3) := by decide +kernel
theorem dX11_drawn_73 : decode cX11_drawn 73 = .ok (.getfield 148, 3) := by decide +kernel
theorem dX11_drawn_76 : decode cX11_drawn 76 = .ok (.ifCond .le 55, 3) := by decide +kernel
theorem dX11_drawn_79 : decode cX11_drawn 79 = .ok (.lload 5, 2) := by decide +kernel
theorem dX11_drawn_81 : decode cX11_drawn 81 = .ok (.ldc2_w 240, 3) := by decide +kernel
theorem dX11_drawn_84 : decode cX11_drawn 84 = .ok (.lmul, 1) := by decide +kernel
theorem dX11_drawn_85 : decode cX11_drawn 85 = .ok (.ldc2_w 242, 3) := by decide +kernel
theorem dX11_drawn_88 : decode cX11_drawn 88 = .ok (.lrem, 1) := by decide +kernel
theorem dX11_drawn_89 : decode cX11_drawn 89 = .ok (.lstore 5, 2) := by decide +kernel
theorem dX11_drawn_91 : decode cX11_drawn 91 = .ok (.lload 5, 2) := by decide +kernel
theorem dX11_drawn_93 : decode cX11_drawn 93 = .ok (.aload_n 0, 1) := by decide +kernel
theorem dX11_drawn_94 : decode cX11_drawn 94 = .ok (.getfield 29, 3) := by decide +kernel
theorem dX11_drawn_97 : decode cX11_drawn 97 = .ok (.getfield 148, 3) := by decide +kernel
theorem dX11_drawn_100 : decode cX11_drawn 100 = .ok (.i2l, 1) := by decide +kernel
theorem dX11_drawn_101 : decode cX11_drawn 101 = .ok (.lrem, 1) := by decide +kernel
theorem dX11_drawn_102 : decode cX11_drawn 102 = .ok (.l2i, 1) := by decide +kernel
theorem dX11_drawn_103 : decode cX11_drawn 103 = .ok (.istore 8, 2) := by decide +kernel
theorem dX11_drawn_105 : decode cX11_drawn 105 = .ok (.aload_n 0, 1) := by decide +kernel
theorem dX11_drawn_106 : decode cX11_drawn 106 = .ok (.getfield 29, 3) := by decide +kernel
theorem dX11_drawn_109 : decode cX11_drawn 109 = .ok (.iload 8, 2) := by decide +kernel
theorem dX11_drawn_111 : decode cX11_drawn 111 = .ok (.iconst 1, 1) := by decide +kernel
theorem dX11_drawn_112 : decode cX11_drawn 112 = .ok (.aload_n 0, 1) := by decide +kernel
theorem dX11_drawn_113 : decode cX11_drawn 113 = .ok (.getfield 29, 3) := by decide +kernel
theorem dX11_drawn_116 : decode cX11_drawn 116 = .ok (.iload 8, 2) := by decide +kernel
theorem dX11_drawn_118 : decode cX11_drawn 118 = .ok (.invokevirtual 152, 3) := by decide +kernel
theorem dX11_drawn_121 : decode cX11_drawn 121 = .ok (.isub, 1) := by decide +kernel
theorem dX11_drawn_122 : decode cX11_drawn 122 = .ok (.invokevirtual 155, 3) := by decide +kernel
theorem dX11_drawn_125 : decode cX11_drawn 125 = .ok (.iinc 7 1, 3) := by decide +kernel
theorem dX11_drawn_128 : decode cX11_drawn 128 = .ok (.goto (-65), 3) := by decide +kernel
theorem dX11_drawn_131 : decode cX11_drawn 131 = .ok (.iload 4, 2) := by decide +kernel
theorem dX11_drawn_133 : decode cX11_drawn 133 = .ok (.ifCond .ne 13, 3) := by decide +kernel
theorem dX11_drawn_136 : decode cX11_drawn 136 = .ok (.aload_n 0, 1) := by decide +kernel
theorem dX11_drawn_137 : decode cX11_drawn 137 = .ok (.getfield 29, 3) := by decide +kernel
theorem dX11_drawn_140 : decode cX11_drawn 140 = .ok (.invokevirtual 167, 3) := by decide +kernel
theorem dX11_drawn_143 : decode cX11_drawn 143 = .ok (.goto 10, 3) := by decide +kernel
theorem dX11_drawn_146 : decode cX11_drawn 146 = .ok (.aload_n 0, 1) := by decide +kernel
theorem dX11_drawn_147 : decode cX11_drawn 147 = .ok (.getfield 29, 3) := by decide +kernel
theorem dX11_drawn_150 : decode cX11_drawn 150 = .ok (.invokevirtual 208, 3) := by decide +kernel
theorem dX11_drawn_153 : decode cX11_drawn 153 = .ok (.ireturn, 1) := by decide +kernel
set_option maxRecDepth 20000 in
set_option maxHeartbeats 4000000 in
theorem L_X11_drawn_63 (K : xK) (L : xL) : ∀ (n : Nat) (a0 : Nat) (a2 : Int32) (a4 : Int32) (a5 : Int64) (a7 : Int32) (h : xH), Sim K L cX11_drawn RX11 "drawn" 9 4 (fun q : Int64 × Int32 × xH => q.2.2) (fun q pc' ls' st' h' => pc' = 131 ∧ ls' = [(0, .ref a0), (2, .int a2), (4, .int a4), (5, .long q.1), (7, .int q.2.1)] ∧ st' = [] ∧ h' = q.2.2) 63 [(0, .ref a0), (2, .int a2), (4, .int a4), (5, .long a5), (7, .int a7)] [] h (f_X11_drawn_L63 n a0 a2 a4 a5 a7 h) := by
  intro n
  induction n with
  | zero =>
    intro a0 a2 a4 a5 a7 h
    exact Sim.none
  | succ n ih =>
    intro a0 a2 a4 a5 a7 h
    unfold f_X11_drawn_L63
    refine S_iload (pc := 63) 4 rfl dX11_drawn_63 ?_
    refine S_iload_n (pc := 65) 1 rfl dX11_drawn_65 rfl ?_
    refine S_icmp_ge (pc := 66) (tgt := 131) dX11_drawn_66 (by decide) ?_ ?_
    · refine S_sub [0, 1, 2, 3, 4] rfl ?_
      exact Sim.fin ⟨rfl, rfl, rfl, rfl⟩ rfl
    · refine S_aload_n (pc := 69) 0 rfl dX11_drawn_69 rfl ?_
      refine S_getR (pc := 70) fd_X11_scratch wd_193 dX11_drawn_70 (fun v6 => ?_)
      refine S_getI (pc := 73) fd_X1_length wd_81 dX11_drawn_73 (fun v7 => ?_)
      refine S_if_le (pc := 76) (tgt := 131) dX11_drawn_76 (by decide) ?_ ?_
      · refine S_sub [0, 1, 2, 3, 4] rfl ?_
        exact Sim.fin ⟨rfl, rfl, rfl, rfl⟩ rfl
      · refine S_lload (pc := 79) 3 rfl dX11_drawn_79 ?_
        refine S_ldc2 (pc := 81) wd_666 dX11_drawn_81 ?_
        refine S_lmul (pc := 84) dX11_drawn_84 ?_
        refine S_ldc2 (pc := 85) wd_667 dX11_drawn_85 ?_
        refine S_lrem (pc := 88) (by decide) dX11_drawn_88 ?_
        refine S_lstore (pc := 89) dX11_drawn_89 (Nat.le_of_ble_eq_true rfl) rfl ?_
        refine S_lload (pc := 91) 0 rfl dX11_drawn_91 ?_
        refine S_aload_n (pc := 93) 1 rfl dX11_drawn_93 rfl ?_
        refine S_getR (pc := 94) fd_X11_scratch wd_193 dX11_drawn_94 (fun v8 => ?_)
        refine S_getI (pc := 97) fd_X1_length wd_81 dX11_drawn_97 (fun v9 => ?_)
        refine S_i2l (pc := 100) dX11_drawn_100 ?_
        refine Sim.ite (fun _ => Sim.none) (fun hz10 => ?_)
        refine S_lrem (pc := 101) hz10 dX11_drawn_101 ?_
        refine S_l2i (pc := 102) dX11_drawn_102 ?_
        refine S_istore (pc := 103) dX11_drawn_103 (Nat.le_of_ble_eq_true rfl) rfl ?_
        refine S_aload_n (pc := 105) 2 rfl dX11_drawn_105 rfl ?_
        refine S_getR (pc := 106) fd_X11_scratch wd_193 dX11_drawn_106 (fun v11 => ?_)
        refine S_iload (pc := 109) 0 rfl dX11_drawn_109 ?_
        refine S_iconst (pc := 111) dX11_drawn_111 ic_1 ?_
        refine S_aload_n (pc := 112) 2 rfl dX11_drawn_112 rfl ?_
        refine S_getR (pc := 113) fd_X11_scratch wd_193 dX11_drawn_113 (fun v12 => ?_)
        refine S_iload (pc := 116) 0 rfl dX11_drawn_116 ?_
        refine S_call_i (pc := 118) (rest := [.int (1 : Int32), .int ((((a5 * (16807 : Int64)) - (a5 * (16807 : Int64)) / (2147483647 : Int64) * (2147483647 : Int64)) - ((a5 * (16807 : Int64)) - (a5 * (16807 : Int64)) / (2147483647 : Int64) * (2147483647 : Int64)) / v9.toInt64 * v9.toInt64).toInt32), .ref v11]) (fun q hq => (x_if hq).elim (fun z => R_V (av := [.int ((((a5 * (16807 : Int64)) - (a5 * (16807 : Int64)) / (2147483647 : Int64) * (2147483647 : Int64)) - ((a5 * (16807 : Int64)) - (a5 * (16807 : Int64)) / (2147483647 : Int64) * (2147483647 : Int64)) / v9.toInt64 * v9.toInt64).toInt32)]) (q := (RX1, TX1, 2)) (M_X1_bitAt _ v12 ((((a5 * (16807 : Int64)) - (a5 * (16807 : Int64)) / (2147483647 : Int64) * (2147483647 : Int64)) - ((a5 * (16807 : Int64)) - (a5 * (16807 : Int64)) / (2147483647 : Int64) * (2147483647 : Int64)) / v9.toInt64 * v9.toInt64).toInt32) h z.2) z.1 rfl wd_454 wd_451 wd_452 wd_45 wd_453 ⟨rfl, hd_X1_bitAt⟩ ⟨Nat.le_of_ble_eq_true rfl, Nat.le_of_ble_eq_true rfl⟩ rfl (Nat.le_of_ble_eq_true rfl) dX11_drawn_118) (fun hq => (by cases hq))) (fun _ h => List.mem_cons_of_mem _ (List.mem_cons_of_mem _ (h))) (fun q13 => ?_)
        refine S_isub (pc := 121) dX11_drawn_121 ?_
        refine S_call_v (pc := 122) (rest := []) (fun q hq => (x_if hq).elim (fun z => R_V (av := [.int ((((a5 * (16807 : Int64)) - (a5 * (16807 : Int64)) / (2147483647 : Int64) * (2147483647 : Int64)) - ((a5 * (16807 : Int64)) - (a5 * (16807 : Int64)) / (2147483647 : Int64) * (2147483647 : Int64)) / v9.toInt64 * v9.toInt64).toInt32), .int ((1 : Int32) - q13.1)]) (q := (RX1, TX1, 2)) (M_X1_write _ v11 ((((a5 * (16807 : Int64)) - (a5 * (16807 : Int64)) / (2147483647 : Int64) * (2147483647 : Int64)) - ((a5 * (16807 : Int64)) - (a5 * (16807 : Int64)) / (2147483647 : Int64) * (2147483647 : Int64)) / v9.toInt64 * v9.toInt64).toInt32) ((1 : Int32) - q13.1) q13.2 z.2) z.1 rfl wd_439 wd_455 wd_437 wd_45 wd_438 ⟨rfl, hd_X1_write⟩ ⟨Nat.le_of_ble_eq_true rfl, Nat.le_of_ble_eq_true rfl⟩ rfl (Nat.le_of_ble_eq_true rfl) dX11_drawn_122) (fun hq => (by cases hq))) (fun _ h => absurd h List.not_mem_nil) (fun q14 => ?_)
        refine S_iinc (pc := 125) (v := a7 + (1 : Int32)) 5 rfl dX11_drawn_125 (x_inc ic_1) (Nat.le_of_ble_eq_true rfl) rfl ?_
        refine S_goto (pc := 128) (tgt := 63) dX11_drawn_128 (by decide) ?_
        refine S_sub [3, 4, 5, 2, 0] rfl ?_
        exact ih a0 a2 a4 ((a5 * (16807 : Int64)) - (a5 * (16807 : Int64)) / (2147483647 : Int64) * (2147483647 : Int64)) (a7 + (1 : Int32)) q14
set_option maxRecDepth 20000 in
set_option maxHeartbeats 4000000 in
theorem W_X11_drawn (K : xK) (L : xL) (a0 : Nat) (a1 : Int32) (a2 : Int32) (a3 : Int32) (a4 : Int32) (h : xH) : Sim K L cX11_drawn RX11 "drawn" 9 4 (fun q : Int32 × xH => q.2) (xRi cX11_drawn) 0 [(0, .ref a0), (1, .int a1), (2, .int a2), (3, .int a3), (4, .int a4)] [] h (f_X11_drawn a0 a1 a2 a3 a4 h) := by
  unfold f_X11_drawn
  refine S_iload_n (pc := 0) 1 rfl dX11_drawn_0 rfl ?_
  refine S_call_i (pc := 1) (rest := []) (fun q hq => R_S (av := [.int a1]) (M_X11_isVector _ a1 h hq) wd_293 wd_291 wd_292 wd_44 hd_X11_isVector ⟨Nat.le_of_ble_eq_true rfl, Nat.le_of_ble_eq_true rfl⟩ rfl (Nat.le_of_ble_eq_true rfl) dX11_drawn_1) (fun _ h => absurd h List.not_mem_nil) (fun q1 => ?_)
  refine S_if_eq (pc := 4) (tgt := 40) dX11_drawn_4 (by decide) ?_ ?_
  · refine S_ldc (pc := 40) wd_233 dX11_drawn_40 ?_
    exact Sim.fin ⟨dX11_drawn_42, rfl, rfl⟩ rfl
  · refine S_iload_n (pc := 7) 2 rfl dX11_drawn_7 rfl ?_
    refine S_if_lt (pc := 8) (tgt := 40) dX11_drawn_8 (by decide) ?_ ?_
    · refine S_ldc (pc := 40) wd_233 dX11_drawn_40 ?_
      exact Sim.fin ⟨dX11_drawn_42, rfl, rfl⟩ rfl
    · refine S_iload_n (pc := 11) 2 rfl dX11_drawn_11 rfl ?_
      refine S_sipush (pc := 12) dX11_drawn_12 si_200 ?_
      refine S_icmp_gt (pc := 15) (tgt := 40) dX11_drawn_15 (by decide) ?_ ?_
      · refine S_ldc (pc := 40) wd_233 dX11_drawn_40 ?_
        exact Sim.fin ⟨dX11_drawn_42, rfl, rfl⟩ rfl
      · refine S_iload_n (pc := 18) 3 rfl dX11_drawn_18 rfl ?_
        refine S_iconst (pc := 19) dX11_drawn_19 ic_1 ?_
        refine S_icmp_lt (pc := 20) (tgt := 40) dX11_drawn_20 (by decide) ?_ ?_
        · refine S_ldc (pc := 40) wd_233 dX11_drawn_40 ?_
          exact Sim.fin ⟨dX11_drawn_42, rfl, rfl⟩ rfl
        · refine S_iload_n (pc := 23) 3 rfl dX11_drawn_23 rfl ?_
          refine S_ldc (pc := 24) wd_664 dX11_drawn_24 ?_
          refine S_icmp_gt (pc := 26) (tgt := 40) dX11_drawn_26 (by decide) ?_ ?_
          · refine S_ldc (pc := 40) wd_233 dX11_drawn_40 ?_
            exact Sim.fin ⟨dX11_drawn_42, rfl, rfl⟩ rfl
          · refine S_iload (pc := 29) 4 rfl dX11_drawn_29 ?_
            refine S_if_lt (pc := 31) (tgt := 40) dX11_drawn_31 (by decide) ?_ ?_
            · refine S_ldc (pc := 40) wd_233 dX11_drawn_40 ?_
              exact Sim.fin ⟨dX11_drawn_42, rfl, rfl⟩ rfl
            · refine S_iload (pc := 34) 4 rfl dX11_drawn_34 ?_
              refine S_iconst (pc := 36) dX11_drawn_36 ic_1 ?_
              refine S_icmp_le (pc := 37) (tgt := 43) dX11_drawn_37 (by decide) ?_ ?_
              · refine S_aload_n (pc := 43) 0 rfl dX11_drawn_43 rfl ?_
                refine S_getR (pc := 44) fd_X11_scratch wd_193 dX11_drawn_44 (fun v2 => ?_)
                refine S_aload_n (pc := 47) 0 rfl dX11_drawn_47 rfl ?_
                refine S_getR (pc := 48) fd_X11_vectors wd_190 dX11_drawn_48 (fun v3 => ?_)
                refine S_iload_n (pc := 51) 1 rfl dX11_drawn_51 rfl ?_
                refine S_aR (pc := 52) (fun _ => rfl) dX11_drawn_52 (fun v4 => ?_)
                refine S_call_v (pc := 53) (rest := []) (fun q hq => (x_if hq).elim (fun z => R_V (av := [.ref v4]) (q := (RX1, TX1, 2)) (M_X1_copyFrom _ v2 v4 q1.2 z.2) z.1 rfl wd_402 wd_665 wd_400 wd_45 wd_401 ⟨rfl, hd_X1_copyFrom⟩ ⟨Nat.le_of_ble_eq_true rfl, Nat.le_of_ble_eq_true rfl⟩ rfl (Nat.le_of_ble_eq_true rfl) dX11_drawn_53) (fun hq => (by cases hq))) (fun _ h => absurd h List.not_mem_nil) (fun q5 => ?_)
                refine S_iload_n (pc := 56) 3 rfl dX11_drawn_56 rfl ?_
                refine S_i2l (pc := 57) dX11_drawn_57 ?_
                refine S_lstore (pc := 58) dX11_drawn_58 (Nat.le_of_ble_eq_true rfl) rfl ?_
                refine S_iconst (pc := 60) dX11_drawn_60 ic_0 ?_
                refine S_istore (pc := 61) dX11_drawn_61 (Nat.le_of_ble_eq_true rfl) rfl ?_
                refine S_sub [2, 4, 6, 1, 0] rfl ?_
                refine Sim.bind (hs := fun q15 : Int64 × Int32 × xH => q15.2.2) (px := 131) (lsx := fun q15 => [(0, .ref a0), (2, .int a2), (4, .int a4), (5, .long q15.1), (7, .int q15.2.1)]) (L_X11_drawn_63 K L xN a0 a2 a4 a3.toInt64 (0 : Int32) q5) (fun q15 => ?_)
                refine S_iload (pc := 131) 2 rfl dX11_drawn_131 ?_
                refine S_if_ne (pc := 133) (tgt := 146) dX11_drawn_133 (by decide) ?_ ?_
                · refine S_aload_n (pc := 136) 0 rfl dX11_drawn_136 rfl ?_
                  refine S_getR (pc := 137) fd_X11_scratch wd_193 dX11_drawn_137 (fun v16 => ?_)
                  refine S_call_i (pc := 140) (rest := []) (fun q hq => (x_if hq).elim (fun z => R_V (av := []) (q := (RX1, TX1, 2)) (M_X1_countOnes _ v16 q15.2.2 z.2) z.1 rfl wd_493 wd_490 wd_491 wd_45 wd_492 ⟨rfl, hd_X1_countOnes⟩ ⟨Nat.le_of_ble_eq_true rfl, Nat.le_of_ble_eq_true rfl⟩ rfl (Nat.le_of_ble_eq_true rfl) dX11_drawn_140) (fun hq => (by cases hq))) (fun _ h => absurd h List.not_mem_nil) (fun q17 => ?_)
                  refine S_goto (pc := 143) (tgt := 153) dX11_drawn_143 (by decide) ?_
                  exact Sim.fin ⟨dX11_drawn_153, rfl, rfl⟩ rfl
                · refine S_aload_n (pc := 146) 0 rfl dX11_drawn_146 rfl ?_
                  refine S_getR (pc := 147) fd_X11_scratch wd_193 dX11_drawn_147 (fun v18 => ?_)
                  refine S_call_i (pc := 150) (rest := []) (fun q hq => (x_if hq).elim (fun z => R_V (av := []) (q := (RX1, TX1, 2)) (M_X1_payloadBits _ v18 q15.2.2 z.2) z.1 rfl wd_586 wd_583 wd_584 wd_45 wd_585 ⟨rfl, hd_X1_payloadBits⟩ ⟨Nat.le_of_ble_eq_true rfl, Nat.le_of_ble_eq_true rfl⟩ rfl (Nat.le_of_ble_eq_true rfl) dX11_drawn_150) (fun hq => (by cases hq))) (fun _ h => absurd h List.not_mem_nil) (fun q19 => ?_)
                  exact Sim.fin ⟨dX11_drawn_153, rfl, rfl⟩ rfl
              · refine S_ldc (pc := 40) wd_233 dX11_drawn_40 ?_
                exact Sim.fin ⟨dX11_drawn_42, rfl, rfl⟩ rfl
theorem M_X11_drawn (l : Launch) (a0 : Nat) (a1 : Int32) (a2 : Int32) (a3 : Int32) (a4 : Int32) (h : xH) {q : Int32 × xH} (hq : f_X11_drawn a0 a1 a2 a3 a4 h = some q) : xM l yX11_drawn cX11_drawn 9 (some .int) 4 [.ref a0, .int a1, .int a2, .int a3, .int a4] h (some (.int q.1)) q.2 := xM_i (by decide +kernel) (Nat.le_of_ble_eq_true rfl) (fun K L => W_X11_drawn K L a0 a1 a2 a3 a4 h) hq
theorem dX11_drop_0 : decode cX11_drop 0 = .ok (.iload_n 1, 1) := by decide +kernel
theorem dX11_drop_1 : decode cX11_drop 1 = .ok (.invokestatic 61, 3) := by decide +kernel
theorem dX11_drop_4 : decode cX11_drop 4 = .ok (.ifCond .ne 6, 3) := by decide +kernel
theorem dX11_drop_7 : decode cX11_drop 7 = .ok (.ldc 65, 2) := by decide +kernel
theorem dX11_drop_9 : decode cX11_drop 9 = .ok (.ireturn, 1) := by decide +kernel
theorem dX11_drop_10 : decode cX11_drop 10 = .ok (.aload_n 0, 1) := by decide +kernel
theorem dX11_drop_11 : decode cX11_drop 11 = .ok (.getfield 11, 3) := by decide +kernel
theorem dX11_drop_14 : decode cX11_drop 14 = .ok (.iload_n 1, 1) := by decide +kernel
theorem dX11_drop_15 : decode cX11_drop 15 = .ok (.aaload, 1) := by decide +kernel
theorem dX11_drop_16 : decode cX11_drop 16 = .ok (.getfield 77, 3) := by decide +kernel
theorem dX11_drop_19 : decode cX11_drop 19 = .ok (.ifCond .eq 9, 3) := by decide +kernel
theorem dX11_drop_22 : decode cX11_drop 22 = .ok (.aload_n 0, 1) := by decide +kernel
theorem dX11_drop_23 : decode cX11_drop 23 = .ok (.iconst 1, 1) := by decide +kernel
theorem dX11_drop_24 : decode cX11_drop 24 = .ok (.invokevirtual 66, 3) := by decide +kernel
theorem dX11_drop_27 : decode cX11_drop 27 = .ok (.ireturn, 1) := by decide +kernel
theorem dX11_drop_28 : decode cX11_drop 28 = .ok (.aload_n 0, 1) := by decide +kernel
theorem dX11_drop_29 : decode cX11_drop 29 = .ok (.getfield 11, 3) := by decide +kernel
theorem dX11_drop_32 : decode cX11_drop 32 = .ok (.iload_n 1, 1) := by decide +kernel
theorem dX11_drop_33 : decode cX11_drop 33 = .ok (.aaload, 1) := by decide +kernel
theorem dX11_drop_34 : decode cX11_drop 34 = .ok (.iconst 1, 1) := by decide +kernel
theorem dX11_drop_35 : decode cX11_drop 35 = .ok (.putfield 77, 3) := by decide +kernel
theorem dX11_drop_38 : decode cX11_drop 38 = .ok (.aload_n 0, 1) := by decide +kernel
theorem dX11_drop_39 : decode cX11_drop 39 = .ok (.aload_n 0, 1) := by decide +kernel
theorem dX11_drop_40 : decode cX11_drop 40 = .ok (.getfield 11, 3) := by decide +kernel
theorem dX11_drop_43 : decode cX11_drop 43 = .ok (.iload_n 1, 1) := by decide +kernel
theorem dX11_drop_44 : decode cX11_drop 44 = .ok (.aaload, 1) := by decide +kernel
theorem dX11_drop_45 : decode cX11_drop 45 = .ok (.getfield 81, 3) := by decide +kernel
theorem dX11_drop_48 : decode cX11_drop 48 = .ok (.invokevirtual 74, 3) := by decide +kernel
theorem dX11_drop_51 : decode cX11_drop 51 = .ok (.ireturn, 1) := by decide +kernel
set_option maxRecDepth 20000 in
set_option maxHeartbeats 4000000 in
theorem W_X11_drop (K : xK) (L : xL) (a0 : Nat) (a1 : Int32) (h : xH) : Sim K L cX11_drop RX11 "drop" 2 1 (fun q : Int32 × xH => q.2) (xRi cX11_drop) 0 [(0, .ref a0), (1, .int a1)] [] h (f_X11_drop a0 a1 h) := by
  unfold f_X11_drop
  refine S_iload_n (pc := 0) 1 rfl dX11_drop_0 rfl ?_
  refine S_call_i (pc := 1) (rest := []) (fun q hq => R_S (av := [.int a1]) (M_X11_isRow _ a1 h hq) wd_232 wd_230 wd_231 wd_44 hd_X11_isRow ⟨Nat.le_of_ble_eq_true rfl, Nat.le_of_ble_eq_true rfl⟩ rfl (Nat.le_of_ble_eq_true rfl) dX11_drop_1) (fun _ h => absurd h List.not_mem_nil) (fun q1 => ?_)
  refine S_if_ne (pc := 4) (tgt := 10) dX11_drop_4 (by decide) ?_ ?_
  · refine S_ldc (pc := 7) wd_233 dX11_drop_7 ?_
    exact Sim.fin ⟨dX11_drop_9, rfl, rfl⟩ rfl
  · refine S_aload_n (pc := 10) 0 rfl dX11_drop_10 rfl ?_
    refine S_getR (pc := 11) fd_X11_rows wd_189 dX11_drop_11 (fun v2 => ?_)
    refine S_iload_n (pc := 14) 1 rfl dX11_drop_14 rfl ?_
    refine S_aR (pc := 15) (fun _ => rfl) dX11_drop_15 (fun v3 => ?_)
    refine S_getI (pc := 16) fd_X5_missing wd_175 dX11_drop_16 (fun v4 => ?_)
    refine S_if_eq (pc := 19) (tgt := 28) dX11_drop_19 (by decide) ?_ ?_
    · refine S_aload_n (pc := 28) 0 rfl dX11_drop_28 rfl ?_
      refine S_getR (pc := 29) fd_X11_rows wd_189 dX11_drop_29 (fun v5 => ?_)
      refine S_iload_n (pc := 32) 1 rfl dX11_drop_32 rfl ?_
      refine S_aR (pc := 33) (fun _ => rfl) dX11_drop_33 (fun v6 => ?_)
      refine S_iconst (pc := 34) dX11_drop_34 ic_1 ?_
      refine S_putI (pc := 35) fd_X5_missing wd_175 rfl rfl dX11_drop_35 (fun h7 => ?_)
      refine S_aload_n (pc := 38) 0 rfl dX11_drop_38 rfl ?_
      refine S_aload_n (pc := 39) 0 rfl dX11_drop_39 rfl ?_
      refine S_getR (pc := 40) fd_X11_rows wd_189 dX11_drop_40 (fun v8 => ?_)
      refine S_iload_n (pc := 43) 1 rfl dX11_drop_43 rfl ?_
      refine S_aR (pc := 44) (fun _ => rfl) dX11_drop_44 (fun v9 => ?_)
      refine S_getI (pc := 45) fd_X5_length wd_179 dX11_drop_45 (fun v10 => ?_)
      refine S_call_i (pc := 48) (rest := []) (fun q hq => (x_if hq).elim (fun z => R_V (av := [.int v10]) (q := (RX11, TX11, 12)) (M_X11_fine _ a0 v10 h7 z.2) z.1 rfl wd_249 wd_246 wd_248 wd_44 wd_1 ⟨rfl, hd_X11_fine⟩ ⟨Nat.le_of_ble_eq_true rfl, Nat.le_of_ble_eq_true rfl⟩ rfl (Nat.le_of_ble_eq_true rfl) dX11_drop_48) (fun hq => (by cases hq))) (fun _ h => absurd h List.not_mem_nil) (fun q11 => ?_)
      exact Sim.fin ⟨dX11_drop_51, rfl, rfl⟩ rfl
    · refine S_aload_n (pc := 22) 0 rfl dX11_drop_22 rfl ?_
      refine S_iconst (pc := 23) dX11_drop_23 ic_1 ?_
      refine S_call_i (pc := 24) (rest := []) (fun q hq => (x_if hq).elim (fun z => R_V (av := [.int (1 : Int32)]) (q := (RX11, TX11, 12)) (M_X11_found _ a0 (1 : Int32) q1.2 z.2) z.1 rfl wd_237 wd_234 wd_236 wd_44 wd_0 ⟨rfl, hd_X11_found⟩ ⟨Nat.le_of_ble_eq_true rfl, Nat.le_of_ble_eq_true rfl⟩ rfl (Nat.le_of_ble_eq_true rfl) dX11_drop_24) (fun hq => (by cases hq))) (fun _ h => absurd h List.not_mem_nil) (fun q12 => ?_)
      exact Sim.fin ⟨dX11_drop_27, rfl, rfl⟩ rfl
theorem M_X11_drop (l : Launch) (a0 : Nat) (a1 : Int32) (h : xH) {q : Int32 × xH} (hq : f_X11_drop a0 a1 h = some q) : xM l yX11_drop cX11_drop 2 (some .int) 1 [.ref a0, .int a1] h (some (.int q.1)) q.2 := xM_i (by decide +kernel) (Nat.le_of_ble_eq_true rfl) (fun K L => W_X11_drop K L a0 a1 h) hq
