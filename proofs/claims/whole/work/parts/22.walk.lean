theorem dX1_entryCount_0 : decode cX1_entryCount 0 = .ok (.aload_n 0, 1) := by decide +kernel
theorem dX1_entryCount_1 : decode cX1_entryCount 1 = .ok (.invokevirtual 67, 3) := by decide +kernel
theorem dX1_entryCount_4 : decode cX1_entryCount 4 = .ok (.iconst 4, 1) := by decide +kernel
theorem dX1_entryCount_5 : decode cX1_entryCount 5 = .ok (.iadd, 1) := by decide +kernel
theorem dX1_entryCount_6 : decode cX1_entryCount 6 = .ok (.iconst 1, 1) := by decide +kernel
theorem dX1_entryCount_7 : decode cX1_entryCount 7 = .ok (.isub, 1) := by decide +kernel
theorem dX1_entryCount_8 : decode cX1_entryCount 8 = .ok (.iconst 4, 1) := by decide +kernel
theorem dX1_entryCount_9 : decode cX1_entryCount 9 = .ok (.idiv, 1) := by decide +kernel
theorem dX1_entryCount_10 : decode cX1_entryCount 10 = .ok (.ireturn, 1) := by decide +kernel
set_option maxRecDepth 20000 in
set_option maxHeartbeats 4000000 in
theorem W_X1_entryCount (K : xK) (L : xL) (a0 : Nat) (h : xH) : Sim K L cX1_entryCount RX1 "entryCount" 1 1 (fun q : Int32 × xH => q.2) (xRi cX1_entryCount) 0 [(0, .ref a0)] [] h (f_X1_entryCount a0 h) := by
  unfold f_X1_entryCount
  refine S_aload_n (pc := 0) 0 rfl dX1_entryCount_0 rfl ?_
  refine S_call_i (pc := 1) (rest := []) (fun q hq => (x_if hq).elim (fun z => R_V (av := []) (q := (RX1, TX1, 2)) (M_X1_blockCount _ a0 h z.2) z.1 rfl wd_548 wd_577 wd_546 wd_45 wd_547 ⟨rfl, hd_X1_blockCount⟩ ⟨Nat.le_of_ble_eq_true rfl, Nat.le_of_ble_eq_true rfl⟩ rfl (Nat.le_of_ble_eq_true rfl) dX1_entryCount_1) (fun hq => (by cases hq))) (fun _ h => absurd h List.not_mem_nil) (fun q1 => ?_)
  refine S_iconst (pc := 4) dX1_entryCount_4 ic_4 ?_
  refine S_iadd (pc := 5) dX1_entryCount_5 ?_
  refine S_iconst (pc := 6) dX1_entryCount_6 ic_1 ?_
  refine S_isub (pc := 7) dX1_entryCount_7 ?_
  refine S_iconst (pc := 8) dX1_entryCount_8 ic_4 ?_
  refine S_idiv (pc := 9) (by decide) dX1_entryCount_9 ?_
  exact Sim.fin ⟨dX1_entryCount_10, rfl, rfl⟩ rfl
theorem M_X1_entryCount (l : Launch) (a0 : Nat) (h : xH) {q : Int32 × xH} (hq : f_X1_entryCount a0 h = some q) : xM l yX1_entryCount cX1_entryCount 1 (some .int) 1 [.ref a0] h (some (.int q.1)) q.2 := xM_i (by decide +kernel) (Nat.le_of_ble_eq_true rfl) (fun K L => W_X1_entryCount K L a0 h) hq
theorem dX11_entry_0 : decode cX11_entry 0 = .ok (.iload_n 1, 1) := by decide +kernel
theorem dX11_entry_1 : decode cX11_entry 1 = .ok (.invokestatic 113, 3) := by decide +kernel
theorem dX11_entry_4 : decode cX11_entry 4 = .ok (.ifCond .eq 20, 3) := by decide +kernel
theorem dX11_entry_7 : decode cX11_entry 7 = .ok (.iload_n 2, 1) := by decide +kernel
theorem dX11_entry_8 : decode cX11_entry 8 = .ok (.ifCond .lt 16, 3) := by decide +kernel
theorem dX11_entry_11 : decode cX11_entry 11 = .ok (.iload_n 2, 1) := by decide +kernel
theorem dX11_entry_12 : decode cX11_entry 12 = .ok (.aload_n 0, 1) := by decide +kernel
theorem dX11_entry_13 : decode cX11_entry 13 = .ok (.getfield 17, 3) := by decide +kernel
theorem dX11_entry_16 : decode cX11_entry 16 = .ok (.iload_n 1, 1) := by decide +kernel
theorem dX11_entry_17 : decode cX11_entry 17 = .ok (.aaload, 1) := by decide +kernel
theorem dX11_entry_18 : decode cX11_entry 18 = .ok (.invokevirtual 202, 3) := by decide +kernel
theorem dX11_entry_21 : decode cX11_entry 21 = .ok (.if_icmp .lt 6, 3) := by decide +kernel
theorem dX11_entry_24 : decode cX11_entry 24 = .ok (.ldc 65, 2) := by decide +kernel
theorem dX11_entry_26 : decode cX11_entry 26 = .ok (.ireturn, 1) := by decide +kernel
theorem dX11_entry_27 : decode cX11_entry 27 = .ok (.iconst 4, 1) := by decide +kernel
theorem dX11_entry_28 : decode cX11_entry 28 = .ok (.iload_n 2, 1) := by decide +kernel
theorem dX11_entry_29 : decode cX11_entry 29 = .ok (.imul, 1) := by decide +kernel
theorem dX11_entry_30 : decode cX11_entry 30 = .ok (.istore 4, 2) := by decide +kernel
theorem dX11_entry_32 : decode cX11_entry 32 = .ok (.iload_n 3, 1) := by decide +kernel
theorem dX11_entry_33 : decode cX11_entry 33 = .ok (.lookupswitch 54 #[(0, 27), (1, 42)], 27) := by decide +kernel
theorem dX11_entry_60 : decode cX11_entry 60 = .ok (.aload_n 0, 1) := by decide +kernel
theorem dX11_entry_61 : decode cX11_entry 61 = .ok (.getfield 17, 3) := by decide +kernel
theorem dX11_entry_64 : decode cX11_entry 64 = .ok (.iload_n 1, 1) := by decide +kernel
theorem dX11_entry_65 : decode cX11_entry 65 = .ok (.aaload, 1) := by decide +kernel
theorem dX11_entry_66 : decode cX11_entry 66 = .ok (.bipush 15, 2) := by decide +kernel
theorem dX11_entry_68 : decode cX11_entry 68 = .ok (.iload 4, 2) := by decide +kernel
theorem dX11_entry_70 : decode cX11_entry 70 = .ok (.imul, 1) := by decide +kernel
theorem dX11_entry_71 : decode cX11_entry 71 = .ok (.invokevirtual 205, 3) := by decide +kernel
theorem dX11_entry_74 : decode cX11_entry 74 = .ok (.ireturn, 1) := by decide +kernel
theorem dX11_entry_75 : decode cX11_entry 75 = .ok (.aload_n 0, 1) := by decide +kernel
theorem dX11_entry_76 : decode cX11_entry 76 = .ok (.getfield 17, 3) := by decide +kernel
theorem dX11_entry_79 : decode cX11_entry 79 = .ok (.iload_n 1, 1) := by decide +kernel
theorem dX11_entry_80 : decode cX11_entry 80 = .ok (.aaload, 1) := by decide +kernel
theorem dX11_entry_81 : decode cX11_entry 81 = .ok (.iload 4, 2) := by decide +kernel
theorem dX11_entry_83 : decode cX11_entry 83 = .ok (.invokevirtual 199, 3) := by decide +kernel
theorem dX11_entry_86 : decode cX11_entry 86 = .ok (.ireturn, 1) := by decide +kernel
theorem dX11_entry_87 : decode cX11_entry 87 = .ok (.ldc 65, 2) := by decide +kernel
theorem dX11_entry_89 : decode cX11_entry 89 = .ok (.ireturn, 1) := by decide +kernel
set_option maxRecDepth 20000 in
set_option maxHeartbeats 4000000 in
theorem W_X11_entry (K : xK) (L : xL) (a0 : Nat) (a1 : Int32) (a2 : Int32) (a3 : Int32) (h : xH) : Sim K L cX11_entry RX11 "entry" 5 3 (fun q : Int32 × xH => q.2) (xRi cX11_entry) 0 [(0, .ref a0), (1, .int a1), (2, .int a2), (3, .int a3)] [] h (f_X11_entry a0 a1 a2 a3 h) := by
  unfold f_X11_entry
  refine S_iload_n (pc := 0) 1 rfl dX11_entry_0 rfl ?_
  refine S_call_i (pc := 1) (rest := []) (fun q hq => R_S (av := [.int a1]) (M_X11_isVector _ a1 h hq) wd_293 wd_291 wd_292 wd_44 hd_X11_isVector ⟨Nat.le_of_ble_eq_true rfl, Nat.le_of_ble_eq_true rfl⟩ rfl (Nat.le_of_ble_eq_true rfl) dX11_entry_1) (fun _ h => absurd h List.not_mem_nil) (fun q1 => ?_)
  refine S_if_eq (pc := 4) (tgt := 24) dX11_entry_4 (by decide) ?_ ?_
  · refine S_ldc (pc := 24) wd_233 dX11_entry_24 ?_
    exact Sim.fin ⟨dX11_entry_26, rfl, rfl⟩ rfl
  · refine S_iload_n (pc := 7) 2 rfl dX11_entry_7 rfl ?_
    refine S_if_lt (pc := 8) (tgt := 24) dX11_entry_8 (by decide) ?_ ?_
    · refine S_ldc (pc := 24) wd_233 dX11_entry_24 ?_
      exact Sim.fin ⟨dX11_entry_26, rfl, rfl⟩ rfl
    · refine S_iload_n (pc := 11) 2 rfl dX11_entry_11 rfl ?_
      refine S_aload_n (pc := 12) 0 rfl dX11_entry_12 rfl ?_
      refine S_getR (pc := 13) fd_X11_vectors wd_190 dX11_entry_13 (fun v2 => ?_)
      refine S_iload_n (pc := 16) 1 rfl dX11_entry_16 rfl ?_
      refine S_aR (pc := 17) (fun _ => rfl) dX11_entry_17 (fun v3 => ?_)
      refine S_call_i (pc := 18) (rest := [.int a2]) (fun q hq => (x_if hq).elim (fun z => R_V (av := []) (q := (RX1, TX1, 2)) (M_X1_entryCount _ v3 q1.2 z.2) z.1 rfl wd_576 wd_573 wd_574 wd_45 wd_575 ⟨rfl, hd_X1_entryCount⟩ ⟨Nat.le_of_ble_eq_true rfl, Nat.le_of_ble_eq_true rfl⟩ rfl (Nat.le_of_ble_eq_true rfl) dX11_entry_18) (fun hq => (by cases hq))) (fun _ h => List.mem_cons_of_mem _ (h)) (fun q4 => ?_)
      refine S_icmp_lt (pc := 21) (tgt := 27) dX11_entry_21 (by decide) ?_ ?_
      · refine S_iconst (pc := 27) dX11_entry_27 ic_4 ?_
        refine S_iload_n (pc := 28) 2 rfl dX11_entry_28 rfl ?_
        refine S_imul (pc := 29) dX11_entry_29 ?_
        refine S_istore (pc := 30) dX11_entry_30 (Nat.le_of_ble_eq_true rfl) rfl ?_
        refine S_iload_n (pc := 32) 4 rfl dX11_entry_32 rfl ?_
        refine Sim.ite (fun he9 => ?_) (fun hs8 => ?_)
        · refine S_look (pc := 33) (tgt := 60) (off := 27) dX11_entry_33 (by decide) (by rw [he9]; first | done | decide) (by decide) ?_
          refine S_aload_n (pc := 60) 1 rfl dX11_entry_60 rfl ?_
          refine S_getR (pc := 61) fd_X11_vectors wd_190 dX11_entry_61 (fun v5 => ?_)
          refine S_iload_n (pc := 64) 2 rfl dX11_entry_64 rfl ?_
          refine S_aR (pc := 65) (fun _ => rfl) dX11_entry_65 (fun v6 => ?_)
          refine S_bipush (pc := 66) dX11_entry_66 bi_15 ?_
          refine S_iload (pc := 68) 0 rfl dX11_entry_68 ?_
          refine S_imul (pc := 70) dX11_entry_70 ?_
          refine S_call_i (pc := 71) (rest := []) (fun q hq => (x_if hq).elim (fun z => R_V (av := [.int ((15 : Int32) * ((4 : Int32) * a2))]) (q := (RX1, TX1, 2)) (M_X1_onesAhead _ v6 ((15 : Int32) * ((4 : Int32) * a2)) q4.2 z.2) z.1 rfl wd_497 wd_578 wd_495 wd_45 wd_496 ⟨rfl, hd_X1_onesAhead⟩ ⟨Nat.le_of_ble_eq_true rfl, Nat.le_of_ble_eq_true rfl⟩ rfl (Nat.le_of_ble_eq_true rfl) dX11_entry_71) (fun hq => (by cases hq))) (fun _ h => absurd h List.not_mem_nil) (fun q7 => ?_)
          exact Sim.fin ⟨dX11_entry_74, rfl, rfl⟩ rfl
        refine Sim.ite (fun he14 => ?_) (fun hs13 => ?_)
        · refine S_look (pc := 33) (tgt := 75) (off := 42) dX11_entry_33 (by decide) (by rw [he14]; first | done | decide) (by decide) ?_
          refine S_aload_n (pc := 75) 1 rfl dX11_entry_75 rfl ?_
          refine S_getR (pc := 76) fd_X11_vectors wd_190 dX11_entry_76 (fun v10 => ?_)
          refine S_iload_n (pc := 79) 2 rfl dX11_entry_79 rfl ?_
          refine S_aR (pc := 80) (fun _ => rfl) dX11_entry_80 (fun v11 => ?_)
          refine S_iload (pc := 81) 0 rfl dX11_entry_81 ?_
          refine S_call_i (pc := 83) (rest := []) (fun q hq => (x_if hq).elim (fun z => R_V (av := [.int ((4 : Int32) * a2)]) (q := (RX1, TX1, 2)) (M_X1_beginOf _ v11 ((4 : Int32) * a2) q4.2 z.2) z.1 rfl wd_566 wd_563 wd_564 wd_45 wd_565 ⟨rfl, hd_X1_beginOf⟩ ⟨Nat.le_of_ble_eq_true rfl, Nat.le_of_ble_eq_true rfl⟩ rfl (Nat.le_of_ble_eq_true rfl) dX11_entry_83) (fun hq => (by cases hq))) (fun _ h => absurd h List.not_mem_nil) (fun q12 => ?_)
          exact Sim.fin ⟨dX11_entry_86, rfl, rfl⟩ rfl
        refine S_look (pc := 33) (tgt := 87) (off := 54) dX11_entry_33 (by decide) (by show Op.lookupswitch.offset [(0, 27), (1, 42)] 54 _ = _; rw [lv_osw hs8 (show (0 : Int32).toInt = 0 from by decide), lv_osw hs13 (show (1 : Int32).toInt = 1 from by decide)]; first | done | rfl) (by decide) ?_
        refine S_ldc (pc := 87) wd_233 dX11_entry_87 ?_
        exact Sim.fin ⟨dX11_entry_89, rfl, rfl⟩ rfl
      · refine S_ldc (pc := 24) wd_233 dX11_entry_24 ?_
        exact Sim.fin ⟨dX11_entry_26, rfl, rfl⟩ rfl
theorem M_X11_entry (l : Launch) (a0 : Nat) (a1 : Int32) (a2 : Int32) (a3 : Int32) (h : xH) {q : Int32 × xH} (hq : f_X11_entry a0 a1 a2 a3 h = some q) : xM l yX11_entry cX11_entry 5 (some .int) 3 [.ref a0, .int a1, .int a2, .int a3] h (some (.int q.1)) q.2 := xM_i (by decide +kernel) (Nat.le_of_ble_eq_true rfl) (fun K L => W_X11_entry K L a0 a1 a2 a3 h) hq
theorem dX11_fault_0 : decode cX11_fault 0 = .ok (.aload_n 0, 1) := by decide +kernel
theorem dX11_fault_1 : decode cX11_fault 1 = .ok (.getfield 123, 3) := by decide +kernel
theorem dX11_fault_4 : decode cX11_fault 4 = .ok (.ireturn, 1) := by decide +kernel
set_option maxRecDepth 20000 in
set_option maxHeartbeats 4000000 in
theorem W_X11_fault (K : xK) (L : xL) (a0 : Nat) (h : xH) : Sim K L cX11_fault RX11 "fault" 1 0 (fun q : Int32 × xH => q.2) (xRi cX11_fault) 0 [(0, .ref a0)] [] h (f_X11_fault a0 h) := by
  unfold f_X11_fault
  refine S_aload_n (pc := 0) 0 rfl dX11_fault_0 rfl ?_
  refine S_getI (pc := 1) fd_X11_latestFault wd_199 dX11_fault_1 (fun v1 => ?_)
  exact Sim.fin ⟨dX11_fault_4, rfl, rfl⟩ rfl
theorem M_X11_fault (l : Launch) (a0 : Nat) (h : xH) {q : Int32 × xH} (hq : f_X11_fault a0 h = some q) : xM l yX11_fault cX11_fault 1 (some .int) 0 [.ref a0] h (some (.int q.1)) q.2 := xM_i (by decide +kernel) (Nat.le_of_ble_eq_true rfl) (fun K L => W_X11_fault K L a0 h) hq
theorem dX7_hasRoom_0 : decode cX7_hasRoom 0 = .ok (.aload_n 0, 1) := by decide +kernel
theorem dX7_hasRoom_1 : decode cX7_hasRoom 1 = .ok (.getfield 21, 3) := by decide +kernel
theorem dX7_hasRoom_4 : decode cX7_hasRoom 4 = .ok (.bipush 60, 2) := by decide +kernel
theorem dX7_hasRoom_6 : decode cX7_hasRoom 6 = .ok (.if_icmp .ge 7, 3) := by decide +kernel
theorem dX7_hasRoom_9 : decode cX7_hasRoom 9 = .ok (.iconst 1, 1) := by decide +kernel
theorem dX7_hasRoom_10 : decode cX7_hasRoom 10 = .ok (.goto 4, 3) := by decide +kernel
theorem dX7_hasRoom_13 : decode cX7_hasRoom 13 = .ok (.iconst 0, 1) := by decide +kernel
theorem dX7_hasRoom_14 : decode cX7_hasRoom 14 = .ok (.ireturn, 1) := by decide +kernel
set_option maxRecDepth 20000 in
set_option maxHeartbeats 4000000 in
theorem W_X7_hasRoom (K : xK) (L : xL) (a0 : Nat) (h : xH) : Sim K L cX7_hasRoom RX7 "hasRoom" 1 0 (fun q : Int32 × xH => q.2) (xRz cX7_hasRoom) 0 [(0, .ref a0)] [] h (f_X7_hasRoom a0 h) := by
  unfold f_X7_hasRoom
  refine S_aload_n (pc := 0) 0 rfl dX7_hasRoom_0 rfl ?_
  refine S_getI (pc := 1) fd_X7_tapeLength wd_122 dX7_hasRoom_1 (fun v1 => ?_)
  refine S_bipush (pc := 4) dX7_hasRoom_4 bi_60 ?_
  refine S_icmp_ge (pc := 6) (tgt := 13) dX7_hasRoom_6 (by decide) ?_ ?_
  · refine S_iconst (pc := 13) dX7_hasRoom_13 ic_0 ?_
    exact Sim.fin ⟨dX7_hasRoom_14, rfl, rfl, x_nar (Or.inl rfl)⟩ rfl
  · refine S_iconst (pc := 9) dX7_hasRoom_9 ic_1 ?_
    refine S_goto (pc := 10) (tgt := 14) dX7_hasRoom_10 (by decide) ?_
    exact Sim.fin ⟨dX7_hasRoom_14, rfl, rfl, x_nar (Or.inr rfl)⟩ rfl
theorem M_X7_hasRoom (l : Launch) (a0 : Nat) (h : xH) {q : Int32 × xH} (hq : f_X7_hasRoom a0 h = some q) : xM l yX7_hasRoom cX7_hasRoom 1 (some .boolean) 0 [.ref a0] h (some (.int q.1)) q.2 := xM_z (by decide +kernel) (Nat.le_of_ble_eq_true rfl) (fun K L => W_X7_hasRoom K L a0 h) hq
theorem dX7_append_0 : decode cX7_append 0 = .ok (.aload_n 0, 1) := by decide +kernel
theorem dX7_append_1 : decode cX7_append 1 = .ok (.invokevirtual 25, 3) := by decide +kernel
theorem dX7_append_4 : decode cX7_append 4 = .ok (.ifCond .eq 23, 3) := by decide +kernel
theorem dX7_append_7 : decode cX7_append 7 = .ok (.aload_n 0, 1) := by decide +kernel
theorem dX7_append_8 : decode cX7_append 8 = .ok (.getfield 9, 3) := by decide +kernel
theorem dX7_append_11 : decode cX7_append 11 = .ok (.aload_n 0, 1) := by decide +kernel
theorem dX7_append_12 : decode cX7_append 12 = .ok (.getfield 21, 3) := by decide +kernel
theorem dX7_append_15 : decode cX7_append 15 = .ok (.iload_n 1, 1) := by decide +kernel
theorem dX7_append_16 : decode cX7_append 16 = .ok (.iastore, 1) := by decide +kernel
theorem dX7_append_17 : decode cX7_append 17 = .ok (.aload_n 0, 1) := by decide +kernel
theorem dX7_append_18 : decode cX7_append 18 = .ok (.dup, 1) := by decide +kernel
theorem dX7_append_19 : decode cX7_append 19 = .ok (.getfield 21, 3) := by decide +kernel
theorem dX7_append_22 : decode cX7_append 22 = .ok (.iconst 1, 1) := by decide +kernel
theorem dX7_append_23 : decode cX7_append 23 = .ok (.iadd, 1) := by decide +kernel
theorem dX7_append_24 : decode cX7_append 24 = .ok (.putfield 21, 3) := by decide +kernel
theorem dX7_append_27 : decode cX7_append 27 = .ok (.aload_n 0, 1) := by decide +kernel
theorem dX7_append_28 : decode cX7_append 28 = .ok (.getfield 21, 3) := by decide +kernel
theorem dX7_append_31 : decode cX7_append 31 = .ok (.ireturn, 1) := by decide +kernel
set_option maxRecDepth 20000 in
set_option maxHeartbeats 4000000 in
theorem W_X7_append (K : xK) (L : xL) (a0 : Nat) (a1 : Int32) (h : xH) : Sim K L cX7_append RX7 "append" 2 1 (fun q : Int32 × xH => q.2) (xRi cX7_append) 0 [(0, .ref a0), (1, .int a1)] [] h (f_X7_append a0 a1 h) := by
  unfold f_X7_append
  refine S_aload_n (pc := 0) 0 rfl dX7_append_0 rfl ?_
  refine S_call_i (pc := 1) (rest := []) (fun q hq => (x_if hq).elim (fun z => R_V (av := []) (q := (RX7, TX7, 9)) (M_X7_hasRoom _ a0 h z.2) z.1 rfl wd_280 wd_286 wd_278 wd_47 wd_279 ⟨rfl, hd_X7_hasRoom⟩ ⟨Nat.le_of_ble_eq_true rfl, Nat.le_of_ble_eq_true rfl⟩ rfl (Nat.le_of_ble_eq_true rfl) dX7_append_1) (fun hq => (by cases hq))) (fun _ h => absurd h List.not_mem_nil) (fun q1 => ?_)
  refine S_if_eq (pc := 4) (tgt := 27) dX7_append_4 (by decide) ?_ ?_
  · refine S_aload_n (pc := 27) 0 rfl dX7_append_27 rfl ?_
    refine S_getI (pc := 28) fd_X7_tapeLength wd_122 dX7_append_28 (fun v2 => ?_)
    exact Sim.fin ⟨dX7_append_31, rfl, rfl⟩ rfl
  · refine S_aload_n (pc := 7) 0 rfl dX7_append_7 rfl ?_
    refine S_getR (pc := 8) fd_X7_tape wd_117 dX7_append_8 (fun v3 => ?_)
    refine S_aload_n (pc := 11) 0 rfl dX7_append_11 rfl ?_
    refine S_getI (pc := 12) fd_X7_tapeLength wd_122 dX7_append_12 (fun v4 => ?_)
    refine S_iload_n (pc := 15) 1 rfl dX7_append_15 rfl ?_
    refine S_uI (pc := 16) dX7_append_16 (fun h5 => ?_)
    refine S_aload_n (pc := 17) 0 rfl dX7_append_17 rfl ?_
    refine S_dup (pc := 18) rfl dX7_append_18 ?_
    refine S_getI (pc := 19) fd_X7_tapeLength wd_122 dX7_append_19 (fun v6 => ?_)
    refine S_iconst (pc := 22) dX7_append_22 ic_1 ?_
    refine S_iadd (pc := 23) dX7_append_23 ?_
    refine S_putI (pc := 24) fd_X7_tapeLength wd_122 rfl rfl dX7_append_24 (fun h7 => ?_)
    refine S_aload_n (pc := 27) 0 rfl dX7_append_27 rfl ?_
    refine S_getI (pc := 28) fd_X7_tapeLength wd_122 dX7_append_28 (fun v8 => ?_)
    exact Sim.fin ⟨dX7_append_31, rfl, rfl⟩ rfl
theorem M_X7_append (l : Launch) (a0 : Nat) (a1 : Int32) (h : xH) {q : Int32 × xH} (hq : f_X7_append a0 a1 h = some q) : xM l yX7_append cX7_append 2 (some .int) 1 [.ref a0, .int a1] h (some (.int q.1)) q.2 := xM_i (by decide +kernel) (Nat.le_of_ble_eq_true rfl) (fun K L => W_X7_append K L a0 a1 h) hq
theorem dX11_feed_0 : decode cX11_feed 0 = .ok (.iload_n 1, 1) := by decide +kernel
theorem dX11_feed_1 : decode cX11_feed 1 = .ok (.ifCond .lt 10, 3) := by decide +kernel
theorem dX11_feed_4 : decode cX11_feed 4 = .ok (.iload_n 1, 1) := by decide +kernel
theorem dX11_feed_5 : decode cX11_feed 5 = .ok (.sipush 255, 3) := by decide +kernel
theorem dX11_feed_8 : decode cX11_feed 8 = .ok (.if_icmp .le 6, 3) := by decide +kernel
theorem dX11_feed_11 : decode cX11_feed 11 = .ok (.ldc 65, 2) := by decide +kernel
theorem dX11_feed_13 : decode cX11_feed 13 = .ok (.ireturn, 1) := by decide +kernel
theorem dX11_feed_14 : decode cX11_feed 14 = .ok (.aload_n 0, 1) := by decide +kernel
theorem dX11_feed_15 : decode cX11_feed 15 = .ok (.getfield 43, 3) := by decide +kernel
theorem dX11_feed_18 : decode cX11_feed 18 = .ok (.invokevirtual 105, 3) := by decide +kernel
theorem dX11_feed_21 : decode cX11_feed 21 = .ok (.ifCond .ne 6, 3) := by decide +kernel
theorem dX11_feed_24 : decode cX11_feed 24 = .ok (.ldc 109, 2) := by decide +kernel
theorem dX11_feed_26 : decode cX11_feed 26 = .ok (.ireturn, 1) := by decide +kernel
theorem dX11_feed_27 : decode cX11_feed 27 = .ok (.aload_n 0, 1) := by decide +kernel
theorem dX11_feed_28 : decode cX11_feed 28 = .ok (.getfield 43, 3) := by decide +kernel
theorem dX11_feed_31 : decode cX11_feed 31 = .ok (.iload_n 1, 1) := by decide +kernel
theorem dX11_feed_32 : decode cX11_feed 32 = .ok (.invokevirtual 110, 3) := by decide +kernel
theorem dX11_feed_35 : decode cX11_feed 35 = .ok (.ireturn, 1) := by decide +kernel
set_option maxRecDepth 20000 in
set_option maxHeartbeats 4000000 in
theorem W_X11_feed (K : xK) (L : xL) (a0 : Nat) (a1 : Int32) (h : xH) : Sim K L cX11_feed RX11 "feed" 2 2 (fun q : Int32 × xH => q.2) (xRi cX11_feed) 0 [(0, .ref a0), (1, .int a1)] [] h (f_X11_feed a0 a1 h) := by
  unfold f_X11_feed
  refine S_iload_n (pc := 0) 1 rfl dX11_feed_0 rfl ?_
  refine S_if_lt (pc := 1) (tgt := 11) dX11_feed_1 (by decide) ?_ ?_
  · refine S_ldc (pc := 11) wd_233 dX11_feed_11 ?_
    exact Sim.fin ⟨dX11_feed_13, rfl, rfl⟩ rfl
  · refine S_iload_n (pc := 4) 1 rfl dX11_feed_4 rfl ?_
    refine S_sipush (pc := 5) dX11_feed_5 si_255 ?_
    refine S_icmp_le (pc := 8) (tgt := 14) dX11_feed_8 (by decide) ?_ ?_
    · refine S_aload_n (pc := 14) 0 rfl dX11_feed_14 rfl ?_
      refine S_getR (pc := 15) fd_X11_reader wd_195 dX11_feed_15 (fun v1 => ?_)
      refine S_call_i (pc := 18) (rest := []) (fun q hq => (x_if hq).elim (fun z => R_V (av := []) (q := (RX7, TX7, 9)) (M_X7_hasRoom _ v1 h z.2) z.1 rfl wd_280 wd_277 wd_278 wd_47 wd_279 ⟨rfl, hd_X7_hasRoom⟩ ⟨Nat.le_of_ble_eq_true rfl, Nat.le_of_ble_eq_true rfl⟩ rfl (Nat.le_of_ble_eq_true rfl) dX11_feed_18) (fun hq => (by cases hq))) (fun _ h => absurd h List.not_mem_nil) (fun q2 => ?_)
      refine S_if_ne (pc := 21) (tgt := 27) dX11_feed_21 (by decide) ?_ ?_
      · refine S_ldc (pc := 24) wd_281 dX11_feed_24 ?_
        exact Sim.fin ⟨dX11_feed_26, rfl, rfl⟩ rfl
      · refine S_aload_n (pc := 27) 0 rfl dX11_feed_27 rfl ?_
        refine S_getR (pc := 28) fd_X11_reader wd_195 dX11_feed_28 (fun v3 => ?_)
        refine S_iload_n (pc := 31) 1 rfl dX11_feed_31 rfl ?_
        refine S_call_i (pc := 32) (rest := []) (fun q hq => (x_if hq).elim (fun z => R_V (av := [.int a1]) (q := (RX7, TX7, 9)) (M_X7_append _ v3 a1 q2.2 z.2) z.1 rfl wd_285 wd_282 wd_283 wd_47 wd_284 ⟨rfl, hd_X7_append⟩ ⟨Nat.le_of_ble_eq_true rfl, Nat.le_of_ble_eq_true rfl⟩ rfl (Nat.le_of_ble_eq_true rfl) dX11_feed_32) (fun hq => (by cases hq))) (fun _ h => absurd h List.not_mem_nil) (fun q4 => ?_)
        exact Sim.fin ⟨dX11_feed_35, rfl, rfl⟩ rfl
    · refine S_ldc (pc := 11) wd_233 dX11_feed_11 ?_
      exact Sim.fin ⟨dX11_feed_13, rfl, rfl⟩ rfl
theorem M_X11_feed (l : Launch) (a0 : Nat) (a1 : Int32) (h : xH) {q : Int32 × xH} (hq : f_X11_feed a0 a1 h = some q) : xM l yX11_feed cX11_feed 2 (some .int) 2 [.ref a0, .int a1] h (some (.int q.1)) q.2 := xM_i (by decide +kernel) (Nat.le_of_ble_eq_true rfl) (fun K L => W_X11_feed K L a0 a1 h) hq
theorem dX11_get_0 : decode cX11_get 0 = .ok (.iload_n 1, 1) := by decide +kernel
theorem dX11_get_1 : decode cX11_get 1 = .ok (.invokestatic 113, 3) := by decide +kernel
theorem dX11_get_4 : decode cX11_get 4 = .ok (.ifCond .eq 20, 3) := by decide +kernel
theorem dX11_get_7 : decode cX11_get 7 = .ok (.iload_n 2, 1) := by decide +kernel
theorem dX11_get_8 : decode cX11_get 8 = .ok (.ifCond .lt 16, 3) := by decide +kernel
theorem dX11_get_11 : decode cX11_get 11 = .ok (.iload_n 2, 1) := by decide +kernel
theorem dX11_get_12 : decode cX11_get 12 = .ok (.aload_n 0, 1) := by decide +kernel
theorem dX11_get_13 : decode cX11_get 13 = .ok (.getfield 17, 3) := by decide +kernel
theorem dX11_get_16 : decode cX11_get 16 = .ok (.iload_n 1, 1) := by decide +kernel
theorem dX11_get_17 : decode cX11_get 17 = .ok (.aaload, 1) := by decide +kernel
theorem dX11_get_18 : decode cX11_get 18 = .ok (.getfield 148, 3) := by decide +kernel
theorem dX11_get_21 : decode cX11_get 21 = .ok (.if_icmp .lt 6, 3) := by decide +kernel
theorem dX11_get_24 : decode cX11_get 24 = .ok (.ldc 65, 2) := by decide +kernel
theorem dX11_get_26 : decode cX11_get 26 = .ok (.ireturn, 1) := by decide +kernel
theorem dX11_get_27 : decode cX11_get 27 = .ok (.aload_n 0, 1) := by decide +kernel
theorem dX11_get_28 : decode cX11_get 28 = .ok (.getfield 17, 3) := by decide +kernel
theorem dX11_get_31 : decode cX11_get 31 = .ok (.iload_n 1, 1) := by decide +kernel
theorem dX11_get_32 : decode cX11_get 32 = .ok (.aaload, 1) := by decide +kernel
theorem dX11_get_33 : decode cX11_get 33 = .ok (.iload_n 2, 1) := by decide +kernel
theorem dX11_get_34 : decode cX11_get 34 = .ok (.invokevirtual 152, 3) := by decide +kernel
theorem dX11_get_37 : decode cX11_get 37 = .ok (.ireturn, 1) := by decide +kernel
set_option maxRecDepth 20000 in
set_option maxHeartbeats 4000000 in
theorem W_X11_get (K : xK) (L : xL) (a0 : Nat) (a1 : Int32) (a2 : Int32) (h : xH) : Sim K L cX11_get RX11 "get" 3 1 (fun q : Int32 × xH => q.2) (xRi cX11_get) 0 [(0, .ref a0), (1, .int a1), (2, .int a2)] [] h (f_X11_get a0 a1 a2 h) := by
  unfold f_X11_get
  refine S_iload_n (pc := 0) 1 rfl dX11_get_0 rfl ?_
  refine S_call_i (pc := 1) (rest := []) (fun q hq => R_S (av := [.int a1]) (M_X11_isVector _ a1 h hq) wd_293 wd_291 wd_292 wd_44 hd_X11_isVector ⟨Nat.le_of_ble_eq_true rfl, Nat.le_of_ble_eq_true rfl⟩ rfl (Nat.le_of_ble_eq_true rfl) dX11_get_1) (fun _ h => absurd h List.not_mem_nil) (fun q1 => ?_)
  refine S_if_eq (pc := 4) (tgt := 24) dX11_get_4 (by decide) ?_ ?_
  · refine S_ldc (pc := 24) wd_233 dX11_get_24 ?_
    exact Sim.fin ⟨dX11_get_26, rfl, rfl⟩ rfl
  · refine S_iload_n (pc := 7) 2 rfl dX11_get_7 rfl ?_
    refine S_if_lt (pc := 8) (tgt := 24) dX11_get_8 (by decide) ?_ ?_
    · refine S_ldc (pc := 24) wd_233 dX11_get_24 ?_
      exact Sim.fin ⟨dX11_get_26, rfl, rfl⟩ rfl
    · refine S_iload_n (pc := 11) 2 rfl dX11_get_11 rfl ?_
      refine S_aload_n (pc := 12) 0 rfl dX11_get_12 rfl ?_
      refine S_getR (pc := 13) fd_X11_vectors wd_190 dX11_get_13 (fun v2 => ?_)
      refine S_iload_n (pc := 16) 1 rfl dX11_get_16 rfl ?_
      refine S_aR (pc := 17) (fun _ => rfl) dX11_get_17 (fun v3 => ?_)
      refine S_getI (pc := 18) fd_X1_length wd_81 dX11_get_18 (fun v4 => ?_)
      refine S_icmp_lt (pc := 21) (tgt := 27) dX11_get_21 (by decide) ?_ ?_
      · refine S_aload_n (pc := 27) 0 rfl dX11_get_27 rfl ?_
        refine S_getR (pc := 28) fd_X11_vectors wd_190 dX11_get_28 (fun v5 => ?_)
        refine S_iload_n (pc := 31) 1 rfl dX11_get_31 rfl ?_
        refine S_aR (pc := 32) (fun _ => rfl) dX11_get_32 (fun v6 => ?_)
        refine S_iload_n (pc := 33) 2 rfl dX11_get_33 rfl ?_
        refine S_call_i (pc := 34) (rest := []) (fun q hq => (x_if hq).elim (fun z => R_V (av := [.int a2]) (q := (RX1, TX1, 2)) (M_X1_bitAt _ v6 a2 q1.2 z.2) z.1 rfl wd_454 wd_451 wd_452 wd_45 wd_453 ⟨rfl, hd_X1_bitAt⟩ ⟨Nat.le_of_ble_eq_true rfl, Nat.le_of_ble_eq_true rfl⟩ rfl (Nat.le_of_ble_eq_true rfl) dX11_get_34) (fun hq => (by cases hq))) (fun _ h => absurd h List.not_mem_nil) (fun q7 => ?_)
        exact Sim.fin ⟨dX11_get_37, rfl, rfl⟩ rfl
      · refine S_ldc (pc := 24) wd_233 dX11_get_24 ?_
        exact Sim.fin ⟨dX11_get_26, rfl, rfl⟩ rfl
theorem M_X11_get (l : Launch) (a0 : Nat) (a1 : Int32) (a2 : Int32) (h : xH) {q : Int32 × xH} (hq : f_X11_get a0 a1 a2 h = some q) : xM l yX11_get cX11_get 3 (some .int) 1 [.ref a0, .int a1, .int a2] h (some (.int q.1)) q.2 := xM_i (by decide +kernel) (Nat.le_of_ble_eq_true rfl) (fun K L => W_X11_get K L a0 a1 a2 h) hq
theorem dX11_image_0 : decode cX11_image 0 = .ok (.iload_n 1, 1) := by decide +kernel
theorem dX11_image_1 : decode cX11_image 1 = .ok (.ifCond .lt 8, 3) := by decide +kernel
theorem dX11_image_4 : decode cX11_image 4 = .ok (.iload_n 1, 1) := by decide +kernel
theorem dX11_image_5 : decode cX11_image 5 = .ok (.iconst 2, 1) := by decide +kernel
theorem dX11_image_6 : decode cX11_image 6 = .ok (.if_icmp .lt 6, 3) := by decide +kernel
theorem dX11_image_9 : decode cX11_image 9 = .ok (.ldc 65, 2) := by decide +kernel
theorem dX11_image_11 : decode cX11_image 11 = .ok (.ireturn, 1) := by decide +kernel
theorem dX11_image_12 : decode cX11_image 12 = .ok (.iconst 0, 1) := by decide +kernel
theorem dX11_image_13 : decode cX11_image 13 = .ok (.istore_n 2, 1) := by decide +kernel
theorem dX11_image_14 : decode cX11_image 14 = .ok (.iload_n 2, 1) := by decide +kernel
theorem dX11_image_15 : decode cX11_image 15 = .ok (.iconst 4, 1) := by decide +kernel
theorem dX11_image_16 : decode cX11_image 16 = .ok (.if_icmp .ge 28, 3) := by decide +kernel
theorem dX11_image_19 : decode cX11_image 19 = .ok (.aload_n 0, 1) := by decide +kernel
theorem dX11_image_20 : decode cX11_image 20 = .ok (.getfield 21, 3) := by decide +kernel
theorem dX11_image_23 : decode cX11_image 23 = .ok (.iconst 4, 1) := by decide +kernel
theorem dX11_image_24 : decode cX11_image 24 = .ok (.iload_n 1, 1) := by decide +kernel
theorem dX11_image_25 : decode cX11_image 25 = .ok (.imul, 1) := by decide +kernel
theorem dX11_image_26 : decode cX11_image 26 = .ok (.iload_n 2, 1) := by decide +kernel
theorem dX11_image_27 : decode cX11_image 27 = .ok (.iadd, 1) := by decide +kernel
theorem dX11_image_28 : decode cX11_image 28 = .ok (.aaload, 1) := by decide +kernel
theorem dX11_image_29 : decode cX11_image 29 = .ok (.aload_n 0, 1) := by decide +kernel
theorem dX11_image_30 : decode cX11_image 30 = .ok (.getfield 17, 3) := by decide +kernel
theorem dX11_image_33 : decode cX11_image 33 = .ok (.iload_n 2, 1) := by decide +kernel
theorem dX11_image_34 : decode cX11_image 34 = .ok (.aaload, 1) := by decide +kernel
theorem dX11_image_35 : decode cX11_image 35 = .ok (.invokevirtual 236, 3) := by decide +kernel
theorem dX11_image_38 : decode cX11_image 38 = .ok (.iinc 2 1, 3) := by decide +kernel
theorem dX11_image_41 : decode cX11_image 41 = .ok (.goto (-27), 3) := by decide +kernel
theorem dX11_image_44 : decode cX11_image 44 = .ok (.aload_n 0, 1) := by decide +kernel
theorem dX11_image_45 : decode cX11_image 45 = .ok (.getfield 24, 3) := by decide +kernel
theorem dX11_image_48 : decode cX11_image 48 = .ok (.iload_n 1, 1) := by decide +kernel
theorem dX11_image_49 : decode cX11_image 49 = .ok (.iconst 1, 1) := by decide +kernel
theorem dX11_image_50 : decode cX11_image 50 = .ok (.bastore, 1) := by decide +kernel
theorem dX11_image_51 : decode cX11_image 51 = .ok (.aload_n 0, 1) := by decide +kernel
theorem dX11_image_52 : decode cX11_image 52 = .ok (.invokevirtual 244, 3) := by decide +kernel
theorem dX11_image_55 : decode cX11_image 55 = .ok (.ireturn, 1) := by decide +kernel
set_option maxRecDepth 20000 in
set_option maxHeartbeats 4000000 in
theorem L_X11_image_14 (K : xK) (L : xL) : ∀ (n : Nat) (a0 : Nat) (a1 : Int32) (a2 : Int32) (h : xH), Sim K L cX11_image RX11 "image" 3 5 (fun q : Int32 × xH => q.2) (fun q pc' ls' st' h' => pc' = 44 ∧ ls' = [(0, .ref a0), (1, .int a1), (2, .int q.1)] ∧ st' = [] ∧ h' = q.2) 14 [(0, .ref a0), (1, .int a1), (2, .int a2)] [] h (f_X11_image_L14 n a0 a1 a2 h) := by
  intro n
  induction n with
  | zero =>
    intro a0 a1 a2 h
    exact Sim.none
  | succ n ih =>
    intro a0 a1 a2 h
    unfold f_X11_image_L14
    refine S_iload_n (pc := 14) 2 rfl dX11_image_14 rfl ?_
    refine S_iconst (pc := 15) dX11_image_15 ic_4 ?_
    refine S_icmp_ge (pc := 16) (tgt := 44) dX11_image_16 (by decide) ?_ ?_
    · refine S_sub [0, 1, 2] rfl ?_
      exact Sim.fin ⟨rfl, rfl, rfl, rfl⟩ rfl
    · refine S_aload_n (pc := 19) 0 rfl dX11_image_19 rfl ?_
      refine S_getR (pc := 20) fd_X11_images wd_191 dX11_image_20 (fun v1 => ?_)
      refine S_iconst (pc := 23) dX11_image_23 ic_4 ?_
      refine S_iload_n (pc := 24) 1 rfl dX11_image_24 rfl ?_
      refine S_imul (pc := 25) dX11_image_25 ?_
      refine S_iload_n (pc := 26) 2 rfl dX11_image_26 rfl ?_
      refine S_iadd (pc := 27) dX11_image_27 ?_
      refine S_aR (pc := 28) (fun _ => rfl) dX11_image_28 (fun v2 => ?_)
      refine S_aload_n (pc := 29) 0 rfl dX11_image_29 rfl ?_
      refine S_getR (pc := 30) fd_X11_vectors wd_190 dX11_image_30 (fun v3 => ?_)
      refine S_iload_n (pc := 33) 2 rfl dX11_image_33 rfl ?_
      refine S_aR (pc := 34) (fun _ => rfl) dX11_image_34 (fun v4 => ?_)
      refine S_call_v (pc := 35) (rest := []) (fun q hq => (x_if hq).elim (fun z => R_V (av := [.ref v4]) (q := (RX1, TX1, 2)) (M_X1_copyFrom _ v2 v4 h z.2) z.1 rfl wd_402 wd_665 wd_400 wd_45 wd_401 ⟨rfl, hd_X1_copyFrom⟩ ⟨Nat.le_of_ble_eq_true rfl, Nat.le_of_ble_eq_true rfl⟩ rfl (Nat.le_of_ble_eq_true rfl) dX11_image_35) (fun hq => (by cases hq))) (fun _ h => absurd h List.not_mem_nil) (fun q5 => ?_)
      refine S_iinc (pc := 38) (v := a2 + (1 : Int32)) 2 rfl dX11_image_38 (x_inc ic_1) (Nat.le_of_ble_eq_true rfl) rfl ?_
      refine S_goto (pc := 41) (tgt := 14) dX11_image_41 (by decide) ?_
      refine S_sub [1, 2, 0] rfl ?_
      exact ih a0 a1 (a2 + (1 : Int32)) q5
set_option maxRecDepth 20000 in
set_option maxHeartbeats 4000000 in
theorem W_X11_image (K : xK) (L : xL) (a0 : Nat) (a1 : Int32) (h : xH) : Sim K L cX11_image RX11 "image" 3 5 (fun q : Int32 × xH => q.2) (xRi cX11_image) 0 [(0, .ref a0), (1, .int a1)] [] h (f_X11_image a0 a1 h) := by
  unfold f_X11_image
  refine S_iload_n (pc := 0) 1 rfl dX11_image_0 rfl ?_
  refine S_if_lt (pc := 1) (tgt := 9) dX11_image_1 (by decide) ?_ ?_
  · refine S_ldc (pc := 9) wd_233 dX11_image_9 ?_
    exact Sim.fin ⟨dX11_image_11, rfl, rfl⟩ rfl
  · refine S_iload_n (pc := 4) 1 rfl dX11_image_4 rfl ?_
    refine S_iconst (pc := 5) dX11_image_5 ic_2 ?_
    refine S_icmp_lt (pc := 6) (tgt := 12) dX11_image_6 (by decide) ?_ ?_
    · refine S_iconst (pc := 12) dX11_image_12 ic_0 ?_
      refine S_istore_n (pc := 13) dX11_image_13 rfl (Nat.le_of_ble_eq_true rfl) rfl ?_
      refine S_sub [1, 2, 0] rfl ?_
      refine Sim.bind (hs := fun q6 : Int32 × xH => q6.2) (px := 44) (lsx := fun q6 => [(0, .ref a0), (1, .int a1), (2, .int q6.1)]) (L_X11_image_14 K L xN a0 a1 (0 : Int32) h) (fun q6 => ?_)
      refine S_aload_n (pc := 44) 0 rfl dX11_image_44 rfl ?_
      refine S_getR (pc := 45) fd_X11_imageKept wd_192 dX11_image_45 (fun v7 => ?_)
      refine S_iload_n (pc := 48) 1 rfl dX11_image_48 rfl ?_
      refine S_iconst (pc := 49) dX11_image_49 ic_1 ?_
      refine S_uZ (pc := 50) dX11_image_50 (fun h8 => ?_)
      refine S_aload_n (pc := 51) 0 rfl dX11_image_51 rfl ?_
      refine S_call_i (pc := 52) (rest := []) (fun q hq => (x_if hq).elim (fun z => R_V (av := []) (q := (RX11, TX11, 12)) (M_X11_onesOfAll _ a0 h8 z.2) z.1 rfl wd_675 wd_672 wd_674 wd_44 wd_10 ⟨rfl, hd_X11_onesOfAll⟩ ⟨Nat.le_of_ble_eq_true rfl, Nat.le_of_ble_eq_true rfl⟩ rfl (Nat.le_of_ble_eq_true rfl) dX11_image_52) (fun hq => (by cases hq))) (fun _ h => absurd h List.not_mem_nil) (fun q9 => ?_)
      exact Sim.fin ⟨dX11_image_55, rfl, rfl⟩ rfl
    · refine S_ldc (pc := 9) wd_233 dX11_image_9 ?_
      exact Sim.fin ⟨dX11_image_11, rfl, rfl⟩ rfl
theorem M_X11_image (l : Launch) (a0 : Nat) (a1 : Int32) (h : xH) {q : Int32 × xH} (hq : f_X11_image a0 a1 h = some q) : xM l yX11_image cX11_image 3 (some .int) 5 [.ref a0, .int a1] h (some (.int q.1)) q.2 := xM_i (by decide +kernel) (Nat.le_of_ble_eq_true rfl) (fun K L => W_X11_image K L a0 a1 h) hq
theorem dX11_isInt_0 : decode cX11_isInt 0 = .ok (.lload_n 0, 1) := by decide +kernel
theorem dX11_isInt_1 : decode cX11_isInt 1 = .ok (.lload_n 0, 1) := by decide +kernel
theorem dX11_isInt_2 : decode cX11_isInt 2 = .ok (.l2i, 1) := by decide +kernel
theorem dX11_isInt_3 : decode cX11_isInt 3 = .ok (.i2l, 1) := by decide +kernel
theorem dX11_isInt_4 : decode cX11_isInt 4 = .ok (.lcmp, 1) := by decide +kernel
theorem dX11_isInt_5 : decode cX11_isInt 5 = .ok (.ifCond .ne 7, 3) := by decide +kernel
theorem dX11_isInt_8 : decode cX11_isInt 8 = .ok (.iconst 1, 1) := by decide +kernel
theorem dX11_isInt_9 : decode cX11_isInt 9 = .ok (.goto 4, 3) := by decide +kernel
theorem dX11_isInt_12 : decode cX11_isInt 12 = .ok (.iconst 0, 1) := by decide +kernel
theorem dX11_isInt_13 : decode cX11_isInt 13 = .ok (.ireturn, 1) := by decide +kernel
set_option maxRecDepth 20000 in
set_option maxHeartbeats 4000000 in
theorem W_X11_isInt (K : xK) (L : xL) (a0 : Int64) (h : xH) : Sim K L cX11_isInt RX11 "isInt" 2 0 (fun q : Int32 × xH => q.2) (xRz cX11_isInt) 0 [(0, .long a0)] [] h (f_X11_isInt a0 h) := by
  unfold f_X11_isInt
  refine S_lload_n (pc := 0) 0 rfl dX11_isInt_0 rfl ?_
  refine S_lload_n (pc := 1) 0 rfl dX11_isInt_1 rfl ?_
  refine S_l2i (pc := 2) dX11_isInt_2 ?_
  refine S_i2l (pc := 3) dX11_isInt_3 ?_
  refine S_lcmp (pc := 4) dX11_isInt_4 ?_
  refine S_if_ne (pc := 5) (tgt := 12) dX11_isInt_5 (by decide) ?_ ?_
  · refine S_iconst (pc := 8) dX11_isInt_8 ic_1 ?_
    refine S_goto (pc := 9) (tgt := 13) dX11_isInt_9 (by decide) ?_
    exact Sim.fin ⟨dX11_isInt_13, rfl, rfl, x_nar (Or.inr rfl)⟩ rfl
  · refine S_iconst (pc := 12) dX11_isInt_12 ic_0 ?_
    exact Sim.fin ⟨dX11_isInt_13, rfl, rfl, x_nar (Or.inl rfl)⟩ rfl
theorem M_X11_isInt (l : Launch) (a0 : Int64) (h : xH) {q : Int32 × xH} (hq : f_X11_isInt a0 h = some q) : xM l yX11_isInt cX11_isInt 2 (some .boolean) 0 [.long a0] h (some (.int q.1)) q.2 := xM_z (by decide +kernel) (Nat.le_of_ble_eq_true rfl) (fun K L => W_X11_isInt K L a0 h) hq
theorem dX11_isPlaceOrEnd_0 : decode cX11_isPlaceOrEnd 0 = .ok (.iload_n 1, 1) := by decide +kernel
theorem dX11_isPlaceOrEnd_1 : decode cX11_isPlaceOrEnd 1 = .ok (.invokestatic 113, 3) := by decide +kernel
theorem dX11_isPlaceOrEnd_4 : decode cX11_isPlaceOrEnd 4 = .ok (.ifCond .eq 24, 3) := by decide +kernel
theorem dX11_isPlaceOrEnd_7 : decode cX11_isPlaceOrEnd 7 = .ok (.iload_n 2, 1) := by decide +kernel
theorem dX11_isPlaceOrEnd_8 : decode cX11_isPlaceOrEnd 8 = .ok (.ifCond .lt 20, 3) := by decide +kernel
theorem dX11_isPlaceOrEnd_11 : decode cX11_isPlaceOrEnd 11 = .ok (.iload_n 2, 1) := by decide +kernel
theorem dX11_isPlaceOrEnd_12 : decode cX11_isPlaceOrEnd 12 = .ok (.aload_n 0, 1) := by decide +kernel
theorem dX11_isPlaceOrEnd_13 : decode cX11_isPlaceOrEnd 13 = .ok (.getfield 17, 3) := by decide +kernel
theorem dX11_isPlaceOrEnd_16 : decode cX11_isPlaceOrEnd 16 = .ok (.iload_n 1, 1) := by decide +kernel
theorem dX11_isPlaceOrEnd_17 : decode cX11_isPlaceOrEnd 17 = .ok (.aaload, 1) := by decide +kernel
theorem dX11_isPlaceOrEnd_18 : decode cX11_isPlaceOrEnd 18 = .ok (.getfield 148, 3) := by decide +kernel
theorem dX11_isPlaceOrEnd_21 : decode cX11_isPlaceOrEnd 21 = .ok (.if_icmp .gt 7, 3) := by decide +kernel
theorem dX11_isPlaceOrEnd_24 : decode cX11_isPlaceOrEnd 24 = .ok (.iconst 1, 1) := by decide +kernel
theorem dX11_isPlaceOrEnd_25 : decode cX11_isPlaceOrEnd 25 = .ok (.goto 4, 3) := by decide +kernel
theorem dX11_isPlaceOrEnd_28 : decode cX11_isPlaceOrEnd 28 = .ok (.iconst 0, 1) := by decide +kernel
theorem dX11_isPlaceOrEnd_29 : decode cX11_isPlaceOrEnd 29 = .ok (.ireturn, 1) := by decide +kernel
set_option maxRecDepth 20000 in
set_option maxHeartbeats 4000000 in
theorem W_X11_isPlaceOrEnd (K : xK) (L : xL) (a0 : Nat) (a1 : Int32) (a2 : Int32) (h : xH) : Sim K L cX11_isPlaceOrEnd RX11 "isPlaceOrEnd" 3 1 (fun q : Int32 × xH => q.2) (xRz cX11_isPlaceOrEnd) 0 [(0, .ref a0), (1, .int a1), (2, .int a2)] [] h (f_X11_isPlaceOrEnd a0 a1 a2 h) := by
  unfold f_X11_isPlaceOrEnd
  refine S_iload_n (pc := 0) 1 rfl dX11_isPlaceOrEnd_0 rfl ?_
  refine S_call_i (pc := 1) (rest := []) (fun q hq => R_S (av := [.int a1]) (M_X11_isVector _ a1 h hq) wd_293 wd_291 wd_292 wd_44 hd_X11_isVector ⟨Nat.le_of_ble_eq_true rfl, Nat.le_of_ble_eq_true rfl⟩ rfl (Nat.le_of_ble_eq_true rfl) dX11_isPlaceOrEnd_1) (fun _ h => absurd h List.not_mem_nil) (fun q1 => ?_)
  refine S_if_eq (pc := 4) (tgt := 28) dX11_isPlaceOrEnd_4 (by decide) ?_ ?_
  · refine S_iconst (pc := 28) dX11_isPlaceOrEnd_28 ic_0 ?_
    exact Sim.fin ⟨dX11_isPlaceOrEnd_29, rfl, rfl, x_nar (Or.inl rfl)⟩ rfl
  · refine S_iload_n (pc := 7) 2 rfl dX11_isPlaceOrEnd_7 rfl ?_
    refine S_if_lt (pc := 8) (tgt := 28) dX11_isPlaceOrEnd_8 (by decide) ?_ ?_
    · refine S_iconst (pc := 28) dX11_isPlaceOrEnd_28 ic_0 ?_
      exact Sim.fin ⟨dX11_isPlaceOrEnd_29, rfl, rfl, x_nar (Or.inl rfl)⟩ rfl
    · refine S_iload_n (pc := 11) 2 rfl dX11_isPlaceOrEnd_11 rfl ?_
      refine S_aload_n (pc := 12) 0 rfl dX11_isPlaceOrEnd_12 rfl ?_
      refine S_getR (pc := 13) fd_X11_vectors wd_190 dX11_isPlaceOrEnd_13 (fun v2 => ?_)
      refine S_iload_n (pc := 16) 1 rfl dX11_isPlaceOrEnd_16 rfl ?_
      refine S_aR (pc := 17) (fun _ => rfl) dX11_isPlaceOrEnd_17 (fun v3 => ?_)
      refine S_getI (pc := 18) fd_X1_length wd_81 dX11_isPlaceOrEnd_18 (fun v4 => ?_)
      refine S_icmp_gt (pc := 21) (tgt := 28) dX11_isPlaceOrEnd_21 (by decide) ?_ ?_
      · refine S_iconst (pc := 28) dX11_isPlaceOrEnd_28 ic_0 ?_
        exact Sim.fin ⟨dX11_isPlaceOrEnd_29, rfl, rfl, x_nar (Or.inl rfl)⟩ rfl
      · refine S_iconst (pc := 24) dX11_isPlaceOrEnd_24 ic_1 ?_
        refine S_goto (pc := 25) (tgt := 29) dX11_isPlaceOrEnd_25 (by decide) ?_
        exact Sim.fin ⟨dX11_isPlaceOrEnd_29, rfl, rfl, x_nar (Or.inr rfl)⟩ rfl
theorem M_X11_isPlaceOrEnd (l : Launch) (a0 : Nat) (a1 : Int32) (a2 : Int32) (h : xH) {q : Int32 × xH} (hq : f_X11_isPlaceOrEnd a0 a1 a2 h = some q) : xM l yX11_isPlaceOrEnd cX11_isPlaceOrEnd 3 (some .boolean) 1 [.ref a0, .int a1, .int a2] h (some (.int q.1)) q.2 := xM_z (by decide +kernel) (Nat.le_of_ble_eq_true rfl) (fun K L => W_X11_isPlaceOrEnd K L a0 a1 a2 h) hq
theorem dX11_join_0 : decode cX11_join 0 = .ok (.iload_n 1, 1) := by decide +kernel
theorem dX11_join_1 : decode cX11_join 1 = .ok (.ifCond .lt 30, 3) := by decide +kernel
theorem dX11_join_4 : decode cX11_join 4 = .ok (.iload_n 1, 1) := by decide +kernel
theorem dX11_join_5 : decode cX11_join 5 = .ok (.iconst 3, 1) := by decide +kernel
theorem dX11_join_6 : decode cX11_join 6 = .ok (.if_icmp .gt 25, 3) := by decide +kernel
theorem dX11_join_9 : decode cX11_join 9 = .ok (.iload_n 2, 1) := by decide +kernel
theorem dX11_join_10 : decode cX11_join 10 = .ok (.invokestatic 113, 3) := by decide +kernel
theorem dX11_join_13 : decode cX11_join 13 = .ok (.ifCond .eq 18, 3) := by decide +kernel
theorem dX11_join_16 : decode cX11_join 16 = .ok (.iload_n 3, 1) := by decide +kernel
theorem dX11_join_17 : decode cX11_join 17 = .ok (.invokestatic 113, 3) := by decide +kernel
theorem dX11_join_20 : decode cX11_join 20 = .ok (.ifCond .eq 11, 3) := by decide +kernel
theorem dX11_join_23 : decode cX11_join 23 = .ok (.iload 4, 2) := by decide +kernel
theorem dX11_join_25 : decode cX11_join 25 = .ok (.invokestatic 113, 3) := by decide +kernel
theorem dX11_join_28 : decode cX11_join 28 = .ok (.ifCond .ne 6, 3) := by decide +kernel
theorem dX11_join_31 : decode cX11_join 31 = .ok (.ldc 65, 2) := by decide +kernel
theorem dX11_join_33 : decode cX11_join 33 = .ok (.ireturn, 1) := by decide +kernel
theorem dX11_join_34 : decode cX11_join 34 = .ok (.aload_n 0, 1) := by decide +kernel
theorem dX11_join_35 : decode cX11_join 35 = .ok (.iload 4, 2) := by decide +kernel
theorem dX11_join_37 : decode cX11_join 37 = .ok (.invokevirtual 133, 3) := by decide +kernel
theorem dX11_join_40 : decode cX11_join 40 = .ok (.astore 5, 2) := by decide +kernel
theorem dX11_join_42 : decode cX11_join 42 = .ok (.aload 5, 2) := by decide +kernel
theorem dX11_join_44 : decode cX11_join 44 = .ok (.iload_n 1, 1) := by decide +kernel
theorem dX11_join_45 : decode cX11_join 45 = .ok (.aload_n 0, 1) := by decide +kernel
theorem dX11_join_46 : decode cX11_join 46 = .ok (.getfield 17, 3) := by decide +kernel
theorem dX11_join_49 : decode cX11_join 49 = .ok (.iload_n 2, 1) := by decide +kernel
theorem dX11_join_50 : decode cX11_join 50 = .ok (.aaload, 1) := by decide +kernel
theorem dX11_join_51 : decode cX11_join 51 = .ok (.aload_n 0, 1) := by decide +kernel
theorem dX11_join_52 : decode cX11_join 52 = .ok (.getfield 17, 3) := by decide +kernel
theorem dX11_join_55 : decode cX11_join 55 = .ok (.iload_n 3, 1) := by decide +kernel
theorem dX11_join_56 : decode cX11_join 56 = .ok (.aaload, 1) := by decide +kernel
theorem dX11_join_57 : decode cX11_join 57 = .ok (.invokevirtual 163, 3) := by decide +kernel
theorem dX11_join_60 : decode cX11_join 60 = .ok (.aload 5, 2) := by decide +kernel
theorem dX11_join_62 : decode cX11_join 62 = .ok (.invokevirtual 167, 3) := by decide +kernel
theorem dX11_join_65 : decode cX11_join 65 = .ok (.ireturn, 1) := by decide +kernel
set_option maxRecDepth 20000 in
set_option maxHeartbeats 4000000 in
theorem W_X11_join (K : xK) (L : xL) (a0 : Nat) (a1 : Int32) (a2 : Int32) (a3 : Int32) (a4 : Int32) (h : xH) : Sim K L cX11_join RX11 "join" 6 4 (fun q : Int32 × xH => q.2) (xRi cX11_join) 0 [(0, .ref a0), (1, .int a1), (2, .int a2), (3, .int a3), (4, .int a4)] [] h (f_X11_join a0 a1 a2 a3 a4 h) := by
  unfold f_X11_join
  refine S_iload_n (pc := 0) 1 rfl dX11_join_0 rfl ?_
  refine S_if_lt (pc := 1) (tgt := 31) dX11_join_1 (by decide) ?_ ?_
  · refine S_ldc (pc := 31) wd_233 dX11_join_31 ?_
    exact Sim.fin ⟨dX11_join_33, rfl, rfl⟩ rfl
  · refine S_iload_n (pc := 4) 1 rfl dX11_join_4 rfl ?_
    refine S_iconst (pc := 5) dX11_join_5 ic_3 ?_
    refine S_icmp_gt (pc := 6) (tgt := 31) dX11_join_6 (by decide) ?_ ?_
    · refine S_ldc (pc := 31) wd_233 dX11_join_31 ?_
      exact Sim.fin ⟨dX11_join_33, rfl, rfl⟩ rfl
    · refine S_iload_n (pc := 9) 2 rfl dX11_join_9 rfl ?_
      refine S_call_i (pc := 10) (rest := []) (fun q hq => R_S (av := [.int a2]) (M_X11_isVector _ a2 h hq) wd_293 wd_291 wd_292 wd_44 hd_X11_isVector ⟨Nat.le_of_ble_eq_true rfl, Nat.le_of_ble_eq_true rfl⟩ rfl (Nat.le_of_ble_eq_true rfl) dX11_join_10) (fun _ h => absurd h List.not_mem_nil) (fun q1 => ?_)
      refine S_if_eq (pc := 13) (tgt := 31) dX11_join_13 (by decide) ?_ ?_
      · refine S_ldc (pc := 31) wd_233 dX11_join_31 ?_
        exact Sim.fin ⟨dX11_join_33, rfl, rfl⟩ rfl
      · refine S_iload_n (pc := 16) 3 rfl dX11_join_16 rfl ?_
        refine S_call_i (pc := 17) (rest := []) (fun q hq => R_S (av := [.int a3]) (M_X11_isVector _ a3 q1.2 hq) wd_293 wd_291 wd_292 wd_44 hd_X11_isVector ⟨Nat.le_of_ble_eq_true rfl, Nat.le_of_ble_eq_true rfl⟩ rfl (Nat.le_of_ble_eq_true rfl) dX11_join_17) (fun _ h => absurd h List.not_mem_nil) (fun q2 => ?_)
        refine S_if_eq (pc := 20) (tgt := 31) dX11_join_20 (by decide) ?_ ?_
        · refine S_ldc (pc := 31) wd_233 dX11_join_31 ?_
          exact Sim.fin ⟨dX11_join_33, rfl, rfl⟩ rfl
        · refine S_iload (pc := 23) 4 rfl dX11_join_23 ?_
          refine S_call_i (pc := 25) (rest := []) (fun q hq => R_S (av := [.int a4]) (M_X11_isVector _ a4 q2.2 hq) wd_293 wd_291 wd_292 wd_44 hd_X11_isVector ⟨Nat.le_of_ble_eq_true rfl, Nat.le_of_ble_eq_true rfl⟩ rfl (Nat.le_of_ble_eq_true rfl) dX11_join_25) (fun _ h => absurd h List.not_mem_nil) (fun q3 => ?_)
          refine S_if_ne (pc := 28) (tgt := 34) dX11_join_28 (by decide) ?_ ?_
          · refine S_ldc (pc := 31) wd_233 dX11_join_31 ?_
            exact Sim.fin ⟨dX11_join_33, rfl, rfl⟩ rfl
          · refine S_aload_n (pc := 34) 0 rfl dX11_join_34 rfl ?_
            refine S_iload (pc := 35) 4 rfl dX11_join_35 ?_
            refine S_call_r (pc := 37) (rest := []) (fun q hq => (x_if hq).elim (fun z => R_V (av := [.int a4]) (q := (RX11, TX11, 12)) (M_X11_vectorToChange _ a0 a4 q3.2 z.2) z.1 rfl wd_394 wd_391 wd_393 wd_44 wd_8 ⟨rfl, hd_X11_vectorToChange⟩ ⟨Nat.le_of_ble_eq_true rfl, Nat.le_of_ble_eq_true rfl⟩ rfl (Nat.le_of_ble_eq_true rfl) dX11_join_37) (fun hq => (by cases hq))) (fun _ h => absurd h List.not_mem_nil) (fun q4 => ?_)
            refine S_astore (pc := 40) dX11_join_40 (Nat.le_of_ble_eq_true rfl) rfl ?_
            refine S_aload (pc := 42) 0 rfl dX11_join_42 ?_
            refine S_iload_n (pc := 44) 2 rfl dX11_join_44 rfl ?_
            refine S_aload_n (pc := 45) 1 rfl dX11_join_45 rfl ?_
            refine S_getR (pc := 46) fd_X11_vectors wd_190 dX11_join_46 (fun v5 => ?_)
            refine S_iload_n (pc := 49) 3 rfl dX11_join_49 rfl ?_
            refine S_aR (pc := 50) (fun _ => rfl) dX11_join_50 (fun v6 => ?_)
            refine S_aload_n (pc := 51) 1 rfl dX11_join_51 rfl ?_
            refine S_getR (pc := 52) fd_X11_vectors wd_190 dX11_join_52 (fun v7 => ?_)
            refine S_iload_n (pc := 55) 4 rfl dX11_join_55 rfl ?_
            refine S_aR (pc := 56) (fun _ => rfl) dX11_join_56 (fun v8 => ?_)
            refine S_call_v (pc := 57) (rest := []) (fun q hq => (x_if hq).elim (fun z => R_V (av := [.int a1, .ref v6, .ref v8]) (q := (RX1, TX1, 2)) (M_X1_becomeJoined _ q4.1 a1 v6 v8 q4.2 z.2) z.1 rfl wd_485 wd_482 wd_483 wd_45 wd_484 ⟨rfl, hd_X1_becomeJoined⟩ ⟨Nat.le_of_ble_eq_true rfl, Nat.le_of_ble_eq_true rfl⟩ rfl (Nat.le_of_ble_eq_true rfl) dX11_join_57) (fun hq => (by cases hq))) (fun _ h => absurd h List.not_mem_nil) (fun q9 => ?_)
            refine S_aload (pc := 60) 0 rfl dX11_join_60 ?_
            refine S_call_i (pc := 62) (rest := []) (fun q hq => (x_if hq).elim (fun z => R_V (av := []) (q := (RX1, TX1, 2)) (M_X1_countOnes _ q4.1 q9 z.2) z.1 rfl wd_493 wd_490 wd_491 wd_45 wd_492 ⟨rfl, hd_X1_countOnes⟩ ⟨Nat.le_of_ble_eq_true rfl, Nat.le_of_ble_eq_true rfl⟩ rfl (Nat.le_of_ble_eq_true rfl) dX11_join_62) (fun hq => (by cases hq))) (fun _ h => absurd h List.not_mem_nil) (fun q10 => ?_)
            exact Sim.fin ⟨dX11_join_65, rfl, rfl⟩ rfl
theorem M_X11_join (l : Launch) (a0 : Nat) (a1 : Int32) (a2 : Int32) (a3 : Int32) (a4 : Int32) (h : xH) {q : Int32 × xH} (hq : f_X11_join a0 a1 a2 a3 a4 h = some q) : xM l yX11_join cX11_join 6 (some .int) 4 [.ref a0, .int a1, .int a2, .int a3, .int a4] h (some (.int q.1)) q.2 := xM_i (by decide +kernel) (Nat.le_of_ble_eq_true rfl) (fun K L => W_X11_join K L a0 a1 a2 a3 a4 h) hq
theorem dX0_kindNumber_0 : decode cX0_kindNumber 0 = .ok (.iconst 4, 1) := by decide +kernel
theorem dX0_kindNumber_1 : decode cX0_kindNumber 1 = .ok (.ireturn, 1) := by decide +kernel
set_option maxRecDepth 20000 in
set_option maxHeartbeats 4000000 in
theorem W_X0_kindNumber (K : xK) (L : xL) (a0 : Nat) (h : xH) : Sim K L cX0_kindNumber RX0 "kindNumber" 1 0 (fun q : Int32 × xH => q.2) (xRi cX0_kindNumber) 0 [(0, .ref a0)] [] h (f_X0_kindNumber a0 h) := by
  unfold f_X0_kindNumber
  refine S_iconst (pc := 0) dX0_kindNumber_0 ic_4 ?_
  exact Sim.fin ⟨dX0_kindNumber_1, rfl, rfl⟩ rfl
theorem M_X0_kindNumber (l : Launch) (a0 : Nat) (h : xH) {q : Int32 × xH} (hq : f_X0_kindNumber a0 h = some q) : xM l yX0_kindNumber cX0_kindNumber 1 (some .int) 0 [.ref a0] h (some (.int q.1)) q.2 := xM_i (by decide +kernel) (Nat.le_of_ble_eq_true rfl) (fun K L => W_X0_kindNumber K L a0 h) hq
theorem dX2_kindNumber_0 : decode cX2_kindNumber 0 = .ok (.iconst 5, 1) := by decide +kernel
theorem dX2_kindNumber_1 : decode cX2_kindNumber 1 = .ok (.ireturn, 1) := by decide +kernel
set_option maxRecDepth 20000 in
set_option maxHeartbeats 4000000 in
theorem W_X2_kindNumber (K : xK) (L : xL) (a0 : Nat) (h : xH) : Sim K L cX2_kindNumber RX2 "kindNumber" 1 0 (fun q : Int32 × xH => q.2) (xRi cX2_kindNumber) 0 [(0, .ref a0)] [] h (f_X2_kindNumber a0 h) := by
  unfold f_X2_kindNumber
  refine S_iconst (pc := 0) dX2_kindNumber_0 ic_5 ?_
  exact Sim.fin ⟨dX2_kindNumber_1, rfl, rfl⟩ rfl
theorem M_X2_kindNumber (l : Launch) (a0 : Nat) (h : xH) {q : Int32 × xH} (hq : f_X2_kindNumber a0 h = some q) : xM l yX2_kindNumber cX2_kindNumber 1 (some .int) 0 [.ref a0] h (some (.int q.1)) q.2 := xM_i (by decide +kernel) (Nat.le_of_ble_eq_true rfl) (fun K L => W_X2_kindNumber K L a0 h) hq
theorem dX4_kindNumber_0 : decode cX4_kindNumber 0 = .ok (.iconst 2, 1) := by decide +kernel
theorem dX4_kindNumber_1 : decode cX4_kindNumber 1 = .ok (.ireturn, 1) := by decide +kernel
set_option maxRecDepth 20000 in
set_option maxHeartbeats 4000000 in
theorem W_X4_kindNumber (K : xK) (L : xL) (a0 : Nat) (h : xH) : Sim K L cX4_kindNumber RX4 "kindNumber" 1 0 (fun q : Int32 × xH => q.2) (xRi cX4_kindNumber) 0 [(0, .ref a0)] [] h (f_X4_kindNumber a0 h) := by
  unfold f_X4_kindNumber
  refine S_iconst (pc := 0) dX4_kindNumber_0 ic_2 ?_
  exact Sim.fin ⟨dX4_kindNumber_1, rfl, rfl⟩ rfl
theorem M_X4_kindNumber (l : Launch) (a0 : Nat) (h : xH) {q : Int32 × xH} (hq : f_X4_kindNumber a0 h = some q) : xM l yX4_kindNumber cX4_kindNumber 1 (some .int) 0 [.ref a0] h (some (.int q.1)) q.2 := xM_i (by decide +kernel) (Nat.le_of_ble_eq_true rfl) (fun K L => W_X4_kindNumber K L a0 h) hq
theorem dX8_kindNumber_0 : decode cX8_kindNumber 0 = .ok (.iconst 3, 1) := by decide +kernel
theorem dX8_kindNumber_1 : decode cX8_kindNumber 1 = .ok (.ireturn, 1) := by decide +kernel
set_option maxRecDepth 20000 in
set_option maxHeartbeats 4000000 in
theorem W_X8_kindNumber (K : xK) (L : xL) (a0 : Nat) (h : xH) : Sim K L cX8_kindNumber RX8 "kindNumber" 1 0 (fun q : Int32 × xH => q.2) (xRi cX8_kindNumber) 0 [(0, .ref a0)] [] h (f_X8_kindNumber a0 h) := by
  unfold f_X8_kindNumber
  refine S_iconst (pc := 0) dX8_kindNumber_0 ic_3 ?_
  exact Sim.fin ⟨dX8_kindNumber_1, rfl, rfl⟩ rfl
theorem M_X8_kindNumber (l : Launch) (a0 : Nat) (h : xH) {q : Int32 × xH} (hq : f_X8_kindNumber a0 h = some q) : xM l yX8_kindNumber cX8_kindNumber 1 (some .int) 0 [.ref a0] h (some (.int q.1)) q.2 := xM_i (by decide +kernel) (Nat.le_of_ble_eq_true rfl) (fun K L => W_X8_kindNumber K L a0 h) hq
theorem dX10_kindNumber_0 : decode cX10_kindNumber 0 = .ok (.iconst 1, 1) := by decide +kernel
theorem dX10_kindNumber_1 : decode cX10_kindNumber 1 = .ok (.ireturn, 1) := by decide +kernel
set_option maxRecDepth 20000 in
set_option maxHeartbeats 4000000 in
theorem W_X10_kindNumber (K : xK) (L : xL) (a0 : Nat) (h : xH) : Sim K L cX10_kindNumber RX10 "kindNumber" 1 0 (fun q : Int32 × xH => q.2) (xRi cX10_kindNumber) 0 [(0, .ref a0)] [] h (f_X10_kindNumber a0 h) := by
  unfold f_X10_kindNumber
  refine S_iconst (pc := 0) dX10_kindNumber_0 ic_1 ?_
  exact Sim.fin ⟨dX10_kindNumber_1, rfl, rfl⟩ rfl
theorem M_X10_kindNumber (l : Launch) (a0 : Nat) (h : xH) {q : Int32 × xH} (hq : f_X10_kindNumber a0 h = some q) : xM l yX10_kindNumber cX10_kindNumber 1 (some .int) 0 [.ref a0] h (some (.int q.1)) q.2 := xM_i (by decide +kernel) (Nat.le_of_ble_eq_true rfl) (fun K L => W_X10_kindNumber K L a0 h) hq
theorem dX11_kind_0 : decode cX11_kind 0 = .ok (.aload_n 0, 1) := by decide +kernel
theorem dX11_kind_1 : decode cX11_kind 1 = .ok (.iload_n 1, 1) := by decide +kernel
theorem dX11_kind_2 : decode cX11_kind 2 = .ok (.invokevirtual 250, 3) := by decide +kernel
theorem dX11_kind_5 : decode cX11_kind 5 = .ok (.ifCond .eq 15, 3) := by decide +kernel
theorem dX11_kind_8 : decode cX11_kind 8 = .ok (.aload_n 0, 1) := by decide +kernel
theorem dX11_kind_9 : decode cX11_kind 9 = .ok (.getfield 49, 3) := by decide +kernel
theorem dX11_kind_12 : decode cX11_kind 12 = .ok (.iload_n 1, 1) := by decide +kernel
theorem dX11_kind_13 : decode cX11_kind 13 = .ok (.aaload, 1) := by decide +kernel
theorem dX11_kind_14 : decode cX11_kind 14 = .ok (.invokevirtual 253, 3) := by decide +kernel
theorem dX11_kind_17 : decode cX11_kind 17 = .ok (.goto 5, 3) := by decide +kernel
theorem dX11_kind_20 : decode cX11_kind 20 = .ok (.ldc 65, 2) := by decide +kernel
theorem dX11_kind_22 : decode cX11_kind 22 = .ok (.ireturn, 1) := by decide +kernel
set_option maxRecDepth 20000 in
set_option maxHeartbeats 4000000 in
theorem W_X11_kind (K : xK) (L : xL) (a0 : Nat) (a1 : Int32) (h : xH) : Sim K L cX11_kind RX11 "kind" 2 1 (fun q : Int32 × xH => q.2) (xRi cX11_kind) 0 [(0, .ref a0), (1, .int a1)] [] h (f_X11_kind a0 a1 h) := by
  unfold f_X11_kind
  refine S_aload_n (pc := 0) 0 rfl dX11_kind_0 rfl ?_
  refine S_iload_n (pc := 1) 1 rfl dX11_kind_1 rfl ?_
  refine S_call_i (pc := 2) (rest := []) (fun q hq => (x_if hq).elim (fun z => R_V (av := [.int a1]) (q := (RX11, TX11, 12)) (M_X11_isRun _ a0 a1 h z.2) z.1 rfl wd_691 wd_688 wd_690 wd_44 wd_11 ⟨rfl, hd_X11_isRun⟩ ⟨Nat.le_of_ble_eq_true rfl, Nat.le_of_ble_eq_true rfl⟩ rfl (Nat.le_of_ble_eq_true rfl) dX11_kind_2) (fun hq => (by cases hq))) (fun _ h => absurd h List.not_mem_nil) (fun q1 => ?_)
  refine S_if_eq (pc := 5) (tgt := 20) dX11_kind_5 (by decide) ?_ ?_
  · refine S_ldc (pc := 20) wd_233 dX11_kind_20 ?_
    exact Sim.fin ⟨dX11_kind_22, rfl, rfl⟩ rfl
  · refine S_aload_n (pc := 8) 0 rfl dX11_kind_8 rfl ?_
    refine S_getR (pc := 9) fd_X11_runs wd_196 dX11_kind_9 (fun v2 => ?_)
    refine S_iload_n (pc := 12) 1 rfl dX11_kind_12 rfl ?_
    refine S_aR (pc := 13) (fun _ => rfl) dX11_kind_13 (fun v3 => ?_)
    refine S_call_i (pc := 14) (rest := []) (fun q hq => (x_if hq).elim (fun z => R_U (av := []) (q := (RX0, TX0, 2)) (x := ⟨"ClassBits$Run", "kindNumber", "()I"⟩) (owner := RX6) (M_X0_kindNumber _ v3 q1.2 z.2) z.1 rfl wd_697 wd_692 wd_696 wd_57 wd_695 wd_694 (Or.inr (by decide +kernel)) ⟨by decide, by decide, hd_X0_kindNumber.2.2⟩ ⟨Nat.le_of_ble_eq_true rfl, Nat.le_of_ble_eq_true rfl⟩ rfl (Nat.le_of_ble_eq_true rfl) dX11_kind_14) (fun hq => (x_if hq).elim (fun z => R_U (av := []) (q := (RX2, TX2, 2)) (x := ⟨"ClassBits$Run", "kindNumber", "()I"⟩) (owner := RX6) (M_X2_kindNumber _ v3 q1.2 z.2) z.1 rfl wd_700 wd_692 wd_699 wd_58 wd_698 wd_694 (Or.inr (by decide +kernel)) ⟨by decide, by decide, hd_X2_kindNumber.2.2⟩ ⟨Nat.le_of_ble_eq_true rfl, Nat.le_of_ble_eq_true rfl⟩ rfl (Nat.le_of_ble_eq_true rfl) dX11_kind_14) (fun hq => (x_if hq).elim (fun z => R_U (av := []) (q := (RX4, TX4, 2)) (x := ⟨"ClassBits$Run", "kindNumber", "()I"⟩) (owner := RX6) (M_X4_kindNumber _ v3 q1.2 z.2) z.1 rfl wd_703 wd_692 wd_702 wd_55 wd_701 wd_694 (Or.inr (by decide +kernel)) ⟨by decide, by decide, hd_X4_kindNumber.2.2⟩ ⟨Nat.le_of_ble_eq_true rfl, Nat.le_of_ble_eq_true rfl⟩ rfl (Nat.le_of_ble_eq_true rfl) dX11_kind_14) (fun hq => (x_if hq).elim (fun z => R_U (av := []) (q := (RX8, TX8, 2)) (x := ⟨"ClassBits$Run", "kindNumber", "()I"⟩) (owner := RX6) (M_X8_kindNumber _ v3 q1.2 z.2) z.1 rfl wd_706 wd_692 wd_705 wd_56 wd_704 wd_694 (Or.inr (by decide +kernel)) ⟨by decide, by decide, hd_X8_kindNumber.2.2⟩ ⟨Nat.le_of_ble_eq_true rfl, Nat.le_of_ble_eq_true rfl⟩ rfl (Nat.le_of_ble_eq_true rfl) dX11_kind_14) (fun hq => (x_if hq).elim (fun z => R_U (av := []) (q := (RX10, TX10, 2)) (x := ⟨"ClassBits$Run", "kindNumber", "()I"⟩) (owner := RX6) (M_X10_kindNumber _ v3 q1.2 z.2) z.1 rfl wd_709 wd_692 wd_708 wd_54 wd_707 wd_694 (Or.inr (by decide +kernel)) ⟨by decide, by decide, hd_X10_kindNumber.2.2⟩ ⟨Nat.le_of_ble_eq_true rfl, Nat.le_of_ble_eq_true rfl⟩ rfl (Nat.le_of_ble_eq_true rfl) dX11_kind_14) (fun hq => (by cases hq))))))) (fun _ h => absurd h List.not_mem_nil) (fun q4 => ?_)
    refine S_goto (pc := 17) (tgt := 22) dX11_kind_17 (by decide) ?_
    exact Sim.fin ⟨dX11_kind_22, rfl, rfl⟩ rfl
theorem M_X11_kind (l : Launch) (a0 : Nat) (a1 : Int32) (h : xH) {q : Int32 × xH} (hq : f_X11_kind a0 a1 h = some q) : xM l yX11_kind cX11_kind 2 (some .int) 1 [.ref a0, .int a1] h (some (.int q.1)) q.2 := xM_i (by decide +kernel) (Nat.le_of_ble_eq_true rfl) (fun K L => W_X11_kind K L a0 a1 h) hq
theorem dX11_last_0 : decode cX11_last 0 = .ok (.aload_n 0, 1) := by decide +kernel
theorem dX11_last_1 : decode cX11_last 1 = .ok (.iload_n 1, 1) := by decide +kernel
theorem dX11_last_2 : decode cX11_last 2 = .ok (.iload_n 2, 1) := by decide +kernel
theorem dX11_last_3 : decode cX11_last 3 = .ok (.invokevirtual 224, 3) := by decide +kernel
theorem dX11_last_6 : decode cX11_last 6 = .ok (.ifCond .eq 10, 3) := by decide +kernel
theorem dX11_last_9 : decode cX11_last 9 = .ok (.iload_n 3, 1) := by decide +kernel
theorem dX11_last_10 : decode cX11_last 10 = .ok (.invokestatic 149, 3) := by decide +kernel
theorem dX11_last_13 : decode cX11_last 13 = .ok (.ifCond .ne 6, 3) := by decide +kernel
theorem dX11_last_16 : decode cX11_last 16 = .ok (.ldc 65, 2) := by decide +kernel
theorem dX11_last_18 : decode cX11_last 18 = .ok (.ireturn, 1) := by decide +kernel
theorem dX11_last_19 : decode cX11_last 19 = .ok (.aload_n 0, 1) := by decide +kernel
theorem dX11_last_20 : decode cX11_last 20 = .ok (.getfield 17, 3) := by decide +kernel
theorem dX11_last_23 : decode cX11_last 23 = .ok (.iload_n 1, 1) := by decide +kernel
theorem dX11_last_24 : decode cX11_last 24 = .ok (.aaload, 1) := by decide +kernel
theorem dX11_last_25 : decode cX11_last 25 = .ok (.astore 4, 2) := by decide +kernel
theorem dX11_last_27 : decode cX11_last 27 = .ok (.iload_n 2, 1) := by decide +kernel
theorem dX11_last_28 : decode cX11_last 28 = .ok (.iconst 1, 1) := by decide +kernel
theorem dX11_last_29 : decode cX11_last 29 = .ok (.isub, 1) := by decide +kernel
theorem dX11_last_30 : decode cX11_last 30 = .ok (.istore 5, 2) := by decide +kernel
theorem dX11_last_32 : decode cX11_last 32 = .ok (.iload 5, 2) := by decide +kernel
theorem dX11_last_34 : decode cX11_last 34 = .ok (.ifCond .lt 23, 3) := by decide +kernel
theorem dX11_last_37 : decode cX11_last 37 = .ok (.aload 4, 2) := by decide +kernel
theorem dX11_last_39 : decode cX11_last 39 = .ok (.iload 5, 2) := by decide +kernel
theorem dX11_last_41 : decode cX11_last 41 = .ok (.invokevirtual 152, 3) := by decide +kernel
theorem dX11_last_44 : decode cX11_last 44 = .ok (.iload_n 3, 1) := by decide +kernel
theorem dX11_last_45 : decode cX11_last 45 = .ok (.if_icmp .ne 6, 3) := by decide +kernel
theorem dX11_last_48 : decode cX11_last 48 = .ok (.iload 5, 2) := by decide +kernel
theorem dX11_last_50 : decode cX11_last 50 = .ok (.ireturn, 1) := by decide +kernel
theorem dX11_last_51 : decode cX11_last 51 = .ok (.iinc 5 (-1), 3) := by decide +kernel
theorem dX11_last_54 : decode cX11_last 54 = .ok (.goto (-22), 3) := by decide +kernel
theorem dX11_last_57 : decode cX11_last 57 = .ok (.ldc 227, 2) := by decide +kernel
theorem dX11_last_59 : decode cX11_last 59 = .ok (.ireturn, 1) := by decide +kernel
set_option maxRecDepth 20000 in
set_option maxHeartbeats 4000000 in
theorem L_X11_last_32 (K : xK) (L : xL) : ∀ (n : Nat) (a3 : Int32) (a4 : Nat) (a5 : Int32) (h : xH), Sim K L cX11_last RX11 "last" 6 2 (fun q : Int32 × xH => q.2) (xRi cX11_last) 32 [(3, .int a3), (4, .ref a4), (5, .int a5)] [] h (f_X11_last_L32 n a3 a4 a5 h) := by
  intro n
  induction n with
  | zero =>
    intro a3 a4 a5 h
    exact Sim.none
  | succ n ih =>
    intro a3 a4 a5 h
    unfold f_X11_last_L32
    refine S_iload (pc := 32) 2 rfl dX11_last_32 ?_
    refine S_if_lt (pc := 34) (tgt := 57) dX11_last_34 (by decide) ?_ ?_
    · refine S_ldc (pc := 57) wd_625 dX11_last_57 ?_
      exact Sim.fin ⟨dX11_last_59, rfl, rfl⟩ rfl
    · refine S_aload (pc := 37) 1 rfl dX11_last_37 ?_
      refine S_iload (pc := 39) 2 rfl dX11_last_39 ?_
      refine S_call_i (pc := 41) (rest := []) (fun q hq => (x_if hq).elim (fun z => R_V (av := [.int a5]) (q := (RX1, TX1, 2)) (M_X1_bitAt _ a4 a5 h z.2) z.1 rfl wd_454 wd_451 wd_452 wd_45 wd_453 ⟨rfl, hd_X1_bitAt⟩ ⟨Nat.le_of_ble_eq_true rfl, Nat.le_of_ble_eq_true rfl⟩ rfl (Nat.le_of_ble_eq_true rfl) dX11_last_41) (fun hq => (by cases hq))) (fun _ h => absurd h List.not_mem_nil) (fun q5 => ?_)
      refine S_iload_n (pc := 44) 0 rfl dX11_last_44 rfl ?_
      refine S_icmp_ne (pc := 45) (tgt := 51) dX11_last_45 (by decide) ?_ ?_
      · refine S_iload (pc := 48) 2 rfl dX11_last_48 ?_
        exact Sim.fin ⟨dX11_last_50, rfl, rfl⟩ rfl
      · refine S_iinc (pc := 51) (v := a5 + (-1 : Int32)) 2 rfl dX11_last_51 (x_inc ic_m1) (Nat.le_of_ble_eq_true rfl) rfl ?_
        refine S_goto (pc := 54) (tgt := 32) dX11_last_54 (by decide) ?_
        refine S_sub [1, 2, 0] rfl ?_
        exact ih a3 a4 (a5 + (-1 : Int32)) q5.2
set_option maxRecDepth 20000 in
set_option maxHeartbeats 4000000 in
theorem W_X11_last (K : xK) (L : xL) (a0 : Nat) (a1 : Int32) (a2 : Int32) (a3 : Int32) (h : xH) : Sim K L cX11_last RX11 "last" 6 2 (fun q : Int32 × xH => q.2) (xRi cX11_last) 0 [(0, .ref a0), (1, .int a1), (2, .int a2), (3, .int a3)] [] h (f_X11_last a0 a1 a2 a3 h) := by
  unfold f_X11_last
  refine S_aload_n (pc := 0) 0 rfl dX11_last_0 rfl ?_
  refine S_iload_n (pc := 1) 1 rfl dX11_last_1 rfl ?_
  refine S_iload_n (pc := 2) 2 rfl dX11_last_2 rfl ?_
  refine S_call_i (pc := 3) (rest := []) (fun q hq => (x_if hq).elim (fun z => R_V (av := [.int a1, .int a2]) (q := (RX11, TX11, 12)) (M_X11_isPlaceOrEnd _ a0 a1 a2 h z.2) z.1 rfl wd_620 wd_617 wd_619 wd_44 wd_9 ⟨rfl, hd_X11_isPlaceOrEnd⟩ ⟨Nat.le_of_ble_eq_true rfl, Nat.le_of_ble_eq_true rfl⟩ rfl (Nat.le_of_ble_eq_true rfl) dX11_last_3) (fun hq => (by cases hq))) (fun _ h => absurd h List.not_mem_nil) (fun q1 => ?_)
  refine S_if_eq (pc := 6) (tgt := 16) dX11_last_6 (by decide) ?_ ?_
  · refine S_ldc (pc := 16) wd_233 dX11_last_16 ?_
    exact Sim.fin ⟨dX11_last_18, rfl, rfl⟩ rfl
  · refine S_iload_n (pc := 9) 3 rfl dX11_last_9 rfl ?_
    refine S_call_i (pc := 10) (rest := []) (fun q hq => R_S (av := [.int a3]) (M_X11_isValue _ a3 q1.2 hq) wd_450 wd_448 wd_449 wd_44 hd_X11_isValue ⟨Nat.le_of_ble_eq_true rfl, Nat.le_of_ble_eq_true rfl⟩ rfl (Nat.le_of_ble_eq_true rfl) dX11_last_10) (fun _ h => absurd h List.not_mem_nil) (fun q2 => ?_)
    refine S_if_ne (pc := 13) (tgt := 19) dX11_last_13 (by decide) ?_ ?_
    · refine S_ldc (pc := 16) wd_233 dX11_last_16 ?_
      exact Sim.fin ⟨dX11_last_18, rfl, rfl⟩ rfl
    · refine S_aload_n (pc := 19) 0 rfl dX11_last_19 rfl ?_
      refine S_getR (pc := 20) fd_X11_vectors wd_190 dX11_last_20 (fun v3 => ?_)
      refine S_iload_n (pc := 23) 1 rfl dX11_last_23 rfl ?_
      refine S_aR (pc := 24) (fun _ => rfl) dX11_last_24 (fun v4 => ?_)
      refine S_astore (pc := 25) dX11_last_25 (Nat.le_of_ble_eq_true rfl) rfl ?_
      refine S_iload_n (pc := 27) 3 rfl dX11_last_27 rfl ?_
      refine S_iconst (pc := 28) dX11_last_28 ic_1 ?_
      refine S_isub (pc := 29) dX11_last_29 ?_
      refine S_istore (pc := 30) dX11_last_30 (Nat.le_of_ble_eq_true rfl) rfl ?_
      refine S_sub [5, 1, 0] rfl ?_
      exact L_X11_last_32 K L xN a3 v4 (a2 - (1 : Int32)) q2.2
theorem M_X11_last (l : Launch) (a0 : Nat) (a1 : Int32) (a2 : Int32) (a3 : Int32) (h : xH) {q : Int32 × xH} (hq : f_X11_last a0 a1 a2 a3 h = some q) : xM l yX11_last cX11_last 6 (some .int) 2 [.ref a0, .int a1, .int a2, .int a3] h (some (.int q.1)) q.2 := xM_i (by decide +kernel) (Nat.le_of_ble_eq_true rfl) (fun K L => W_X11_last K L a0 a1 a2 a3 h) hq
theorem dX6_init_0 : decode cX6_init 0 = .ok (.aload_n 0, 1) := by decide +kernel
theorem dX6_init_1 : decode cX6_init 1 = .ok (.invokespecial 1, 3) := by decide +kernel
theorem dX6_init_4 : decode cX6_init 4 = .ok (.aload_n 0, 1) := by decide +kernel
theorem dX6_init_5 : decode cX6_init 5 = .ok (.iload_n 1, 1) := by decide +kernel
theorem dX6_init_6 : decode cX6_init 6 = .ok (.putfield 7, 3) := by decide +kernel
theorem dX6_init_9 : decode cX6_init 9 = .ok (.aload_n 0, 1) := by decide +kernel
theorem dX6_init_10 : decode cX6_init 10 = .ok (.iload_n 2, 1) := by decide +kernel
theorem dX6_init_11 : decode cX6_init 11 = .ok (.putfield 13, 3) := by decide +kernel
theorem dX6_init_14 : decode cX6_init 14 = .ok (.return_, 1) := by decide +kernel
set_option maxRecDepth 20000 in
set_option maxHeartbeats 4000000 in
theorem W_X6_init (K : xK) (L : xL) (a0 : Nat) (a1 : Int32) (a2 : Int32) (h : xH) : Sim K L cX6_init RX6 "<init>" 3 1 (fun q : xH => q) (xRv cX6_init) 0 [(0, .ref a0), (1, .int a1), (2, .int a2)] [] h (f_X6_init a0 a1 a2 h) := by
  unfold f_X6_init
  refine S_aload_n (pc := 0) 0 rfl dX6_init_0 rfl ?_
  refine S_objInit (pc := 1) (Nat.le_of_ble_eq_true rfl) wd_348 wd_67 wd_68 (Nat.le_of_ble_eq_true rfl) dX6_init_1 ?_
  refine S_aload_n (pc := 4) 0 rfl dX6_init_4 rfl ?_
  refine S_iload_n (pc := 5) 1 rfl dX6_init_5 rfl ?_
  refine S_putIF (pc := 6) fd_X6_number wd_349 rfl rfl dX6_init_6 (fun h1 => ?_)
  refine S_aload_n (pc := 9) 0 rfl dX6_init_9 rfl ?_
  refine S_iload_n (pc := 10) 2 rfl dX6_init_10 rfl ?_
  refine S_putIF (pc := 11) fd_X6_length wd_351 rfl rfl dX6_init_11 (fun h2 => ?_)
  exact Sim.fin ⟨dX6_init_14, rfl, rfl⟩ rfl
theorem M_X6_init (l : Launch) (a0 : Nat) (a1 : Int32) (a2 : Int32) (h : xH) {q : xH} (hq : f_X6_init a0 a1 a2 h = some q) : xM l yX6_init cX6_init 3 none 1 [.ref a0, .int a1, .int a2] h none q := xM_v (by decide +kernel) (Nat.le_of_ble_eq_true rfl) (fun K L => W_X6_init K L a0 a1 a2 h) hq
theorem dX0_init_0 : decode cX0_init 0 = .ok (.aload_n 0, 1) := by decide +kernel
theorem dX0_init_1 : decode cX0_init 1 = .ok (.iload_n 1, 1) := by decide +kernel
theorem dX0_init_2 : decode cX0_init 2 = .ok (.iload_n 2, 1) := by decide +kernel
theorem dX0_init_3 : decode cX0_init 3 = .ok (.invokespecial 3, 3) := by decide +kernel
theorem dX0_init_6 : decode cX0_init 6 = .ok (.return_, 1) := by decide +kernel
set_option maxRecDepth 20000 in
set_option maxHeartbeats 4000000 in
theorem W_X0_init (K : xK) (L : xL) (a0 : Nat) (a1 : Int32) (a2 : Int32) (h : xH) : Sim K L cX0_init RX0 "<init>" 3 2 (fun q : xH => q) (xRv cX0_init) 0 [(0, .ref a0), (1, .int a1), (2, .int a2)] [] h (f_X0_init a0 a1 a2 h) := by
  unfold f_X0_init
  refine S_aload_n (pc := 0) 0 rfl dX0_init_0 rfl ?_
  refine S_iload_n (pc := 1) 1 rfl dX0_init_1 rfl ?_
  refine S_iload_n (pc := 2) 2 rfl dX0_init_2 rfl ?_
  refine S_call_v (pc := 3) (rest := []) (fun q hq => R_I (av := [.int a1, .int a2]) (M_X6_init _ a0 a1 a2 h hq) wd_347 wd_372 wd_346 wd_53 rfl hd_X6_init ⟨Nat.le_of_ble_eq_true rfl, Nat.le_of_ble_eq_true rfl⟩ rfl (Nat.le_of_ble_eq_true rfl) dX0_init_3) (fun _ h => absurd h List.not_mem_nil) (fun q1 => ?_)
  exact Sim.fin ⟨dX0_init_6, rfl, rfl⟩ rfl
theorem M_X0_init (l : Launch) (a0 : Nat) (a1 : Int32) (a2 : Int32) (h : xH) {q : xH} (hq : f_X0_init a0 a1 a2 h = some q) : xM l yX0_init cX0_init 3 none 2 [.ref a0, .int a1, .int a2] h none q := xM_v (by decide +kernel) (Nat.le_of_ble_eq_true rfl) (fun K L => W_X0_init K L a0 a1 a2 h) hq
theorem dX2_init_0 : decode cX2_init 0 = .ok (.aload_n 0, 1) := by decide +kernel
theorem dX2_init_1 : decode cX2_init 1 = .ok (.iload_n 1, 1) := by decide +kernel
theorem dX2_init_2 : decode cX2_init 2 = .ok (.iload_n 2, 1) := by decide +kernel
theorem dX2_init_3 : decode cX2_init 3 = .ok (.invokespecial 3, 3) := by decide +kernel
theorem dX2_init_6 : decode cX2_init 6 = .ok (.return_, 1) := by decide +kernel
set_option maxRecDepth 20000 in
set_option maxHeartbeats 4000000 in
theorem W_X2_init (K : xK) (L : xL) (a0 : Nat) (a1 : Int32) (a2 : Int32) (h : xH) : Sim K L cX2_init RX2 "<init>" 3 3 (fun q : xH => q) (xRv cX2_init) 0 [(0, .ref a0), (1, .int a1), (2, .int a2)] [] h (f_X2_init a0 a1 a2 h) := by
  unfold f_X2_init
  refine S_aload_n (pc := 0) 0 rfl dX2_init_0 rfl ?_
  refine S_iload_n (pc := 1) 1 rfl dX2_init_1 rfl ?_
  refine S_iload_n (pc := 2) 2 rfl dX2_init_2 rfl ?_
  refine S_call_v (pc := 3) (rest := []) (fun q hq => R_I (av := [.int a1, .int a2]) (M_X0_init _ a0 a1 a2 h hq) wd_371 wd_381 wd_370 wd_57 rfl hd_X0_init ⟨Nat.le_of_ble_eq_true rfl, Nat.le_of_ble_eq_true rfl⟩ rfl (Nat.le_of_ble_eq_true rfl) dX2_init_3) (fun _ h => absurd h List.not_mem_nil) (fun q1 => ?_)
  exact Sim.fin ⟨dX2_init_6, rfl, rfl⟩ rfl
theorem M_X2_init (l : Launch) (a0 : Nat) (a1 : Int32) (a2 : Int32) (h : xH) {q : xH} (hq : f_X2_init a0 a1 a2 h = some q) : xM l yX2_init cX2_init 3 none 3 [.ref a0, .int a1, .int a2] h none q := xM_v (by decide +kernel) (Nat.le_of_ble_eq_true rfl) (fun K L => W_X2_init K L a0 a1 a2 h) hq
theorem dX10_init_0 : decode cX10_init 0 = .ok (.aload_n 0, 1) := by decide +kernel
theorem dX10_init_1 : decode cX10_init 1 = .ok (.iload_n 1, 1) := by decide +kernel
theorem dX10_init_2 : decode cX10_init 2 = .ok (.iload_n 2, 1) := by decide +kernel
theorem dX10_init_3 : decode cX10_init 3 = .ok (.invokespecial 3, 3) := by decide +kernel
theorem dX10_init_6 : decode cX10_init 6 = .ok (.return_, 1) := by decide +kernel
set_option maxRecDepth 20000 in
set_option maxHeartbeats 4000000 in
theorem W_X10_init (K : xK) (L : xL) (a0 : Nat) (a1 : Int32) (a2 : Int32) (h : xH) : Sim K L cX10_init RX10 "<init>" 3 2 (fun q : xH => q) (xRv cX10_init) 0 [(0, .ref a0), (1, .int a1), (2, .int a2)] [] h (f_X10_init a0 a1 a2 h) := by
  unfold f_X10_init
  refine S_aload_n (pc := 0) 0 rfl dX10_init_0 rfl ?_
  refine S_iload_n (pc := 1) 1 rfl dX10_init_1 rfl ?_
  refine S_iload_n (pc := 2) 2 rfl dX10_init_2 rfl ?_
  refine S_call_v (pc := 3) (rest := []) (fun q hq => R_I (av := [.int a1, .int a2]) (M_X6_init _ a0 a1 a2 h hq) wd_347 wd_345 wd_346 wd_53 rfl hd_X6_init ⟨Nat.le_of_ble_eq_true rfl, Nat.le_of_ble_eq_true rfl⟩ rfl (Nat.le_of_ble_eq_true rfl) dX10_init_3) (fun _ h => absurd h List.not_mem_nil) (fun q1 => ?_)
  exact Sim.fin ⟨dX10_init_6, rfl, rfl⟩ rfl
theorem M_X10_init (l : Launch) (a0 : Nat) (a1 : Int32) (a2 : Int32) (h : xH) {q : xH} (hq : f_X10_init a0 a1 a2 h = some q) : xM l yX10_init cX10_init 3 none 2 [.ref a0, .int a1, .int a2] h none q := xM_v (by decide +kernel) (Nat.le_of_ble_eq_true rfl) (fun K L => W_X10_init K L a0 a1 a2 h) hq
theorem dX4_init_0 : decode cX4_init 0 = .ok (.aload_n 0, 1) := by decide +kernel
theorem dX4_init_1 : decode cX4_init 1 = .ok (.iload_n 1, 1) := by decide +kernel
theorem dX4_init_2 : decode cX4_init 2 = .ok (.iload_n 2, 1) := by decide +kernel
theorem dX4_init_3 : decode cX4_init 3 = .ok (.invokespecial 3, 3) := by decide +kernel
theorem dX4_init_6 : decode cX4_init 6 = .ok (.return_, 1) := by decide +kernel
set_option maxRecDepth 20000 in
set_option maxHeartbeats 4000000 in
theorem W_X4_init (K : xK) (L : xL) (a0 : Nat) (a1 : Int32) (a2 : Int32) (h : xH) : Sim K L cX4_init RX4 "<init>" 3 3 (fun q : xH => q) (xRv cX4_init) 0 [(0, .ref a0), (1, .int a1), (2, .int a2)] [] h (f_X4_init a0 a1 a2 h) := by
  unfold f_X4_init
  refine S_aload_n (pc := 0) 0 rfl dX4_init_0 rfl ?_
  refine S_iload_n (pc := 1) 1 rfl dX4_init_1 rfl ?_
  refine S_iload_n (pc := 2) 2 rfl dX4_init_2 rfl ?_
  refine S_call_v (pc := 3) (rest := []) (fun q hq => R_I (av := [.int a1, .int a2]) (M_X10_init _ a0 a1 a2 h hq) wd_344 wd_342 wd_343 wd_54 rfl hd_X10_init ⟨Nat.le_of_ble_eq_true rfl, Nat.le_of_ble_eq_true rfl⟩ rfl (Nat.le_of_ble_eq_true rfl) dX4_init_3) (fun _ h => absurd h List.not_mem_nil) (fun q1 => ?_)
  exact Sim.fin ⟨dX4_init_6, rfl, rfl⟩ rfl
theorem M_X4_init (l : Launch) (a0 : Nat) (a1 : Int32) (a2 : Int32) (h : xH) {q : xH} (hq : f_X4_init a0 a1 a2 h = some q) : xM l yX4_init cX4_init 3 none 3 [.ref a0, .int a1, .int a2] h none q := xM_v (by decide +kernel) (Nat.le_of_ble_eq_true rfl) (fun K L => W_X4_init K L a0 a1 a2 h) hq
theorem dX8_init_0 : decode cX8_init 0 = .ok (.aload_n 0, 1) := by decide +kernel
theorem dX8_init_1 : decode cX8_init 1 = .ok (.iload_n 1, 1) := by decide +kernel
theorem dX8_init_2 : decode cX8_init 2 = .ok (.iload_n 2, 1) := by decide +kernel
theorem dX8_init_3 : decode cX8_init 3 = .ok (.invokespecial 3, 3) := by decide +kernel
theorem dX8_init_6 : decode cX8_init 6 = .ok (.return_, 1) := by decide +kernel
set_option maxRecDepth 20000 in
set_option maxHeartbeats 4000000 in
theorem W_X8_init (K : xK) (L : xL) (a0 : Nat) (a1 : Int32) (a2 : Int32) (h : xH) : Sim K L cX8_init RX8 "<init>" 3 3 (fun q : xH => q) (xRv cX8_init) 0 [(0, .ref a0), (1, .int a1), (2, .int a2)] [] h (f_X8_init a0 a1 a2 h) := by
  unfold f_X8_init
  refine S_aload_n (pc := 0) 0 rfl dX8_init_0 rfl ?_
  refine S_iload_n (pc := 1) 1 rfl dX8_init_1 rfl ?_
  refine S_iload_n (pc := 2) 2 rfl dX8_init_2 rfl ?_
  refine S_call_v (pc := 3) (rest := []) (fun q hq => R_I (av := [.int a1, .int a2]) (M_X10_init _ a0 a1 a2 h hq) wd_344 wd_363 wd_343 wd_54 rfl hd_X10_init ⟨Nat.le_of_ble_eq_true rfl, Nat.le_of_ble_eq_true rfl⟩ rfl (Nat.le_of_ble_eq_true rfl) dX8_init_3) (fun _ h => absurd h List.not_mem_nil) (fun q1 => ?_)
  exact Sim.fin ⟨dX8_init_6, rfl, rfl⟩ rfl
theorem M_X8_init (l : Launch) (a0 : Nat) (a1 : Int32) (a2 : Int32) (h : xH) {q : xH} (hq : f_X8_init a0 a1 a2 h = some q) : xM l yX8_init cX8_init 3 none 3 [.ref a0, .int a1, .int a2] h none q := xM_v (by decide +kernel) (Nat.le_of_ble_eq_true rfl) (fun K L => W_X8_init K L a0 a1 a2 h) hq
theorem dX11_newRun_0 : decode cX11_newRun 0 = .ok (.iload_n 0, 1) := by decide +kernel
theorem dX11_newRun_1 : decode cX11_newRun 1 = .ok (.tableswitch 71 2 5 #[31, 41, 51, 61], 31) := by decide +kernel
theorem dX11_newRun_32 : decode cX11_newRun 32 = .ok (.new 313, 3) := by decide +kernel
theorem dX11_newRun_35 : decode cX11_newRun 35 = .ok (.dup, 1) := by decide +kernel
theorem dX11_newRun_36 : decode cX11_newRun 36 = .ok (.iload_n 1, 1) := by decide +kernel
theorem dX11_newRun_37 : decode cX11_newRun 37 = .ok (.iload_n 2, 1) := by decide +kernel
theorem dX11_newRun_38 : decode cX11_newRun 38 = .ok (.invokespecial 315, 3) := by decide +kernel
theorem dX11_newRun_41 : decode cX11_newRun 41 = .ok (.areturn, 1) := by decide +kernel
theorem dX11_newRun_42 : decode cX11_newRun 42 = .ok (.new 317, 3) := by decide +kernel
theorem dX11_newRun_45 : decode cX11_newRun 45 = .ok (.dup, 1) := by decide +kernel
theorem dX11_newRun_46 : decode cX11_newRun 46 = .ok (.iload_n 1, 1) := by decide +kernel
theorem dX11_newRun_47 : decode cX11_newRun 47 = .ok (.iload_n 2, 1) := by decide +kernel
theorem dX11_newRun_48 : decode cX11_newRun 48 = .ok (.invokespecial 319, 3) := by decide +kernel
theorem dX11_newRun_51 : decode cX11_newRun 51 = .ok (.areturn, 1) := by decide +kernel
theorem dX11_newRun_52 : decode cX11_newRun 52 = .ok (.new 320, 3) := by decide +kernel
theorem dX11_newRun_55 : decode cX11_newRun 55 = .ok (.dup, 1) := by decide +kernel
theorem dX11_newRun_56 : decode cX11_newRun 56 = .ok (.iload_n 1, 1) := by decide +kernel
theorem dX11_newRun_57 : decode cX11_newRun 57 = .ok (.iload_n 2, 1) := by decide +kernel
theorem dX11_newRun_58 : decode cX11_newRun 58 = .ok (.invokespecial 322, 3) := by decide +kernel
theorem dX11_newRun_61 : decode cX11_newRun 61 = .ok (.areturn, 1) := by decide +kernel
theorem dX11_newRun_62 : decode cX11_newRun 62 = .ok (.new 323, 3) := by decide +kernel
theorem dX11_newRun_65 : decode cX11_newRun 65 = .ok (.dup, 1) := by decide +kernel
theorem dX11_newRun_66 : decode cX11_newRun 66 = .ok (.iload_n 1, 1) := by decide +kernel
theorem dX11_newRun_67 : decode cX11_newRun 67 = .ok (.iload_n 2, 1) := by decide +kernel
theorem dX11_newRun_68 : decode cX11_newRun 68 = .ok (.invokespecial 325, 3) := by decide +kernel
theorem dX11_newRun_71 : decode cX11_newRun 71 = .ok (.areturn, 1) := by decide +kernel
theorem dX11_newRun_72 : decode cX11_newRun 72 = .ok (.new 326, 3) := by decide +kernel
theorem dX11_newRun_75 : decode cX11_newRun 75 = .ok (.dup, 1) := by decide +kernel
theorem dX11_newRun_76 : decode cX11_newRun 76 = .ok (.iload_n 1, 1) := by decide +kernel
theorem dX11_newRun_77 : decode cX11_newRun 77 = .ok (.iload_n 2, 1) := by decide +kernel
theorem dX11_newRun_78 : decode cX11_newRun 78 = .ok (.invokespecial 328, 3) := by decide +kernel
theorem dX11_newRun_81 : decode cX11_newRun 81 = .ok (.areturn, 1) := by decide +kernel
set_option maxRecDepth 20000 in
set_option maxHeartbeats 4000000 in
theorem W_X11_newRun (K : xK) (L : xL) (a0 : Int32) (a1 : Int32) (a2 : Int32) (h : xH) : Sim K L cX11_newRun RX11 "newRun" 3 4 (fun q : Nat × xH => q.2) (xRr cX11_newRun) 0 [(0, .int a0), (1, .int a1), (2, .int a2)] [] h (f_X11_newRun a0 a1 a2 h) := by
  unfold f_X11_newRun
  refine S_iload_n (pc := 0) 0 rfl dX11_newRun_0 rfl ?_
  refine S_tabIn (pc := 1) (v := 2) (tgt := 32) dX11_newRun_1 (by decide) (by decide) rfl (by decide) ?_ (fun hs2 => ?_)
  · refine S_new (pc := 32) (ci := 4) (fs := [.int 0, .int 0]) rfl inG4 tyX4_ok wd_337 wd_338 wd_55 nf_4 rfl (fun _ => rfl) nc_4 dX11_newRun_32 ?_
    refine S_dup (pc := 35) rfl dX11_newRun_35 ?_
    refine S_iload_n (pc := 36) 1 rfl dX11_newRun_36 rfl ?_
    refine S_iload_n (pc := 37) 2 rfl dX11_newRun_37 rfl ?_
    refine S_call_v (pc := 38) (rest := [.ref h.length]) (fun q hq => R_I (av := [.int a1, .int a2]) (M_X4_init _ h.length a1 a2 (h ++ [.inr (4, [.int 0, .int 0])]) hq) wd_341 wd_339 wd_340 wd_55 rfl hd_X4_init ⟨Nat.le_of_ble_eq_true rfl, Nat.le_of_ble_eq_true rfl⟩ rfl (Nat.le_of_ble_eq_true rfl) dX11_newRun_38) (fun _ h => List.mem_cons_of_mem _ (List.mem_cons_of_mem _ (List.mem_cons_of_mem _ (h)))) (fun q1 => ?_)
    exact Sim.fin ⟨dX11_newRun_41, rfl, rfl⟩ rfl
  refine S_tabIn (pc := 1) (v := 3) (tgt := 42) dX11_newRun_1 (by decide) (by decide) rfl (by decide) ?_ (fun hs4 => ?_)
  · refine S_new (pc := 42) (ci := 7) (fs := [.int 0, .int 0]) rfl inG8 tyX8_ok wd_358 wd_359 wd_56 nf_7 rfl (fun _ => rfl) nc_7 dX11_newRun_42 ?_
    refine S_dup (pc := 45) rfl dX11_newRun_45 ?_
    refine S_iload_n (pc := 46) 1 rfl dX11_newRun_46 rfl ?_
    refine S_iload_n (pc := 47) 2 rfl dX11_newRun_47 rfl ?_
    refine S_call_v (pc := 48) (rest := [.ref h.length]) (fun q hq => R_I (av := [.int a1, .int a2]) (M_X8_init _ h.length a1 a2 (h ++ [.inr (7, [.int 0, .int 0])]) hq) wd_362 wd_360 wd_361 wd_56 rfl hd_X8_init ⟨Nat.le_of_ble_eq_true rfl, Nat.le_of_ble_eq_true rfl⟩ rfl (Nat.le_of_ble_eq_true rfl) dX11_newRun_48) (fun _ h => List.mem_cons_of_mem _ (List.mem_cons_of_mem _ (List.mem_cons_of_mem _ (h)))) (fun q3 => ?_)
    exact Sim.fin ⟨dX11_newRun_51, rfl, rfl⟩ rfl
  refine S_tabIn (pc := 1) (v := 4) (tgt := 52) dX11_newRun_1 (by decide) (by decide) rfl (by decide) ?_ (fun hs6 => ?_)
  · refine S_new (pc := 52) (ci := 0) (fs := [.int 0, .int 0]) rfl inG0 tyX0_ok wd_367 wd_368 wd_57 nf_0 rfl (fun _ => rfl) nc_0 dX11_newRun_52 ?_
    refine S_dup (pc := 55) rfl dX11_newRun_55 ?_
    refine S_iload_n (pc := 56) 1 rfl dX11_newRun_56 rfl ?_
    refine S_iload_n (pc := 57) 2 rfl dX11_newRun_57 rfl ?_
    refine S_call_v (pc := 58) (rest := [.ref h.length]) (fun q hq => R_I (av := [.int a1, .int a2]) (M_X0_init _ h.length a1 a2 (h ++ [.inr (0, [.int 0, .int 0])]) hq) wd_371 wd_369 wd_370 wd_57 rfl hd_X0_init ⟨Nat.le_of_ble_eq_true rfl, Nat.le_of_ble_eq_true rfl⟩ rfl (Nat.le_of_ble_eq_true rfl) dX11_newRun_58) (fun _ h => List.mem_cons_of_mem _ (List.mem_cons_of_mem _ (List.mem_cons_of_mem _ (h)))) (fun q5 => ?_)
    exact Sim.fin ⟨dX11_newRun_61, rfl, rfl⟩ rfl
  refine S_tabIn (pc := 1) (v := 5) (tgt := 62) dX11_newRun_1 (by decide) (by decide) rfl (by decide) ?_ (fun hs8 => ?_)
  · refine S_new (pc := 62) (ci := 2) (fs := [.int 0, .int 0]) rfl inG2 tyX2_ok wd_376 wd_377 wd_58 nf_2 rfl (fun _ => rfl) nc_2 dX11_newRun_62 ?_
    refine S_dup (pc := 65) rfl dX11_newRun_65 ?_
    refine S_iload_n (pc := 66) 1 rfl dX11_newRun_66 rfl ?_
    refine S_iload_n (pc := 67) 2 rfl dX11_newRun_67 rfl ?_
    refine S_call_v (pc := 68) (rest := [.ref h.length]) (fun q hq => R_I (av := [.int a1, .int a2]) (M_X2_init _ h.length a1 a2 (h ++ [.inr (2, [.int 0, .int 0])]) hq) wd_380 wd_378 wd_379 wd_58 rfl hd_X2_init ⟨Nat.le_of_ble_eq_true rfl, Nat.le_of_ble_eq_true rfl⟩ rfl (Nat.le_of_ble_eq_true rfl) dX11_newRun_68) (fun _ h => List.mem_cons_of_mem _ (List.mem_cons_of_mem _ (List.mem_cons_of_mem _ (h)))) (fun q7 => ?_)
    exact Sim.fin ⟨dX11_newRun_71, rfl, rfl⟩ rfl
  refine S_tabOut (pc := 1) (tgt := 72) dX11_newRun_1 (by have := lv_neT hs2 (show (2 : Int32).toInt = 2 from by decide); have := lv_neT hs4 (show (3 : Int32).toInt = 3 from by decide); have := lv_neT hs6 (show (4 : Int32).toInt = 4 from by decide); have := lv_neT hs8 (show (5 : Int32).toInt = 5 from by decide); omega) (by decide) ?_
  refine S_new (pc := 72) (ci := 9) (fs := [.int 0, .int 0]) rfl inG10 tyX10_ok wd_385 wd_386 wd_54 nf_9 rfl (fun _ => rfl) nc_9 dX11_newRun_72 ?_
  refine S_dup (pc := 75) rfl dX11_newRun_75 ?_
  refine S_iload_n (pc := 76) 1 rfl dX11_newRun_76 rfl ?_
  refine S_iload_n (pc := 77) 2 rfl dX11_newRun_77 rfl ?_
  refine S_call_v (pc := 78) (rest := [.ref h.length]) (fun q hq => R_I (av := [.int a1, .int a2]) (M_X10_init _ h.length a1 a2 (h ++ [.inr (9, [.int 0, .int 0])]) hq) wd_344 wd_387 wd_343 wd_54 rfl hd_X10_init ⟨Nat.le_of_ble_eq_true rfl, Nat.le_of_ble_eq_true rfl⟩ rfl (Nat.le_of_ble_eq_true rfl) dX11_newRun_78) (fun _ h => List.mem_cons_of_mem _ (List.mem_cons_of_mem _ (List.mem_cons_of_mem _ (h)))) (fun q9 => ?_)
  exact Sim.fin ⟨dX11_newRun_81, rfl, rfl⟩ rfl
theorem M_X11_newRun (l : Launch) (a0 : Int32) (a1 : Int32) (a2 : Int32) (h : xH) {q : Nat × xH} (hq : f_X11_newRun a0 a1 a2 h = some q) : xM l yX11_newRun cX11_newRun 3 (some (.object "ClassBits$Run")) 4 [.int a0, .int a1, .int a2] h (some (.ref q.1)) q.2 := xM_r (by decide +kernel) (Nat.le_of_ble_eq_true rfl) (fun K L => W_X11_newRun K L a0 a1 a2 h) hq
theorem dX11_takeOverRuns_0 : decode cX11_takeOverRuns 0 = .ok (.aload_n 0, 1) := by decide +kernel
theorem dX11_takeOverRuns_1 : decode cX11_takeOverRuns 1 = .ok (.aload_n 0, 1) := by decide +kernel
theorem dX11_takeOverRuns_2 : decode cX11_takeOverRuns 2 = .ok (.getfield 43, 3) := by decide +kernel
theorem dX11_takeOverRuns_5 : decode cX11_takeOverRuns 5 = .ok (.getfield 291, 3) := by decide +kernel
theorem dX11_takeOverRuns_8 : decode cX11_takeOverRuns 8 = .ok (.putfield 141, 3) := by decide +kernel
theorem dX11_takeOverRuns_11 : decode cX11_takeOverRuns 11 = .ok (.iconst 0, 1) := by decide +kernel
theorem dX11_takeOverRuns_12 : decode cX11_takeOverRuns 12 = .ok (.istore_n 1, 1) := by decide +kernel
theorem dX11_takeOverRuns_13 : decode cX11_takeOverRuns 13 = .ok (.iload_n 1, 1) := by decide +kernel
theorem dX11_takeOverRuns_14 : decode cX11_takeOverRuns 14 = .ok (.bipush 12, 2) := by decide +kernel
theorem dX11_takeOverRuns_16 : decode cX11_takeOverRuns 16 = .ok (.if_icmp .ge 49, 3) := by decide +kernel
theorem dX11_takeOverRuns_19 : decode cX11_takeOverRuns 19 = .ok (.aload_n 0, 1) := by decide +kernel
theorem dX11_takeOverRuns_20 : decode cX11_takeOverRuns 20 = .ok (.getfield 49, 3) := by decide +kernel
theorem dX11_takeOverRuns_23 : decode cX11_takeOverRuns 23 = .ok (.iload_n 1, 1) := by decide +kernel
theorem dX11_takeOverRuns_24 : decode cX11_takeOverRuns 24 = .ok (.iload_n 1, 1) := by decide +kernel
theorem dX11_takeOverRuns_25 : decode cX11_takeOverRuns 25 = .ok (.aload_n 0, 1) := by decide +kernel
theorem dX11_takeOverRuns_26 : decode cX11_takeOverRuns 26 = .ok (.getfield 141, 3) := by decide +kernel
theorem dX11_takeOverRuns_29 : decode cX11_takeOverRuns 29 = .ok (.if_icmp .ge 28, 3) := by decide +kernel
theorem dX11_takeOverRuns_32 : decode cX11_takeOverRuns 32 = .ok (.aload_n 0, 1) := by decide +kernel
theorem dX11_takeOverRuns_33 : decode cX11_takeOverRuns 33 = .ok (.getfield 43, 3) := by decide +kernel
theorem dX11_takeOverRuns_36 : decode cX11_takeOverRuns 36 = .ok (.getfield 292, 3) := by decide +kernel
theorem dX11_takeOverRuns_39 : decode cX11_takeOverRuns 39 = .ok (.iload_n 1, 1) := by decide +kernel
theorem dX11_takeOverRuns_40 : decode cX11_takeOverRuns 40 = .ok (.iaload, 1) := by decide +kernel
theorem dX11_takeOverRuns_41 : decode cX11_takeOverRuns 41 = .ok (.iload_n 1, 1) := by decide +kernel
theorem dX11_takeOverRuns_42 : decode cX11_takeOverRuns 42 = .ok (.aload_n 0, 1) := by decide +kernel
theorem dX11_takeOverRuns_43 : decode cX11_takeOverRuns 43 = .ok (.getfield 43, 3) := by decide +kernel
theorem dX11_takeOverRuns_46 : decode cX11_takeOverRuns 46 = .ok (.getfield 295, 3) := by decide +kernel
theorem dX11_takeOverRuns_49 : decode cX11_takeOverRuns 49 = .ok (.iload_n 1, 1) := by decide +kernel
theorem dX11_takeOverRuns_50 : decode cX11_takeOverRuns 50 = .ok (.iaload, 1) := by decide +kernel
theorem dX11_takeOverRuns_51 : decode cX11_takeOverRuns 51 = .ok (.invokestatic 298, 3) := by decide +kernel
theorem dX11_takeOverRuns_54 : decode cX11_takeOverRuns 54 = .ok (.goto 4, 3) := by decide +kernel
theorem dX11_takeOverRuns_57 : decode cX11_takeOverRuns 57 = .ok (.aconst_null, 1) := by decide +kernel
theorem dX11_takeOverRuns_58 : decode cX11_takeOverRuns 58 = .ok (.aastore, 1) := by decide +kernel
theorem dX11_takeOverRuns_59 : decode cX11_takeOverRuns 59 = .ok (.iinc 1 1, 3) := by decide +kernel
theorem dX11_takeOverRuns_62 : decode cX11_takeOverRuns 62 = .ok (.goto (-49), 3) := by decide +kernel
theorem dX11_takeOverRuns_65 : decode cX11_takeOverRuns 65 = .ok (.return_, 1) := by decide +kernel
set_option maxRecDepth 20000 in
set_option maxHeartbeats 4000000 in
theorem L_X11_takeOverRuns_13 (K : xK) (L : xL) : ∀ (n : Nat) (a0 : Nat) (a1 : Int32) (h : xH), Sim K L cX11_takeOverRuns RX11 "takeOverRuns" 2 5 (fun q : Int32 × xH => q.2) (fun q pc' ls' st' h' => pc' = 65 ∧ ls' = [(0, .ref a0), (1, .int q.1)] ∧ st' = [] ∧ h' = q.2) 13 [(0, .ref a0), (1, .int a1)] [] h (f_X11_takeOverRuns_L13 n a0 a1 h) := by
  intro n
  induction n with
  | zero =>
    intro a0 a1 h
    exact Sim.none
  | succ n ih =>
    intro a0 a1 h
    unfold f_X11_takeOverRuns_L13
    refine S_iload_n (pc := 13) 1 rfl dX11_takeOverRuns_13 rfl ?_
    refine S_bipush (pc := 14) dX11_takeOverRuns_14 bi_12 ?_
    refine S_icmp_ge (pc := 16) (tgt := 65) dX11_takeOverRuns_16 (by decide) ?_ ?_
    · refine S_sub [0, 1] rfl ?_
      exact Sim.fin ⟨rfl, rfl, rfl, rfl⟩ rfl
    · refine S_aload_n (pc := 19) 0 rfl dX11_takeOverRuns_19 rfl ?_
      refine S_getR (pc := 20) fd_X11_runs wd_196 dX11_takeOverRuns_20 (fun v4 => ?_)
      refine S_iload_n (pc := 23) 1 rfl dX11_takeOverRuns_23 rfl ?_
      refine S_iload_n (pc := 24) 1 rfl dX11_takeOverRuns_24 rfl ?_
      refine S_aload_n (pc := 25) 0 rfl dX11_takeOverRuns_25 rfl ?_
      refine S_getI (pc := 26) fd_X11_runCount wd_198 dX11_takeOverRuns_26 (fun v5 => ?_)
      refine S_icmp_ge (pc := 29) (tgt := 57) dX11_takeOverRuns_29 (by decide) ?_ ?_
      · refine S_null (pc := 57) dX11_takeOverRuns_57 ?_
        refine S_uN (pc := 58) (fun _ => rfl) dX11_takeOverRuns_58 (fun h6 => ?_)
        refine S_iinc (pc := 59) (v := a1 + (1 : Int32)) 1 rfl dX11_takeOverRuns_59 (x_inc ic_1) (Nat.le_of_ble_eq_true rfl) rfl ?_
        refine S_goto (pc := 62) (tgt := 13) dX11_takeOverRuns_62 (by decide) ?_
        refine S_sub [1, 0] rfl ?_
        exact ih a0 (a1 + (1 : Int32)) h6
      · refine S_aload_n (pc := 32) 0 rfl dX11_takeOverRuns_32 rfl ?_
        refine S_getR (pc := 33) fd_X11_reader wd_195 dX11_takeOverRuns_33 (fun v7 => ?_)
        refine S_getR (pc := 36) fd_X7_kinds wd_119 dX11_takeOverRuns_36 (fun v8 => ?_)
        refine S_iload_n (pc := 39) 1 rfl dX11_takeOverRuns_39 rfl ?_
        refine S_aI (pc := 40) dX11_takeOverRuns_40 (fun v9 => ?_)
        refine S_iload_n (pc := 41) 1 rfl dX11_takeOverRuns_41 rfl ?_
        refine S_aload_n (pc := 42) 0 rfl dX11_takeOverRuns_42 rfl ?_
        refine S_getR (pc := 43) fd_X11_reader wd_195 dX11_takeOverRuns_43 (fun v10 => ?_)
        refine S_getR (pc := 46) fd_X7_lengths wd_121 dX11_takeOverRuns_46 (fun v11 => ?_)
        refine S_iload_n (pc := 49) 1 rfl dX11_takeOverRuns_49 rfl ?_
        refine S_aI (pc := 50) dX11_takeOverRuns_50 (fun v12 => ?_)
        refine S_call_r (pc := 51) (rest := [.int a1, .ref v4]) (fun q hq => R_S (av := [.int v9, .int a1, .int v12]) (M_X11_newRun _ v9 a1 v12 h hq) wd_336 wd_334 wd_335 wd_44 hd_X11_newRun ⟨Nat.le_of_ble_eq_true rfl, Nat.le_of_ble_eq_true rfl⟩ rfl (Nat.le_of_ble_eq_true rfl) dX11_takeOverRuns_51) (fun _ h => List.mem_cons_of_mem _ (List.mem_cons_of_mem _ (List.mem_cons_of_mem _ (h)))) (fun q13 => ?_)
        refine S_goto (pc := 54) (tgt := 58) dX11_takeOverRuns_54 (by decide) ?_
        refine Sim.ite (fun hk16 => ?_) (fun _ => ?_)
        · refine S_uR (pc := 58) (fun _ => rfl) hk16 rfl (Or.inr (by decide +kernel)) dX11_takeOverRuns_58 (fun h15 => ?_)
          refine S_iinc (pc := 59) (v := a1 + (1 : Int32)) 1 rfl dX11_takeOverRuns_59 (x_inc ic_1) (Nat.le_of_ble_eq_true rfl) rfl ?_
          refine S_goto (pc := 62) (tgt := 13) dX11_takeOverRuns_62 (by decide) ?_
          refine S_sub [1, 0] rfl ?_
          exact ih a0 (a1 + (1 : Int32)) h15
        refine Sim.ite (fun hk18 => ?_) (fun _ => ?_)
        · refine S_uR (pc := 58) (fun _ => rfl) hk18 rfl (Or.inr (by decide +kernel)) dX11_takeOverRuns_58 (fun h17 => ?_)
          refine S_iinc (pc := 59) (v := a1 + (1 : Int32)) 1 rfl dX11_takeOverRuns_59 (x_inc ic_1) (Nat.le_of_ble_eq_true rfl) rfl ?_
          refine S_goto (pc := 62) (tgt := 13) dX11_takeOverRuns_62 (by decide) ?_
          refine S_sub [1, 0] rfl ?_
          exact ih a0 (a1 + (1 : Int32)) h17
        refine Sim.ite (fun hk20 => ?_) (fun _ => ?_)
        · refine S_uR (pc := 58) (fun _ => rfl) hk20 rfl (Or.inr (by decide +kernel)) dX11_takeOverRuns_58 (fun h19 => ?_)
          refine S_iinc (pc := 59) (v := a1 + (1 : Int32)) 1 rfl dX11_takeOverRuns_59 (x_inc ic_1) (Nat.le_of_ble_eq_true rfl) rfl ?_
          refine S_goto (pc := 62) (tgt := 13) dX11_takeOverRuns_62 (by decide) ?_
          refine S_sub [1, 0] rfl ?_
          exact ih a0 (a1 + (1 : Int32)) h19
        refine Sim.ite (fun hk22 => ?_) (fun _ => ?_)
        · refine S_uR (pc := 58) (fun _ => rfl) hk22 rfl (Or.inr (by decide +kernel)) dX11_takeOverRuns_58 (fun h21 => ?_)
          refine S_iinc (pc := 59) (v := a1 + (1 : Int32)) 1 rfl dX11_takeOverRuns_59 (x_inc ic_1) (Nat.le_of_ble_eq_true rfl) rfl ?_
          refine S_goto (pc := 62) (tgt := 13) dX11_takeOverRuns_62 (by decide) ?_
          refine S_sub [1, 0] rfl ?_
          exact ih a0 (a1 + (1 : Int32)) h21
        refine Sim.ite (fun hk24 => ?_) (fun _ => ?_)
        · refine S_uR (pc := 58) (fun _ => rfl) hk24 rfl (Or.inr (by decide +kernel)) dX11_takeOverRuns_58 (fun h23 => ?_)
          refine S_iinc (pc := 59) (v := a1 + (1 : Int32)) 1 rfl dX11_takeOverRuns_59 (x_inc ic_1) (Nat.le_of_ble_eq_true rfl) rfl ?_
          refine S_goto (pc := 62) (tgt := 13) dX11_takeOverRuns_62 (by decide) ?_
          refine S_sub [1, 0] rfl ?_
          exact ih a0 (a1 + (1 : Int32)) h23
        exact Sim.none
set_option maxRecDepth 20000 in
set_option maxHeartbeats 4000000 in
theorem W_X11_takeOverRuns (K : xK) (L : xL) (a0 : Nat) (h : xH) : Sim K L cX11_takeOverRuns RX11 "takeOverRuns" 2 5 (fun q : xH => q) (xRv cX11_takeOverRuns) 0 [(0, .ref a0)] [] h (f_X11_takeOverRuns a0 h) := by
  unfold f_X11_takeOverRuns
  refine S_aload_n (pc := 0) 0 rfl dX11_takeOverRuns_0 rfl ?_
  refine S_aload_n (pc := 1) 0 rfl dX11_takeOverRuns_1 rfl ?_
  refine S_getR (pc := 2) fd_X11_reader wd_195 dX11_takeOverRuns_2 (fun v1 => ?_)
  refine S_getI (pc := 5) fd_X7_runCount wd_127 dX11_takeOverRuns_5 (fun v2 => ?_)
  refine S_putI (pc := 8) fd_X11_runCount wd_198 rfl rfl dX11_takeOverRuns_8 (fun h3 => ?_)
  refine S_iconst (pc := 11) dX11_takeOverRuns_11 ic_0 ?_
  refine S_istore_n (pc := 12) dX11_takeOverRuns_12 rfl (Nat.le_of_ble_eq_true rfl) rfl ?_
  refine S_sub [1, 0] rfl ?_
  refine Sim.bind (hs := fun q25 : Int32 × xH => q25.2) (px := 65) (lsx := fun q25 => [(0, .ref a0), (1, .int q25.1)]) (L_X11_takeOverRuns_13 K L xN a0 (0 : Int32) h3) (fun q25 => ?_)
  exact Sim.fin ⟨dX11_takeOverRuns_65, rfl, rfl⟩ rfl
theorem M_X11_takeOverRuns (l : Launch) (a0 : Nat) (h : xH) {q : xH} (hq : f_X11_takeOverRuns a0 h = some q) : xM l yX11_takeOverRuns cX11_takeOverRuns 2 none 5 [.ref a0] h none q := xM_v (by decide +kernel) (Nat.le_of_ble_eq_true rfl) (fun K L => W_X11_takeOverRuns K L a0 h) hq
theorem dX1_appendRun_0 : decode cX1_appendRun 0 = .ok (.iconst 0, 1) := by decide +kernel
theorem dX1_appendRun_1 : decode cX1_appendRun 1 = .ok (.istore_n 2, 1) := by decide +kernel
theorem dX1_appendRun_2 : decode cX1_appendRun 2 = .ok (.iload_n 2, 1) := by decide +kernel
theorem dX1_appendRun_3 : decode cX1_appendRun 3 = .ok (.aload_n 1, 1) := by decide +kernel
theorem dX1_appendRun_4 : decode cX1_appendRun 4 = .ok (.getfield 23, 3) := by decide +kernel
theorem dX1_appendRun_7 : decode cX1_appendRun 7 = .ok (.if_icmp .ge 18, 3) := by decide +kernel
theorem dX1_appendRun_10 : decode cX1_appendRun 10 = .ok (.aload_n 0, 1) := by decide +kernel
theorem dX1_appendRun_11 : decode cX1_appendRun 11 = .ok (.aload_n 1, 1) := by decide +kernel
theorem dX1_appendRun_12 : decode cX1_appendRun 12 = .ok (.iload_n 2, 1) := by decide +kernel
theorem dX1_appendRun_13 : decode cX1_appendRun 13 = .ok (.invokevirtual 26, 3) := by decide +kernel
theorem dX1_appendRun_16 : decode cX1_appendRun 16 = .ok (.invokevirtual 30, 3) := by decide +kernel
theorem dX1_appendRun_19 : decode cX1_appendRun 19 = .ok (.iinc 2 1, 3) := by decide +kernel
theorem dX1_appendRun_22 : decode cX1_appendRun 22 = .ok (.goto (-20), 3) := by decide +kernel
theorem dX1_appendRun_25 : decode cX1_appendRun 25 = .ok (.return_, 1) := by decide +kernel
set_option maxRecDepth 20000 in
set_option maxHeartbeats 4000000 in
theorem L_X1_appendRun_2 (K : xK) (L : xL) : ∀ (n : Nat) (a0 : Nat) (a1 : Nat) (a2 : Int32) (h : xH), Sim K L cX1_appendRun RX1 "appendRun" 3 2 (fun q : Int32 × xH => q.2) (fun q pc' ls' st' h' => pc' = 25 ∧ ls' = [(0, .ref a0), (1, .ref a1), (2, .int q.1)] ∧ st' = [] ∧ h' = q.2) 2 [(0, .ref a0), (1, .ref a1), (2, .int a2)] [] h (f_X1_appendRun_L2 n a0 a1 a2 h) := by
  intro n
  induction n with
  | zero =>
    intro a0 a1 a2 h
    exact Sim.none
  | succ n ih =>
    intro a0 a1 a2 h
    unfold f_X1_appendRun_L2
    refine S_iload_n (pc := 2) 2 rfl dX1_appendRun_2 rfl ?_
    refine S_aload_n (pc := 3) 1 rfl dX1_appendRun_3 rfl ?_
    refine S_getI (pc := 4) fd_X6_length wd_352 dX1_appendRun_4 (fun v1 => ?_)
    refine S_icmp_ge (pc := 7) (tgt := 25) dX1_appendRun_7 (by decide) ?_ ?_
    · refine S_sub [0, 1, 2] rfl ?_
      exact Sim.fin ⟨rfl, rfl, rfl, rfl⟩ rfl
    · refine S_aload_n (pc := 10) 0 rfl dX1_appendRun_10 rfl ?_
      refine S_aload_n (pc := 11) 1 rfl dX1_appendRun_11 rfl ?_
      refine S_iload_n (pc := 12) 2 rfl dX1_appendRun_12 rfl ?_
      refine S_call_i (pc := 13) (rest := [.ref a0]) (fun q hq => (x_if hq).elim (fun z => R_U (av := [.int a2]) (q := (RX0, TX0, 2)) (x := ⟨"ClassBits$Run", "bitOf", "(I)I"⟩) (owner := RX6) (M_X0_bitOf _ a1 a2 h z.2) z.1 rfl wd_418 wd_413 wd_417 wd_57 wd_416 wd_415 (Or.inr (by decide +kernel)) ⟨by decide, by decide, hd_X0_bitOf.2.2⟩ ⟨Nat.le_of_ble_eq_true rfl, Nat.le_of_ble_eq_true rfl⟩ rfl (Nat.le_of_ble_eq_true rfl) dX1_appendRun_13) (fun hq => (x_if hq).elim (fun z => R_U (av := [.int a2]) (q := (RX2, TX2, 2)) (x := ⟨"ClassBits$Run", "bitOf", "(I)I"⟩) (owner := RX6) (M_X2_bitOf _ a1 a2 h z.2) z.1 rfl wd_421 wd_413 wd_420 wd_58 wd_419 wd_415 (Or.inr (by decide +kernel)) ⟨by decide, by decide, hd_X2_bitOf.2.2⟩ ⟨Nat.le_of_ble_eq_true rfl, Nat.le_of_ble_eq_true rfl⟩ rfl (Nat.le_of_ble_eq_true rfl) dX1_appendRun_13) (fun hq => (x_if hq).elim (fun z => R_U (av := [.int a2]) (q := (RX4, TX4, 2)) (x := ⟨"ClassBits$Run", "bitOf", "(I)I"⟩) (owner := RX6) (M_X4_bitOf _ a1 a2 h z.2) z.1 rfl wd_425 wd_413 wd_424 wd_55 wd_423 wd_415 (Or.inr (by decide +kernel)) ⟨by decide, by decide, hd_X4_bitOf.2.2⟩ ⟨Nat.le_of_ble_eq_true rfl, Nat.le_of_ble_eq_true rfl⟩ rfl (Nat.le_of_ble_eq_true rfl) dX1_appendRun_13) (fun hq => (x_if hq).elim (fun z => R_U (av := [.int a2]) (q := (RX8, TX8, 2)) (x := ⟨"ClassBits$Run", "bitOf", "(I)I"⟩) (owner := RX6) (M_X8_bitOf _ a1 a2 h z.2) z.1 rfl wd_428 wd_413 wd_427 wd_56 wd_426 wd_415 (Or.inr (by decide +kernel)) ⟨by decide, by decide, hd_X8_bitOf.2.2⟩ ⟨Nat.le_of_ble_eq_true rfl, Nat.le_of_ble_eq_true rfl⟩ rfl (Nat.le_of_ble_eq_true rfl) dX1_appendRun_13) (fun hq => (x_if hq).elim (fun z => R_U (av := [.int a2]) (q := (RX10, TX10, 2)) (x := ⟨"ClassBits$Run", "bitOf", "(I)I"⟩) (owner := RX6) (M_X10_bitOf _ a1 a2 h z.2) z.1 rfl wd_431 wd_413 wd_430 wd_54 wd_429 wd_415 (Or.inr (by decide +kernel)) ⟨by decide, by decide, hd_X10_bitOf.2.2⟩ ⟨Nat.le_of_ble_eq_true rfl, Nat.le_of_ble_eq_true rfl⟩ rfl (Nat.le_of_ble_eq_true rfl) dX1_appendRun_13) (fun hq => (by cases hq))))))) (fun _ h => List.mem_cons_of_mem _ (List.mem_cons_of_mem _ (h))) (fun q2 => ?_)
      refine S_call_v (pc := 16) (rest := []) (fun q hq => (x_if hq).elim (fun z => R_V (av := [.int q2.1]) (q := (RX1, TX1, 2)) (M_X1_append _ a0 q2.1 q2.2 z.2) z.1 rfl wd_435 wd_432 wd_433 wd_45 wd_434 ⟨rfl, hd_X1_append⟩ ⟨Nat.le_of_ble_eq_true rfl, Nat.le_of_ble_eq_true rfl⟩ rfl (Nat.le_of_ble_eq_true rfl) dX1_appendRun_16) (fun hq => (by cases hq))) (fun _ h => absurd h List.not_mem_nil) (fun q3 => ?_)
      refine S_iinc (pc := 19) (v := a2 + (1 : Int32)) 2 rfl dX1_appendRun_19 (x_inc ic_1) (Nat.le_of_ble_eq_true rfl) rfl ?_
      refine S_goto (pc := 22) (tgt := 2) dX1_appendRun_22 (by decide) ?_
      refine S_sub [1, 2, 0] rfl ?_
      exact ih a0 a1 (a2 + (1 : Int32)) q3
set_option maxRecDepth 20000 in
set_option maxHeartbeats 4000000 in
theorem W_X1_appendRun (K : xK) (L : xL) (a0 : Nat) (a1 : Nat) (h : xH) : Sim K L cX1_appendRun RX1 "appendRun" 3 2 (fun q : xH => q) (xRv cX1_appendRun) 0 [(0, .ref a0), (1, .ref a1)] [] h (f_X1_appendRun a0 a1 h) := by
  unfold f_X1_appendRun
  refine S_iconst (pc := 0) dX1_appendRun_0 ic_0 ?_
  refine S_istore_n (pc := 1) dX1_appendRun_1 rfl (Nat.le_of_ble_eq_true rfl) rfl ?_
  refine S_sub [1, 2, 0] rfl ?_
  refine Sim.bind (hs := fun q4 : Int32 × xH => q4.2) (px := 25) (lsx := fun q4 => [(0, .ref a0), (1, .ref a1), (2, .int q4.1)]) (L_X1_appendRun_2 K L xN a0 a1 (0 : Int32) h) (fun q4 => ?_)
  exact Sim.fin ⟨dX1_appendRun_25, rfl, rfl⟩ rfl
theorem M_X1_appendRun (l : Launch) (a0 : Nat) (a1 : Nat) (h : xH) {q : xH} (hq : f_X1_appendRun a0 a1 h = some q) : xM l yX1_appendRun cX1_appendRun 3 none 2 [.ref a0, .ref a1] h none q := xM_v (by decide +kernel) (Nat.le_of_ble_eq_true rfl) (fun K L => W_X1_appendRun K L a0 a1 h) hq
theorem dJ7_fill_53178_0 : decode cJ7_fill_53178 0 = .ok (.iconst 0, 1) := by decide +kernel
theorem dJ7_fill_53178_1 : decode cJ7_fill_53178 1 = .ok (.istore_n 2, 1) := by decide +kernel
theorem dJ7_fill_53178_2 : decode cJ7_fill_53178 2 = .ok (.aload_n 0, 1) := by decide +kernel
theorem dJ7_fill_53178_3 : decode cJ7_fill_53178 3 = .ok (.arraylength, 1) := by decide +kernel
theorem dJ7_fill_53178_4 : decode cJ7_fill_53178 4 = .ok (.istore_n 3, 1) := by decide +kernel
theorem dJ7_fill_53178_5 : decode cJ7_fill_53178 5 = .ok (.iload_n 2, 1) := by decide +kernel
theorem dJ7_fill_53178_6 : decode cJ7_fill_53178 6 = .ok (.iload_n 3, 1) := by decide +kernel
theorem dJ7_fill_53178_7 : decode cJ7_fill_53178 7 = .ok (.if_icmp .ge 13, 3) := by decide +kernel
theorem dJ7_fill_53178_10 : decode cJ7_fill_53178 10 = .ok (.aload_n 0, 1) := by decide +kernel
theorem dJ7_fill_53178_11 : decode cJ7_fill_53178 11 = .ok (.iload_n 2, 1) := by decide +kernel
theorem dJ7_fill_53178_12 : decode cJ7_fill_53178 12 = .ok (.iload_n 1, 1) := by decide +kernel
theorem dJ7_fill_53178_13 : decode cJ7_fill_53178 13 = .ok (.iastore, 1) := by decide +kernel
theorem dJ7_fill_53178_14 : decode cJ7_fill_53178 14 = .ok (.iinc 2 1, 3) := by decide +kernel
theorem dJ7_fill_53178_17 : decode cJ7_fill_53178 17 = .ok (.goto (-12), 3) := by decide +kernel
theorem dJ7_fill_53178_20 : decode cJ7_fill_53178 20 = .ok (.return_, 1) := by decide +kernel
set_option maxRecDepth 20000 in
set_option maxHeartbeats 4000000 in
theorem L_J7_fill_53178_5 (K : xK) (L : xL) : ∀ (n : Nat) (a0 : Nat) (a1 : Int32) (a2 : Int32) (a3 : Int32) (h : xH), Sim K L cJ7_fill_53178 RJ7 "fill" 4 0 (fun q : Int32 × xH => q.2) (fun q pc' ls' st' h' => pc' = 20 ∧ ls' = [(0, .ref a0), (1, .int a1), (2, .int q.1), (3, .int a3)] ∧ st' = [] ∧ h' = q.2) 5 [(0, .ref a0), (1, .int a1), (2, .int a2), (3, .int a3)] [] h (f_J7_fill_53178_L5 n a0 a1 a2 a3 h) := by
  intro n
  induction n with
  | zero =>
    intro a0 a1 a2 a3 h
    exact Sim.none
  | succ n ih =>
    intro a0 a1 a2 a3 h
    unfold f_J7_fill_53178_L5
    refine S_iload_n (pc := 5) 2 rfl dJ7_fill_53178_5 rfl ?_
    refine S_iload_n (pc := 6) 3 rfl dJ7_fill_53178_6 rfl ?_
    refine S_icmp_ge (pc := 7) (tgt := 20) dJ7_fill_53178_7 (by decide) ?_ ?_
    · refine S_sub [0, 1, 2, 3] rfl ?_
      exact Sim.fin ⟨rfl, rfl, rfl, rfl⟩ rfl
    · refine S_aload_n (pc := 10) 0 rfl dJ7_fill_53178_10 rfl ?_
      refine S_iload_n (pc := 11) 2 rfl dJ7_fill_53178_11 rfl ?_
      refine S_iload_n (pc := 12) 1 rfl dJ7_fill_53178_12 rfl ?_
      refine S_uI (pc := 13) dJ7_fill_53178_13 (fun h2 => ?_)
      refine S_iinc (pc := 14) (v := a2 + (1 : Int32)) 2 rfl dJ7_fill_53178_14 (x_inc ic_1) (Nat.le_of_ble_eq_true rfl) rfl ?_
      refine S_goto (pc := 17) (tgt := 5) dJ7_fill_53178_17 (by decide) ?_
      refine S_sub [1, 2, 0, 3] rfl ?_
      exact ih a0 a1 (a2 + (1 : Int32)) a3 h2
set_option maxRecDepth 20000 in
set_option maxHeartbeats 4000000 in
theorem W_J7_fill_53178 (K : xK) (L : xL) (a0 : Nat) (a1 : Int32) (h : xH) : Sim K L cJ7_fill_53178 RJ7 "fill" 4 0 (fun q : xH => q) (xRv cJ7_fill_53178) 0 [(0, .ref a0), (1, .int a1)] [] h (f_J7_fill_53178 a0 a1 h) := by
  unfold f_J7_fill_53178
  refine S_iconst (pc := 0) dJ7_fill_53178_0 ic_0 ?_
  refine S_istore_n (pc := 1) dJ7_fill_53178_1 rfl (Nat.le_of_ble_eq_true rfl) rfl ?_
  refine S_aload_n (pc := 2) 1 rfl dJ7_fill_53178_2 rfl ?_
  refine S_aL (pc := 3) dJ7_fill_53178_3 (fun v1 => ?_)
  refine S_istore_n (pc := 4) dJ7_fill_53178_4 rfl (Nat.le_of_ble_eq_true rfl) rfl ?_
  refine S_sub [2, 3, 1, 0] rfl ?_
  refine Sim.bind (hs := fun q3 : Int32 × xH => q3.2) (px := 20) (lsx := fun q3 => [(0, .ref a0), (1, .int a1), (2, .int q3.1), (3, .int v1)]) (L_J7_fill_53178_5 K L xN a0 a1 (0 : Int32) v1 h) (fun q3 => ?_)
  exact Sim.fin ⟨dJ7_fill_53178_20, rfl, rfl⟩ rfl
theorem M_J7_fill_53178 (l : Launch) (a0 : Nat) (a1 : Int32) (h : xH) {q : xH} (hq : f_J7_fill_53178 a0 a1 h = some q) : xM l yJ7_fill_53178 cJ7_fill_53178 4 none 0 [.ref a0, .int a1] h none q := xM_v (by decide +kernel) (Nat.le_of_ble_eq_true rfl) (fun K L => W_J7_fill_53178 K L a0 a1 h) hq
theorem dX1_clearTo_0 : decode cX1_clearTo 0 = .ok (.aload_n 0, 1) := by decide +kernel
theorem dX1_clearTo_1 : decode cX1_clearTo 1 = .ok (.iload_n 1, 1) := by decide +kernel
theorem dX1_clearTo_2 : decode cX1_clearTo 2 = .ok (.putfield 15, 3) := by decide +kernel
theorem dX1_clearTo_5 : decode cX1_clearTo 5 = .ok (.aload_n 0, 1) := by decide +kernel
theorem dX1_clearTo_6 : decode cX1_clearTo 6 = .ok (.getfield 9, 3) := by decide +kernel
theorem dX1_clearTo_9 : decode cX1_clearTo 9 = .ok (.iconst 0, 1) := by decide +kernel
theorem dX1_clearTo_10 : decode cX1_clearTo 10 = .ok (.invokestatic 34, 3) := by decide +kernel
theorem dX1_clearTo_13 : decode cX1_clearTo 13 = .ok (.return_, 1) := by decide +kernel
set_option maxRecDepth 20000 in
set_option maxHeartbeats 4000000 in
theorem W_X1_clearTo (K : xK) (L : xL) (a0 : Nat) (a1 : Int32) (h : xH) : Sim K L cX1_clearTo RX1 "clearTo" 2 1 (fun q : xH => q) (xRv cX1_clearTo) 0 [(0, .ref a0), (1, .int a1)] [] h (f_X1_clearTo a0 a1 h) := by
  unfold f_X1_clearTo
  refine S_aload_n (pc := 0) 0 rfl dX1_clearTo_0 rfl ?_
  refine S_iload_n (pc := 1) 1 rfl dX1_clearTo_1 rfl ?_
  refine S_putI (pc := 2) fd_X1_length wd_80 rfl rfl dX1_clearTo_2 (fun h1 => ?_)
  refine S_aload_n (pc := 5) 0 rfl dX1_clearTo_5 rfl ?_
  refine S_getR (pc := 6) fd_X1_masks wd_78 dX1_clearTo_6 (fun v2 => ?_)
  refine S_iconst (pc := 9) dX1_clearTo_9 ic_0 ?_
  refine S_call_v (pc := 10) (rest := []) (fun q hq => R_S (av := [.ref v2, .int (0 : Int32)]) (M_J7_fill_53178 _ v2 (0 : Int32) h1 hq) wd_245 wd_408 wd_244 wd_51 hd_J7_fill_53178 ⟨Nat.le_of_ble_eq_true rfl, Nat.le_of_ble_eq_true rfl⟩ rfl (Nat.le_of_ble_eq_true rfl) dX1_clearTo_10) (fun _ h => absurd h List.not_mem_nil) (fun q3 => ?_)
  exact Sim.fin ⟨dX1_clearTo_13, rfl, rfl⟩ rfl
theorem M_X1_clearTo (l : Launch) (a0 : Nat) (a1 : Int32) (h : xH) {q : xH} (hq : f_X1_clearTo a0 a1 h = some q) : xM l yX1_clearTo cX1_clearTo 2 none 1 [.ref a0, .int a1] h none q := xM_v (by decide +kernel) (Nat.le_of_ble_eq_true rfl) (fun K L => W_X1_clearTo K L a0 a1 h) hq
theorem dX7_emptyTape_0 : decode cX7_emptyTape 0 = .ok (.aload_n 0, 1) := by decide +kernel
theorem dX7_emptyTape_1 : decode cX7_emptyTape 1 = .ok (.iconst 0, 1) := by decide +kernel
theorem dX7_emptyTape_2 : decode cX7_emptyTape 2 = .ok (.putfield 21, 3) := by decide +kernel
theorem dX7_emptyTape_5 : decode cX7_emptyTape 5 = .ok (.return_, 1) := by decide +kernel
set_option maxRecDepth 20000 in
set_option maxHeartbeats 4000000 in
theorem W_X7_emptyTape (K : xK) (L : xL) (a0 : Nat) (h : xH) : Sim K L cX7_emptyTape RX7 "emptyTape" 1 0 (fun q : xH => q) (xRv cX7_emptyTape) 0 [(0, .ref a0)] [] h (f_X7_emptyTape a0 h) := by
  unfold f_X7_emptyTape
  refine S_aload_n (pc := 0) 0 rfl dX7_emptyTape_0 rfl ?_
  refine S_iconst (pc := 1) dX7_emptyTape_1 ic_0 ?_
  refine S_putI (pc := 2) fd_X7_tapeLength wd_122 rfl rfl dX7_emptyTape_2 (fun h1 => ?_)
  exact Sim.fin ⟨dX7_emptyTape_5, rfl, rfl⟩ rfl
theorem M_X7_emptyTape (l : Launch) (a0 : Nat) (h : xH) {q : xH} (hq : f_X7_emptyTape a0 h = some q) : xM l yX7_emptyTape cX7_emptyTape 1 none 0 [.ref a0] h none q := xM_v (by decide +kernel) (Nat.le_of_ble_eq_true rfl) (fun K L => W_X7_emptyTape K L a0 h) hq
theorem dX7_byteAt_0 : decode cX7_byteAt 0 = .ok (.iload_n 1, 1) := by decide +kernel
theorem dX7_byteAt_1 : decode cX7_byteAt 1 = .ok (.ifCond .lt 11, 3) := by decide +kernel
theorem dX7_byteAt_4 : decode cX7_byteAt 4 = .ok (.iload_n 1, 1) := by decide +kernel
theorem dX7_byteAt_5 : decode cX7_byteAt 5 = .ok (.aload_n 0, 1) := by decide +kernel
theorem dX7_byteAt_6 : decode cX7_byteAt 6 = .ok (.getfield 21, 3) := by decide +kernel
theorem dX7_byteAt_9 : decode cX7_byteAt 9 = .ok (.if_icmp .lt 8, 3) := by decide +kernel
theorem dX7_byteAt_12 : decode cX7_byteAt 12 = .ok (.ldc 68, 2) := by decide +kernel
theorem dX7_byteAt_14 : decode cX7_byteAt 14 = .ok (.goto 9, 3) := by decide +kernel
theorem dX7_byteAt_17 : decode cX7_byteAt 17 = .ok (.aload_n 0, 1) := by decide +kernel
theorem dX7_byteAt_18 : decode cX7_byteAt 18 = .ok (.getfield 9, 3) := by decide +kernel
theorem dX7_byteAt_21 : decode cX7_byteAt 21 = .ok (.iload_n 1, 1) := by decide +kernel
theorem dX7_byteAt_22 : decode cX7_byteAt 22 = .ok (.iaload, 1) := by decide +kernel
theorem dX7_byteAt_23 : decode cX7_byteAt 23 = .ok (.ireturn, 1) := by decide +kernel
set_option maxRecDepth 20000 in
set_option maxHeartbeats 4000000 in
theorem W_X7_byteAt (K : xK) (L : xL) (a0 : Nat) (a1 : Int32) (h : xH) : Sim K L cX7_byteAt RX7 "byteAt" 2 0 (fun q : Int32 × xH => q.2) (xRi cX7_byteAt) 0 [(0, .ref a0), (1, .int a1)] [] h (f_X7_byteAt a0 a1 h) := by
  unfold f_X7_byteAt
  refine S_iload_n (pc := 0) 1 rfl dX7_byteAt_0 rfl ?_
  refine S_if_lt (pc := 1) (tgt := 12) dX7_byteAt_1 (by decide) ?_ ?_
  · refine S_ldc (pc := 12) wd_310 dX7_byteAt_12 ?_
    refine S_goto (pc := 14) (tgt := 23) dX7_byteAt_14 (by decide) ?_
    exact Sim.fin ⟨dX7_byteAt_23, rfl, rfl⟩ rfl
  · refine S_iload_n (pc := 4) 1 rfl dX7_byteAt_4 rfl ?_
    refine S_aload_n (pc := 5) 0 rfl dX7_byteAt_5 rfl ?_
    refine S_getI (pc := 6) fd_X7_tapeLength wd_122 dX7_byteAt_6 (fun v1 => ?_)
    refine S_icmp_lt (pc := 9) (tgt := 17) dX7_byteAt_9 (by decide) ?_ ?_
    · refine S_aload_n (pc := 17) 0 rfl dX7_byteAt_17 rfl ?_
      refine S_getR (pc := 18) fd_X7_tape wd_117 dX7_byteAt_18 (fun v2 => ?_)
      refine S_iload_n (pc := 21) 1 rfl dX7_byteAt_21 rfl ?_
      refine S_aI (pc := 22) dX7_byteAt_22 (fun v3 => ?_)
      exact Sim.fin ⟨dX7_byteAt_23, rfl, rfl⟩ rfl
    · refine S_ldc (pc := 12) wd_310 dX7_byteAt_12 ?_
      refine S_goto (pc := 14) (tgt := 23) dX7_byteAt_14 (by decide) ?_
      exact Sim.fin ⟨dX7_byteAt_23, rfl, rfl⟩ rfl
theorem M_X7_byteAt (l : Launch) (a0 : Nat) (a1 : Int32) (h : xH) {q : Int32 × xH} (hq : f_X7_byteAt a0 a1 h = some q) : xM l yX7_byteAt cX7_byteAt 2 (some .int) 0 [.ref a0, .int a1] h (some (.int q.1)) q.2 := xM_i (by decide +kernel) (Nat.le_of_ble_eq_true rfl) (fun K L => W_X7_byteAt K L a0 a1 h) hq
theorem dX7_isFigure_0 : decode cX7_isFigure 0 = .ok (.iload_n 0, 1) := by decide +kernel
theorem dX7_isFigure_1 : decode cX7_isFigure 1 = .ok (.bipush 48, 2) := by decide +kernel
theorem dX7_isFigure_3 : decode cX7_isFigure 3 = .ok (.if_icmp .lt 13, 3) := by decide +kernel
theorem dX7_isFigure_6 : decode cX7_isFigure 6 = .ok (.iload_n 0, 1) := by decide +kernel
theorem dX7_isFigure_7 : decode cX7_isFigure 7 = .ok (.bipush 57, 2) := by decide +kernel
theorem dX7_isFigure_9 : decode cX7_isFigure 9 = .ok (.if_icmp .gt 7, 3) := by decide +kernel
theorem dX7_isFigure_12 : decode cX7_isFigure 12 = .ok (.iconst 1, 1) := by decide +kernel
theorem dX7_isFigure_13 : decode cX7_isFigure 13 = .ok (.goto 4, 3) := by decide +kernel
theorem dX7_isFigure_16 : decode cX7_isFigure 16 = .ok (.iconst 0, 1) := by decide +kernel
theorem dX7_isFigure_17 : decode cX7_isFigure 17 = .ok (.ireturn, 1) := by decide +kernel
set_option maxRecDepth 20000 in
set_option maxHeartbeats 4000000 in
theorem W_X7_isFigure (K : xK) (L : xL) (a0 : Int32) (h : xH) : Sim K L cX7_isFigure RX7 "isFigure" 1 0 (fun q : Int32 × xH => q.2) (xRz cX7_isFigure) 0 [(0, .int a0)] [] h (f_X7_isFigure a0 h) := by
  unfold f_X7_isFigure
  refine S_iload_n (pc := 0) 0 rfl dX7_isFigure_0 rfl ?_
  refine S_bipush (pc := 1) dX7_isFigure_1 bi_48 ?_
  refine S_icmp_lt (pc := 3) (tgt := 16) dX7_isFigure_3 (by decide) ?_ ?_
  · refine S_iconst (pc := 16) dX7_isFigure_16 ic_0 ?_
    exact Sim.fin ⟨dX7_isFigure_17, rfl, rfl, x_nar (Or.inl rfl)⟩ rfl
  · refine S_iload_n (pc := 6) 0 rfl dX7_isFigure_6 rfl ?_
    refine S_bipush (pc := 7) dX7_isFigure_7 bi_57 ?_
    refine S_icmp_gt (pc := 9) (tgt := 16) dX7_isFigure_9 (by decide) ?_ ?_
    · refine S_iconst (pc := 16) dX7_isFigure_16 ic_0 ?_
      exact Sim.fin ⟨dX7_isFigure_17, rfl, rfl, x_nar (Or.inl rfl)⟩ rfl
    · refine S_iconst (pc := 12) dX7_isFigure_12 ic_1 ?_
      refine S_goto (pc := 13) (tgt := 17) dX7_isFigure_13 (by decide) ?_
      exact Sim.fin ⟨dX7_isFigure_17, rfl, rfl, x_nar (Or.inr rfl)⟩ rfl
theorem M_X7_isFigure (l : Launch) (a0 : Int32) (h : xH) {q : Int32 × xH} (hq : f_X7_isFigure a0 h = some q) : xM l yX7_isFigure cX7_isFigure 1 (some .boolean) 0 [.int a0] h (some (.int q.1)) q.2 := xM_z (by decide +kernel) (Nat.le_of_ble_eq_true rfl) (fun K L => W_X7_isFigure K L a0 h) hq
theorem dX7_readNumber_0 : decode cX7_readNumber 0 = .ok (.iconst 0, 1) := by decide +kernel
theorem dX7_readNumber_1 : decode cX7_readNumber 1 = .ok (.istore_n 1, 1) := by decide +kernel
theorem dX7_readNumber_2 : decode cX7_readNumber 2 = .ok (.iconst 0, 1) := by decide +kernel
theorem dX7_readNumber_3 : decode cX7_readNumber 3 = .ok (.istore_n 2, 1) := by decide +kernel
theorem dX7_readNumber_4 : decode cX7_readNumber 4 = .ok (.aload_n 0, 1) := by decide +kernel
theorem dX7_readNumber_5 : decode cX7_readNumber 5 = .ok (.getfield 29, 3) := by decide +kernel
theorem dX7_readNumber_8 : decode cX7_readNumber 8 = .ok (.istore_n 3, 1) := by decide +kernel
theorem dX7_readNumber_9 : decode cX7_readNumber 9 = .ok (.iload_n 3, 1) := by decide +kernel
theorem dX7_readNumber_10 : decode cX7_readNumber 10 = .ok (.aload_n 0, 1) := by decide +kernel
theorem dX7_readNumber_11 : decode cX7_readNumber 11 = .ok (.getfield 21, 3) := by decide +kernel
theorem dX7_readNumber_14 : decode cX7_readNumber 14 = .ok (.if_icmp .ge 42, 3) := by decide +kernel
theorem dX7_readNumber_17 : decode cX7_readNumber 17 = .ok (.aload_n 0, 1) := by decide +kernel
theorem dX7_readNumber_18 : decode cX7_readNumber 18 = .ok (.iload_n 3, 1) := by decide +kernel
theorem dX7_readNumber_19 : decode cX7_readNumber 19 = .ok (.invokevirtual 51, 3) := by decide +kernel
theorem dX7_readNumber_22 : decode cX7_readNumber 22 = .ok (.invokestatic 61, 3) := by decide +kernel
theorem dX7_readNumber_25 : decode cX7_readNumber 25 = .ok (.ifCond .eq 31, 3) := by decide +kernel
theorem dX7_readNumber_28 : decode cX7_readNumber 28 = .ok (.iload_n 1, 1) := by decide +kernel
theorem dX7_readNumber_29 : decode cX7_readNumber 29 = .ok (.iconst 3, 1) := by decide +kernel
theorem dX7_readNumber_30 : decode cX7_readNumber 30 = .ok (.if_icmp .ge 26, 3) := by decide +kernel
theorem dX7_readNumber_33 : decode cX7_readNumber 33 = .ok (.iinc 1 1, 3) := by decide +kernel
theorem dX7_readNumber_36 : decode cX7_readNumber 36 = .ok (.bipush 10, 2) := by decide +kernel
theorem dX7_readNumber_38 : decode cX7_readNumber 38 = .ok (.iload_n 2, 1) := by decide +kernel
theorem dX7_readNumber_39 : decode cX7_readNumber 39 = .ok (.imul, 1) := by decide +kernel
theorem dX7_readNumber_40 : decode cX7_readNumber 40 = .ok (.aload_n 0, 1) := by decide +kernel
theorem dX7_readNumber_41 : decode cX7_readNumber 41 = .ok (.iload_n 3, 1) := by decide +kernel
theorem dX7_readNumber_42 : decode cX7_readNumber 42 = .ok (.invokevirtual 51, 3) := by decide +kernel
theorem dX7_readNumber_45 : decode cX7_readNumber 45 = .ok (.iadd, 1) := by decide +kernel
theorem dX7_readNumber_46 : decode cX7_readNumber 46 = .ok (.bipush 48, 2) := by decide +kernel
theorem dX7_readNumber_48 : decode cX7_readNumber 48 = .ok (.isub, 1) := by decide +kernel
theorem dX7_readNumber_49 : decode cX7_readNumber 49 = .ok (.istore_n 2, 1) := by decide +kernel
theorem dX7_readNumber_50 : decode cX7_readNumber 50 = .ok (.iinc 3 1, 3) := by decide +kernel
theorem dX7_readNumber_53 : decode cX7_readNumber 53 = .ok (.goto (-44), 3) := by decide +kernel
theorem dX7_readNumber_56 : decode cX7_readNumber 56 = .ok (.iload_n 1, 1) := by decide +kernel
theorem dX7_readNumber_57 : decode cX7_readNumber 57 = .ok (.iconst 1, 1) := by decide +kernel
theorem dX7_readNumber_58 : decode cX7_readNumber 58 = .ok (.if_icmp .lt 8, 3) := by decide +kernel
theorem dX7_readNumber_61 : decode cX7_readNumber 61 = .ok (.iload_n 1, 1) := by decide +kernel
theorem dX7_readNumber_62 : decode cX7_readNumber 62 = .ok (.iconst 2, 1) := by decide +kernel
theorem dX7_readNumber_63 : decode cX7_readNumber 63 = .ok (.if_icmp .le 5, 3) := by decide +kernel
theorem dX7_readNumber_66 : decode cX7_readNumber 66 = .ok (.iconst 1, 1) := by decide +kernel
theorem dX7_readNumber_67 : decode cX7_readNumber 67 = .ok (.ireturn, 1) := by decide +kernel
theorem dX7_readNumber_68 : decode cX7_readNumber 68 = .ok (.iload_n 2, 1) := by decide +kernel
theorem dX7_readNumber_69 : decode cX7_readNumber 69 = .ok (.iconst 1, 1) := by decide +kernel
theorem dX7_readNumber_70 : decode cX7_readNumber 70 = .ok (.if_icmp .ge 5, 3) := by decide +kernel
theorem dX7_readNumber_73 : decode cX7_readNumber 73 = .ok (.iconst 2, 1) := by decide +kernel
theorem dX7_readNumber_74 : decode cX7_readNumber 74 = .ok (.ireturn, 1) := by decide +kernel
theorem dX7_readNumber_75 : decode cX7_readNumber 75 = .ok (.aload_n 0, 1) := by decide +kernel
theorem dX7_readNumber_76 : decode cX7_readNumber 76 = .ok (.getfield 35, 3) := by decide +kernel
theorem dX7_readNumber_79 : decode cX7_readNumber 79 = .ok (.iload_n 2, 1) := by decide +kernel
theorem dX7_readNumber_80 : decode cX7_readNumber 80 = .ok (.iadd, 1) := by decide +kernel
theorem dX7_readNumber_81 : decode cX7_readNumber 81 = .ok (.sipush 480, 3) := by decide +kernel
theorem dX7_readNumber_84 : decode cX7_readNumber 84 = .ok (.if_icmp .le 5, 3) := by decide +kernel
theorem dX7_readNumber_87 : decode cX7_readNumber 87 = .ok (.iconst 4, 1) := by decide +kernel
theorem dX7_readNumber_88 : decode cX7_readNumber 88 = .ok (.ireturn, 1) := by decide +kernel
theorem dX7_readNumber_89 : decode cX7_readNumber 89 = .ok (.aload_n 0, 1) := by decide +kernel
theorem dX7_readNumber_90 : decode cX7_readNumber 90 = .ok (.iload_n 2, 1) := by decide +kernel
theorem dX7_readNumber_91 : decode cX7_readNumber 91 = .ok (.putfield 65, 3) := by decide +kernel
theorem dX7_readNumber_94 : decode cX7_readNumber 94 = .ok (.aload_n 0, 1) := by decide +kernel
theorem dX7_readNumber_95 : decode cX7_readNumber 95 = .ok (.dup, 1) := by decide +kernel
theorem dX7_readNumber_96 : decode cX7_readNumber 96 = .ok (.getfield 29, 3) := by decide +kernel
theorem dX7_readNumber_99 : decode cX7_readNumber 99 = .ok (.iload_n 1, 1) := by decide +kernel
theorem dX7_readNumber_100 : decode cX7_readNumber 100 = .ok (.iadd, 1) := by decide +kernel
theorem dX7_readNumber_101 : decode cX7_readNumber 101 = .ok (.putfield 29, 3) := by decide +kernel
theorem dX7_readNumber_104 : decode cX7_readNumber 104 = .ok (.iconst 0, 1) := by decide +kernel
theorem dX7_readNumber_105 : decode cX7_readNumber 105 = .ok (.ireturn, 1) := by decide +kernel
set_option maxRecDepth 20000 in
set_option maxHeartbeats 4000000 in
theorem L_X7_readNumber_9 (K : xK) (L : xL) : ∀ (n : Nat) (a0 : Nat) (a1 : Int32) (a2 : Int32) (a3 : Int32) (h : xH), Sim K L cX7_readNumber RX7 "readNumber" 4 1 (fun q : Int32 × Int32 × Int32 × xH => q.2.2.2) (fun q pc' ls' st' h' => pc' = 56 ∧ ls' = [(0, .ref a0), (1, .int q.1), (2, .int q.2.1), (3, .int q.2.2.1)] ∧ st' = [] ∧ h' = q.2.2.2) 9 [(0, .ref a0), (1, .int a1), (2, .int a2), (3, .int a3)] [] h (f_X7_readNumber_L9 n a0 a1 a2 a3 h) := by
  intro n
  induction n with
  | zero =>
    intro a0 a1 a2 a3 h
    exact Sim.none
  | succ n ih =>
    intro a0 a1 a2 a3 h
    unfold f_X7_readNumber_L9
    refine S_iload_n (pc := 9) 3 rfl dX7_readNumber_9 rfl ?_
    refine S_aload_n (pc := 10) 0 rfl dX7_readNumber_10 rfl ?_
    refine S_getI (pc := 11) fd_X7_tapeLength wd_122 dX7_readNumber_11 (fun v2 => ?_)
    refine S_icmp_ge (pc := 14) (tgt := 56) dX7_readNumber_14 (by decide) ?_ ?_
    · refine S_sub [0, 1, 2, 3] rfl ?_
      exact Sim.fin ⟨rfl, rfl, rfl, rfl⟩ rfl
    · refine S_aload_n (pc := 17) 0 rfl dX7_readNumber_17 rfl ?_
      refine S_iload_n (pc := 18) 3 rfl dX7_readNumber_18 rfl ?_
      refine S_call_i (pc := 19) (rest := []) (fun q hq => (x_if hq).elim (fun z => R_V (av := [.int a3]) (q := (RX7, TX7, 9)) (M_X7_byteAt _ a0 a3 h z.2) z.1 rfl wd_309 wd_306 wd_308 wd_47 wd_4 ⟨rfl, hd_X7_byteAt⟩ ⟨Nat.le_of_ble_eq_true rfl, Nat.le_of_ble_eq_true rfl⟩ rfl (Nat.le_of_ble_eq_true rfl) dX7_readNumber_19) (fun hq => (by cases hq))) (fun _ h => absurd h List.not_mem_nil) (fun q3 => ?_)
      refine S_call_i (pc := 22) (rest := []) (fun q hq => R_S (av := [.int q3.1]) (M_X7_isFigure _ q3.1 q3.2 hq) wd_320 wd_318 wd_319 wd_47 hd_X7_isFigure ⟨Nat.le_of_ble_eq_true rfl, Nat.le_of_ble_eq_true rfl⟩ rfl (Nat.le_of_ble_eq_true rfl) dX7_readNumber_22) (fun _ h => absurd h List.not_mem_nil) (fun q4 => ?_)
      refine S_if_eq (pc := 25) (tgt := 56) dX7_readNumber_25 (by decide) ?_ ?_
      · refine S_sub [0, 1, 2, 3] rfl ?_
        exact Sim.fin ⟨rfl, rfl, rfl, rfl⟩ rfl
      · refine S_iload_n (pc := 28) 1 rfl dX7_readNumber_28 rfl ?_
        refine S_iconst (pc := 29) dX7_readNumber_29 ic_3 ?_
        refine S_icmp_ge (pc := 30) (tgt := 56) dX7_readNumber_30 (by decide) ?_ ?_
        · refine S_sub [0, 1, 2, 3] rfl ?_
          exact Sim.fin ⟨rfl, rfl, rfl, rfl⟩ rfl
        · refine S_iinc (pc := 33) (v := a1 + (1 : Int32)) 1 rfl dX7_readNumber_33 (x_inc ic_1) (Nat.le_of_ble_eq_true rfl) rfl ?_
          refine S_bipush (pc := 36) dX7_readNumber_36 bi_10 ?_
          refine S_iload_n (pc := 38) 2 rfl dX7_readNumber_38 rfl ?_
          refine S_imul (pc := 39) dX7_readNumber_39 ?_
          refine S_aload_n (pc := 40) 1 rfl dX7_readNumber_40 rfl ?_
          refine S_iload_n (pc := 41) 3 rfl dX7_readNumber_41 rfl ?_
          refine S_call_i (pc := 42) (rest := [.int ((10 : Int32) * a2)]) (fun q hq => (x_if hq).elim (fun z => R_V (av := [.int a3]) (q := (RX7, TX7, 9)) (M_X7_byteAt _ a0 a3 q4.2 z.2) z.1 rfl wd_309 wd_306 wd_308 wd_47 wd_4 ⟨rfl, hd_X7_byteAt⟩ ⟨Nat.le_of_ble_eq_true rfl, Nat.le_of_ble_eq_true rfl⟩ rfl (Nat.le_of_ble_eq_true rfl) dX7_readNumber_42) (fun hq => (by cases hq))) (fun _ h => List.mem_cons_of_mem _ (List.mem_cons_of_mem _ (h))) (fun q5 => ?_)
          refine S_iadd (pc := 45) dX7_readNumber_45 ?_
          refine S_bipush (pc := 46) dX7_readNumber_46 bi_48 ?_
          refine S_isub (pc := 48) dX7_readNumber_48 ?_
          refine S_istore_n (pc := 49) dX7_readNumber_49 rfl (Nat.le_of_ble_eq_true rfl) rfl ?_
          refine S_iinc (pc := 50) (v := a3 + (1 : Int32)) 3 rfl dX7_readNumber_50 (x_inc ic_1) (Nat.le_of_ble_eq_true rfl) rfl ?_
          refine S_goto (pc := 53) (tgt := 9) dX7_readNumber_53 (by decide) ?_
          refine S_sub [3, 2, 1, 0] rfl ?_
          exact ih a0 (a1 + (1 : Int32)) ((((10 : Int32) * a2) + q5.1) - (48 : Int32)) (a3 + (1 : Int32)) q5.2
set_option maxRecDepth 20000 in
set_option maxHeartbeats 4000000 in
theorem W_X7_readNumber (K : xK) (L : xL) (a0 : Nat) (h : xH) : Sim K L cX7_readNumber RX7 "readNumber" 4 1 (fun q : Int32 × xH => q.2) (xRi cX7_readNumber) 0 [(0, .ref a0)] [] h (f_X7_readNumber a0 h) := by
  unfold f_X7_readNumber
  refine S_iconst (pc := 0) dX7_readNumber_0 ic_0 ?_
  refine S_istore_n (pc := 1) dX7_readNumber_1 rfl (Nat.le_of_ble_eq_true rfl) rfl ?_
  refine S_iconst (pc := 2) dX7_readNumber_2 ic_0 ?_
  refine S_istore_n (pc := 3) dX7_readNumber_3 rfl (Nat.le_of_ble_eq_true rfl) rfl ?_
  refine S_aload_n (pc := 4) 2 rfl dX7_readNumber_4 rfl ?_
  refine S_getI (pc := 5) fd_X7_place wd_124 dX7_readNumber_5 (fun v1 => ?_)
  refine S_istore_n (pc := 8) dX7_readNumber_8 rfl (Nat.le_of_ble_eq_true rfl) rfl ?_
  refine S_sub [3, 2, 1, 0] rfl ?_
  refine Sim.bind (hs := fun q6 : Int32 × Int32 × Int32 × xH => q6.2.2.2) (px := 56) (lsx := fun q6 => [(0, .ref a0), (1, .int q6.1), (2, .int q6.2.1), (3, .int q6.2.2.1)]) (L_X7_readNumber_9 K L xN a0 (0 : Int32) (0 : Int32) v1 h) (fun q6 => ?_)
  refine S_iload_n (pc := 56) 1 rfl dX7_readNumber_56 rfl ?_
  refine S_iconst (pc := 57) dX7_readNumber_57 ic_1 ?_
  refine S_icmp_lt (pc := 58) (tgt := 66) dX7_readNumber_58 (by decide) ?_ ?_
  · refine S_iconst (pc := 66) dX7_readNumber_66 ic_1 ?_
    exact Sim.fin ⟨dX7_readNumber_67, rfl, rfl⟩ rfl
  · refine S_iload_n (pc := 61) 1 rfl dX7_readNumber_61 rfl ?_
    refine S_iconst (pc := 62) dX7_readNumber_62 ic_2 ?_
    refine S_icmp_le (pc := 63) (tgt := 68) dX7_readNumber_63 (by decide) ?_ ?_
    · refine S_iload_n (pc := 68) 2 rfl dX7_readNumber_68 rfl ?_
      refine S_iconst (pc := 69) dX7_readNumber_69 ic_1 ?_
      refine S_icmp_ge (pc := 70) (tgt := 75) dX7_readNumber_70 (by decide) ?_ ?_
      · refine S_aload_n (pc := 75) 0 rfl dX7_readNumber_75 rfl ?_
        refine S_getI (pc := 76) fd_X7_bitSum wd_128 dX7_readNumber_76 (fun v7 => ?_)
        refine S_iload_n (pc := 79) 2 rfl dX7_readNumber_79 rfl ?_
        refine S_iadd (pc := 80) dX7_readNumber_80 ?_
        refine S_sipush (pc := 81) dX7_readNumber_81 si_480 ?_
        refine S_icmp_le (pc := 84) (tgt := 89) dX7_readNumber_84 (by decide) ?_ ?_
        · refine S_aload_n (pc := 89) 0 rfl dX7_readNumber_89 rfl ?_
          refine S_iload_n (pc := 90) 2 rfl dX7_readNumber_90 rfl ?_
          refine S_putI (pc := 91) fd_X7_currentLength wd_130 rfl rfl dX7_readNumber_91 (fun h8 => ?_)
          refine S_aload_n (pc := 94) 0 rfl dX7_readNumber_94 rfl ?_
          refine S_dup (pc := 95) rfl dX7_readNumber_95 ?_
          refine S_getI (pc := 96) fd_X7_place wd_124 dX7_readNumber_96 (fun v9 => ?_)
          refine S_iload_n (pc := 99) 1 rfl dX7_readNumber_99 rfl ?_
          refine S_iadd (pc := 100) dX7_readNumber_100 ?_
          refine S_putI (pc := 101) fd_X7_place wd_124 rfl rfl dX7_readNumber_101 (fun h10 => ?_)
          refine S_iconst (pc := 104) dX7_readNumber_104 ic_0 ?_
          exact Sim.fin ⟨dX7_readNumber_105, rfl, rfl⟩ rfl
        · refine S_iconst (pc := 87) dX7_readNumber_87 ic_4 ?_
          exact Sim.fin ⟨dX7_readNumber_88, rfl, rfl⟩ rfl
      · refine S_iconst (pc := 73) dX7_readNumber_73 ic_2 ?_
        exact Sim.fin ⟨dX7_readNumber_74, rfl, rfl⟩ rfl
    · refine S_iconst (pc := 66) dX7_readNumber_66 ic_1 ?_
      exact Sim.fin ⟨dX7_readNumber_67, rfl, rfl⟩ rfl
theorem M_X7_readNumber (l : Launch) (a0 : Nat) (h : xH) {q : Int32 × xH} (hq : f_X7_readNumber a0 h = some q) : xM l yX7_readNumber cX7_readNumber 4 (some .int) 1 [.ref a0] h (some (.int q.1)) q.2 := xM_i (by decide +kernel) (Nat.le_of_ble_eq_true rfl) (fun K L => W_X7_readNumber K L a0 h) hq
theorem dX7_readSemicolon_0 : decode cX7_readSemicolon 0 = .ok (.aload_n 0, 1) := by decide +kernel
theorem dX7_readSemicolon_1 : decode cX7_readSemicolon 1 = .ok (.aload_n 0, 1) := by decide +kernel
theorem dX7_readSemicolon_2 : decode cX7_readSemicolon 2 = .ok (.getfield 29, 3) := by decide +kernel
theorem dX7_readSemicolon_5 : decode cX7_readSemicolon 5 = .ok (.invokevirtual 51, 3) := by decide +kernel
theorem dX7_readSemicolon_8 : decode cX7_readSemicolon 8 = .ok (.bipush 59, 2) := by decide +kernel
theorem dX7_readSemicolon_10 : decode cX7_readSemicolon 10 = .ok (.if_icmp .ne 12, 3) := by decide +kernel
theorem dX7_readSemicolon_13 : decode cX7_readSemicolon 13 = .ok (.aload_n 0, 1) := by decide +kernel
theorem dX7_readSemicolon_14 : decode cX7_readSemicolon 14 = .ok (.getfield 32, 3) := by decide +kernel
theorem dX7_readSemicolon_17 : decode cX7_readSemicolon 17 = .ok (.bipush 12, 2) := by decide +kernel
theorem dX7_readSemicolon_19 : decode cX7_readSemicolon 19 = .ok (.if_icmp .lt 5, 3) := by decide +kernel
theorem dX7_readSemicolon_22 : decode cX7_readSemicolon 22 = .ok (.iconst 1, 1) := by decide +kernel
theorem dX7_readSemicolon_23 : decode cX7_readSemicolon 23 = .ok (.ireturn, 1) := by decide +kernel
theorem dX7_readSemicolon_24 : decode cX7_readSemicolon 24 = .ok (.aload_n 0, 1) := by decide +kernel
theorem dX7_readSemicolon_25 : decode cX7_readSemicolon 25 = .ok (.getfield 15, 3) := by decide +kernel
theorem dX7_readSemicolon_28 : decode cX7_readSemicolon 28 = .ok (.aload_n 0, 1) := by decide +kernel
theorem dX7_readSemicolon_29 : decode cX7_readSemicolon 29 = .ok (.getfield 32, 3) := by decide +kernel
theorem dX7_readSemicolon_32 : decode cX7_readSemicolon 32 = .ok (.aload_n 0, 1) := by decide +kernel
theorem dX7_readSemicolon_33 : decode cX7_readSemicolon 33 = .ok (.getfield 58, 3) := by decide +kernel
theorem dX7_readSemicolon_36 : decode cX7_readSemicolon 36 = .ok (.iastore, 1) := by decide +kernel
theorem dX7_readSemicolon_37 : decode cX7_readSemicolon 37 = .ok (.aload_n 0, 1) := by decide +kernel
theorem dX7_readSemicolon_38 : decode cX7_readSemicolon 38 = .ok (.getfield 18, 3) := by decide +kernel
theorem dX7_readSemicolon_41 : decode cX7_readSemicolon 41 = .ok (.aload_n 0, 1) := by decide +kernel
theorem dX7_readSemicolon_42 : decode cX7_readSemicolon 42 = .ok (.getfield 32, 3) := by decide +kernel
theorem dX7_readSemicolon_45 : decode cX7_readSemicolon 45 = .ok (.aload_n 0, 1) := by decide +kernel
theorem dX7_readSemicolon_46 : decode cX7_readSemicolon 46 = .ok (.getfield 65, 3) := by decide +kernel
theorem dX7_readSemicolon_49 : decode cX7_readSemicolon 49 = .ok (.iastore, 1) := by decide +kernel
theorem dX7_readSemicolon_50 : decode cX7_readSemicolon 50 = .ok (.aload_n 0, 1) := by decide +kernel
theorem dX7_readSemicolon_51 : decode cX7_readSemicolon 51 = .ok (.dup, 1) := by decide +kernel
theorem dX7_readSemicolon_52 : decode cX7_readSemicolon 52 = .ok (.getfield 32, 3) := by decide +kernel
theorem dX7_readSemicolon_55 : decode cX7_readSemicolon 55 = .ok (.iconst 1, 1) := by decide +kernel
theorem dX7_readSemicolon_56 : decode cX7_readSemicolon 56 = .ok (.iadd, 1) := by decide +kernel
theorem dX7_readSemicolon_57 : decode cX7_readSemicolon 57 = .ok (.putfield 32, 3) := by decide +kernel
theorem dX7_readSemicolon_60 : decode cX7_readSemicolon 60 = .ok (.aload_n 0, 1) := by decide +kernel
theorem dX7_readSemicolon_61 : decode cX7_readSemicolon 61 = .ok (.dup, 1) := by decide +kernel
theorem dX7_readSemicolon_62 : decode cX7_readSemicolon 62 = .ok (.getfield 35, 3) := by decide +kernel
theorem dX7_readSemicolon_65 : decode cX7_readSemicolon 65 = .ok (.aload_n 0, 1) := by decide +kernel
theorem dX7_readSemicolon_66 : decode cX7_readSemicolon 66 = .ok (.getfield 65, 3) := by decide +kernel
theorem dX7_readSemicolon_69 : decode cX7_readSemicolon 69 = .ok (.iadd, 1) := by decide +kernel
theorem dX7_readSemicolon_70 : decode cX7_readSemicolon 70 = .ok (.putfield 35, 3) := by decide +kernel
theorem dX7_readSemicolon_73 : decode cX7_readSemicolon 73 = .ok (.aload_n 0, 1) := by decide +kernel
theorem dX7_readSemicolon_74 : decode cX7_readSemicolon 74 = .ok (.dup, 1) := by decide +kernel
theorem dX7_readSemicolon_75 : decode cX7_readSemicolon 75 = .ok (.getfield 29, 3) := by decide +kernel
theorem dX7_readSemicolon_78 : decode cX7_readSemicolon 78 = .ok (.iconst 1, 1) := by decide +kernel
theorem dX7_readSemicolon_79 : decode cX7_readSemicolon 79 = .ok (.iadd, 1) := by decide +kernel
theorem dX7_readSemicolon_80 : decode cX7_readSemicolon 80 = .ok (.putfield 29, 3) := by decide +kernel
theorem dX7_readSemicolon_83 : decode cX7_readSemicolon 83 = .ok (.iconst 0, 1) := by decide +kernel
theorem dX7_readSemicolon_84 : decode cX7_readSemicolon 84 = .ok (.ireturn, 1) := by decide +kernel
set_option maxRecDepth 20000 in
set_option maxHeartbeats 4000000 in
theorem W_X7_readSemicolon (K : xK) (L : xL) (a0 : Nat) (h : xH) : Sim K L cX7_readSemicolon RX7 "readSemicolon" 1 1 (fun q : Int32 × xH => q.2) (xRi cX7_readSemicolon) 0 [(0, .ref a0)] [] h (f_X7_readSemicolon a0 h) := by
  unfold f_X7_readSemicolon
  refine S_aload_n (pc := 0) 0 rfl dX7_readSemicolon_0 rfl ?_
  refine S_aload_n (pc := 1) 0 rfl dX7_readSemicolon_1 rfl ?_
  refine S_getI (pc := 2) fd_X7_place wd_124 dX7_readSemicolon_2 (fun v1 => ?_)
  refine S_call_i (pc := 5) (rest := []) (fun q hq => (x_if hq).elim (fun z => R_V (av := [.int v1]) (q := (RX7, TX7, 9)) (M_X7_byteAt _ a0 v1 h z.2) z.1 rfl wd_309 wd_306 wd_308 wd_47 wd_4 ⟨rfl, hd_X7_byteAt⟩ ⟨Nat.le_of_ble_eq_true rfl, Nat.le_of_ble_eq_true rfl⟩ rfl (Nat.le_of_ble_eq_true rfl) dX7_readSemicolon_5) (fun hq => (by cases hq))) (fun _ h => absurd h List.not_mem_nil) (fun q2 => ?_)
  refine S_bipush (pc := 8) dX7_readSemicolon_8 bi_59 ?_
  refine S_icmp_ne (pc := 10) (tgt := 22) dX7_readSemicolon_10 (by decide) ?_ ?_
  · refine S_aload_n (pc := 13) 0 rfl dX7_readSemicolon_13 rfl ?_
    refine S_getI (pc := 14) fd_X7_runCount wd_126 dX7_readSemicolon_14 (fun v3 => ?_)
    refine S_bipush (pc := 17) dX7_readSemicolon_17 bi_12 ?_
    refine S_icmp_lt (pc := 19) (tgt := 24) dX7_readSemicolon_19 (by decide) ?_ ?_
    · refine S_aload_n (pc := 24) 0 rfl dX7_readSemicolon_24 rfl ?_
      refine S_getR (pc := 25) fd_X7_kinds wd_118 dX7_readSemicolon_25 (fun v4 => ?_)
      refine S_aload_n (pc := 28) 0 rfl dX7_readSemicolon_28 rfl ?_
      refine S_getI (pc := 29) fd_X7_runCount wd_126 dX7_readSemicolon_29 (fun v5 => ?_)
      refine S_aload_n (pc := 32) 0 rfl dX7_readSemicolon_32 rfl ?_
      refine S_getI (pc := 33) fd_X7_currentKind wd_129 dX7_readSemicolon_33 (fun v6 => ?_)
      refine S_uI (pc := 36) dX7_readSemicolon_36 (fun h7 => ?_)
      refine S_aload_n (pc := 37) 0 rfl dX7_readSemicolon_37 rfl ?_
      refine S_getR (pc := 38) fd_X7_lengths wd_120 dX7_readSemicolon_38 (fun v8 => ?_)
      refine S_aload_n (pc := 41) 0 rfl dX7_readSemicolon_41 rfl ?_
      refine S_getI (pc := 42) fd_X7_runCount wd_126 dX7_readSemicolon_42 (fun v9 => ?_)
      refine S_aload_n (pc := 45) 0 rfl dX7_readSemicolon_45 rfl ?_
      refine S_getI (pc := 46) fd_X7_currentLength wd_130 dX7_readSemicolon_46 (fun v10 => ?_)
      refine S_uI (pc := 49) dX7_readSemicolon_49 (fun h11 => ?_)
      refine S_aload_n (pc := 50) 0 rfl dX7_readSemicolon_50 rfl ?_
      refine S_dup (pc := 51) rfl dX7_readSemicolon_51 ?_
      refine S_getI (pc := 52) fd_X7_runCount wd_126 dX7_readSemicolon_52 (fun v12 => ?_)
      refine S_iconst (pc := 55) dX7_readSemicolon_55 ic_1 ?_
      refine S_iadd (pc := 56) dX7_readSemicolon_56 ?_
      refine S_putI (pc := 57) fd_X7_runCount wd_126 rfl rfl dX7_readSemicolon_57 (fun h13 => ?_)
      refine S_aload_n (pc := 60) 0 rfl dX7_readSemicolon_60 rfl ?_
      refine S_dup (pc := 61) rfl dX7_readSemicolon_61 ?_
      refine S_getI (pc := 62) fd_X7_bitSum wd_128 dX7_readSemicolon_62 (fun v14 => ?_)
      refine S_aload_n (pc := 65) 0 rfl dX7_readSemicolon_65 rfl ?_
      refine S_getI (pc := 66) fd_X7_currentLength wd_130 dX7_readSemicolon_66 (fun v15 => ?_)
      refine S_iadd (pc := 69) dX7_readSemicolon_69 ?_
      refine S_putI (pc := 70) fd_X7_bitSum wd_128 rfl rfl dX7_readSemicolon_70 (fun h16 => ?_)
      refine S_aload_n (pc := 73) 0 rfl dX7_readSemicolon_73 rfl ?_
      refine S_dup (pc := 74) rfl dX7_readSemicolon_74 ?_
      refine S_getI (pc := 75) fd_X7_place wd_124 dX7_readSemicolon_75 (fun v17 => ?_)
      refine S_iconst (pc := 78) dX7_readSemicolon_78 ic_1 ?_
      refine S_iadd (pc := 79) dX7_readSemicolon_79 ?_
      refine S_putI (pc := 80) fd_X7_place wd_124 rfl rfl dX7_readSemicolon_80 (fun h18 => ?_)
      refine S_iconst (pc := 83) dX7_readSemicolon_83 ic_0 ?_
      exact Sim.fin ⟨dX7_readSemicolon_84, rfl, rfl⟩ rfl
    · refine S_iconst (pc := 22) dX7_readSemicolon_22 ic_1 ?_
      exact Sim.fin ⟨dX7_readSemicolon_23, rfl, rfl⟩ rfl
  · refine S_iconst (pc := 22) dX7_readSemicolon_22 ic_1 ?_
    exact Sim.fin ⟨dX7_readSemicolon_23, rfl, rfl⟩ rfl
theorem M_X7_readSemicolon (l : Launch) (a0 : Nat) (h : xH) {q : Int32 × xH} (hq : f_X7_readSemicolon a0 h = some q) : xM l yX7_readSemicolon cX7_readSemicolon 1 (some .int) 1 [.ref a0] h (some (.int q.1)) q.2 := xM_i (by decide +kernel) (Nat.le_of_ble_eq_true rfl) (fun K L => W_X7_readSemicolon K L a0 h) hq
theorem dX7_kindOfLetter_0 : decode cX7_kindOfLetter 0 = .ok (.iload_n 0, 1) := by decide +kernel
theorem dX7_kindOfLetter_1 : decode cX7_kindOfLetter 1 = .ok (.lookupswitch 61 #[(97, 57), (98, 59), (111, 53), (116, 55), (122, 51)], 51) := by decide +kernel
theorem dX7_kindOfLetter_52 : decode cX7_kindOfLetter 52 = .ok (.iconst 1, 1) := by decide +kernel
theorem dX7_kindOfLetter_53 : decode cX7_kindOfLetter 53 = .ok (.ireturn, 1) := by decide +kernel
theorem dX7_kindOfLetter_54 : decode cX7_kindOfLetter 54 = .ok (.iconst 2, 1) := by decide +kernel
theorem dX7_kindOfLetter_55 : decode cX7_kindOfLetter 55 = .ok (.ireturn, 1) := by decide +kernel
theorem dX7_kindOfLetter_56 : decode cX7_kindOfLetter 56 = .ok (.iconst 3, 1) := by decide +kernel
theorem dX7_kindOfLetter_57 : decode cX7_kindOfLetter 57 = .ok (.ireturn, 1) := by decide +kernel
theorem dX7_kindOfLetter_58 : decode cX7_kindOfLetter 58 = .ok (.iconst 4, 1) := by decide +kernel
theorem dX7_kindOfLetter_59 : decode cX7_kindOfLetter 59 = .ok (.ireturn, 1) := by decide +kernel
theorem dX7_kindOfLetter_60 : decode cX7_kindOfLetter 60 = .ok (.iconst 5, 1) := by decide +kernel
theorem dX7_kindOfLetter_61 : decode cX7_kindOfLetter 61 = .ok (.ireturn, 1) := by decide +kernel
theorem dX7_kindOfLetter_62 : decode cX7_kindOfLetter 62 = .ok (.iconst 0, 1) := by decide +kernel
theorem dX7_kindOfLetter_63 : decode cX7_kindOfLetter 63 = .ok (.ireturn, 1) := by decide +kernel
set_option maxRecDepth 20000 in
set_option maxHeartbeats 4000000 in
theorem W_X7_kindOfLetter (K : xK) (L : xL) (a0 : Int32) (h : xH) : Sim K L cX7_kindOfLetter RX7 "kindOfLetter" 1 0 (fun q : Int32 × xH => q.2) (xRi cX7_kindOfLetter) 0 [(0, .int a0)] [] h (f_X7_kindOfLetter a0 h) := by
  unfold f_X7_kindOfLetter
  refine S_iload_n (pc := 0) 0 rfl dX7_kindOfLetter_0 rfl ?_
  refine Sim.ite (fun he2 => ?_) (fun hs1 => ?_)
  · refine S_look (pc := 1) (tgt := 58) (off := 57) dX7_kindOfLetter_1 (by decide) (by rw [he2]; first | done | decide) (by decide) ?_
    refine S_iconst (pc := 58) dX7_kindOfLetter_58 ic_4 ?_
    exact Sim.fin ⟨dX7_kindOfLetter_59, rfl, rfl⟩ rfl
  refine Sim.ite (fun he4 => ?_) (fun hs3 => ?_)
  · refine S_look (pc := 1) (tgt := 60) (off := 59) dX7_kindOfLetter_1 (by decide) (by rw [he4]; first | done | decide) (by decide) ?_
    refine S_iconst (pc := 60) dX7_kindOfLetter_60 ic_5 ?_
    exact Sim.fin ⟨dX7_kindOfLetter_61, rfl, rfl⟩ rfl
  refine Sim.ite (fun he6 => ?_) (fun hs5 => ?_)
  · refine S_look (pc := 1) (tgt := 54) (off := 53) dX7_kindOfLetter_1 (by decide) (by rw [he6]; first | done | decide) (by decide) ?_
    refine S_iconst (pc := 54) dX7_kindOfLetter_54 ic_2 ?_
    exact Sim.fin ⟨dX7_kindOfLetter_55, rfl, rfl⟩ rfl
  refine Sim.ite (fun he8 => ?_) (fun hs7 => ?_)
  · refine S_look (pc := 1) (tgt := 56) (off := 55) dX7_kindOfLetter_1 (by decide) (by rw [he8]; first | done | decide) (by decide) ?_
    refine S_iconst (pc := 56) dX7_kindOfLetter_56 ic_3 ?_
    exact Sim.fin ⟨dX7_kindOfLetter_57, rfl, rfl⟩ rfl
  refine Sim.ite (fun he10 => ?_) (fun hs9 => ?_)
  · refine S_look (pc := 1) (tgt := 52) (off := 51) dX7_kindOfLetter_1 (by decide) (by rw [he10]; first | done | decide) (by decide) ?_
    refine S_iconst (pc := 52) dX7_kindOfLetter_52 ic_1 ?_
    exact Sim.fin ⟨dX7_kindOfLetter_53, rfl, rfl⟩ rfl
  refine S_look (pc := 1) (tgt := 62) (off := 61) dX7_kindOfLetter_1 (by decide) (by show Op.lookupswitch.offset [(97, 57), (98, 59), (111, 53), (116, 55), (122, 51)] 61 _ = _; rw [lv_osw hs1 (show (97 : Int32).toInt = 97 from by decide), lv_osw hs3 (show (98 : Int32).toInt = 98 from by decide), lv_osw hs5 (show (111 : Int32).toInt = 111 from by decide), lv_osw hs7 (show (116 : Int32).toInt = 116 from by decide), lv_osw hs9 (show (122 : Int32).toInt = 122 from by decide)]; first | done | rfl) (by decide) ?_
  refine S_iconst (pc := 62) dX7_kindOfLetter_62 ic_0 ?_
  exact Sim.fin ⟨dX7_kindOfLetter_63, rfl, rfl⟩ rfl
theorem M_X7_kindOfLetter (l : Launch) (a0 : Int32) (h : xH) {q : Int32 × xH} (hq : f_X7_kindOfLetter a0 h = some q) : xM l yX7_kindOfLetter cX7_kindOfLetter 1 (some .int) 0 [.int a0] h (some (.int q.1)) q.2 := xM_i (by decide +kernel) (Nat.le_of_ble_eq_true rfl) (fun K L => W_X7_kindOfLetter K L a0 h) hq
theorem dX7_readSort_0 : decode cX7_readSort 0 = .ok (.aload_n 0, 1) := by decide +kernel
theorem dX7_readSort_1 : decode cX7_readSort 1 = .ok (.aload_n 0, 1) := by decide +kernel
theorem dX7_readSort_2 : decode cX7_readSort 2 = .ok (.aload_n 0, 1) := by decide +kernel
theorem dX7_readSort_3 : decode cX7_readSort 3 = .ok (.getfield 29, 3) := by decide +kernel
theorem dX7_readSort_6 : decode cX7_readSort 6 = .ok (.invokevirtual 51, 3) := by decide +kernel
theorem dX7_readSort_9 : decode cX7_readSort 9 = .ok (.invokestatic 55, 3) := by decide +kernel
theorem dX7_readSort_12 : decode cX7_readSort 12 = .ok (.putfield 58, 3) := by decide +kernel
theorem dX7_readSort_15 : decode cX7_readSort 15 = .ok (.aload_n 0, 1) := by decide +kernel
theorem dX7_readSort_16 : decode cX7_readSort 16 = .ok (.getfield 58, 3) := by decide +kernel
theorem dX7_readSort_19 : decode cX7_readSort 19 = .ok (.ifCond .ne 5, 3) := by decide +kernel
theorem dX7_readSort_22 : decode cX7_readSort 22 = .ok (.iconst 1, 1) := by decide +kernel
theorem dX7_readSort_23 : decode cX7_readSort 23 = .ok (.ireturn, 1) := by decide +kernel
theorem dX7_readSort_24 : decode cX7_readSort 24 = .ok (.aload_n 0, 1) := by decide +kernel
theorem dX7_readSort_25 : decode cX7_readSort 25 = .ok (.getfield 32, 3) := by decide +kernel
theorem dX7_readSort_28 : decode cX7_readSort 28 = .ok (.bipush 12, 2) := by decide +kernel
theorem dX7_readSort_30 : decode cX7_readSort 30 = .ok (.if_icmp .lt 5, 3) := by decide +kernel
theorem dX7_readSort_33 : decode cX7_readSort 33 = .ok (.iconst 3, 1) := by decide +kernel
theorem dX7_readSort_34 : decode cX7_readSort 34 = .ok (.ireturn, 1) := by decide +kernel
theorem dX7_readSort_35 : decode cX7_readSort 35 = .ok (.aload_n 0, 1) := by decide +kernel
theorem dX7_readSort_36 : decode cX7_readSort 36 = .ok (.dup, 1) := by decide +kernel
theorem dX7_readSort_37 : decode cX7_readSort 37 = .ok (.getfield 29, 3) := by decide +kernel
theorem dX7_readSort_40 : decode cX7_readSort 40 = .ok (.iconst 1, 1) := by decide +kernel
theorem dX7_readSort_41 : decode cX7_readSort 41 = .ok (.iadd, 1) := by decide +kernel
theorem dX7_readSort_42 : decode cX7_readSort 42 = .ok (.putfield 29, 3) := by decide +kernel
theorem dX7_readSort_45 : decode cX7_readSort 45 = .ok (.iconst 0, 1) := by decide +kernel
theorem dX7_readSort_46 : decode cX7_readSort 46 = .ok (.ireturn, 1) := by decide +kernel
set_option maxRecDepth 20000 in
set_option maxHeartbeats 4000000 in
theorem W_X7_readSort (K : xK) (L : xL) (a0 : Nat) (h : xH) : Sim K L cX7_readSort RX7 "readSort" 1 1 (fun q : Int32 × xH => q.2) (xRi cX7_readSort) 0 [(0, .ref a0)] [] h (f_X7_readSort a0 h) := by
  unfold f_X7_readSort
  refine S_aload_n (pc := 0) 0 rfl dX7_readSort_0 rfl ?_
  refine S_aload_n (pc := 1) 0 rfl dX7_readSort_1 rfl ?_
  refine S_aload_n (pc := 2) 0 rfl dX7_readSort_2 rfl ?_
  refine S_getI (pc := 3) fd_X7_place wd_124 dX7_readSort_3 (fun v1 => ?_)
  refine S_call_i (pc := 6) (rest := [.ref a0]) (fun q hq => (x_if hq).elim (fun z => R_V (av := [.int v1]) (q := (RX7, TX7, 9)) (M_X7_byteAt _ a0 v1 h z.2) z.1 rfl wd_309 wd_306 wd_308 wd_47 wd_4 ⟨rfl, hd_X7_byteAt⟩ ⟨Nat.le_of_ble_eq_true rfl, Nat.le_of_ble_eq_true rfl⟩ rfl (Nat.le_of_ble_eq_true rfl) dX7_readSort_6) (fun hq => (by cases hq))) (fun _ h => List.mem_cons_of_mem _ (List.mem_cons_of_mem _ (h))) (fun q2 => ?_)
  refine S_call_i (pc := 9) (rest := [.ref a0]) (fun q hq => R_S (av := [.int q2.1]) (M_X7_kindOfLetter _ q2.1 q2.2 hq) wd_313 wd_311 wd_312 wd_47 hd_X7_kindOfLetter ⟨Nat.le_of_ble_eq_true rfl, Nat.le_of_ble_eq_true rfl⟩ rfl (Nat.le_of_ble_eq_true rfl) dX7_readSort_9) (fun _ h => List.mem_cons_of_mem _ (h)) (fun q3 => ?_)
  refine S_putI (pc := 12) fd_X7_currentKind wd_129 rfl rfl dX7_readSort_12 (fun h4 => ?_)
  refine S_aload_n (pc := 15) 0 rfl dX7_readSort_15 rfl ?_
  refine S_getI (pc := 16) fd_X7_currentKind wd_129 dX7_readSort_16 (fun v5 => ?_)
  refine S_if_ne (pc := 19) (tgt := 24) dX7_readSort_19 (by decide) ?_ ?_
  · refine S_iconst (pc := 22) dX7_readSort_22 ic_1 ?_
    exact Sim.fin ⟨dX7_readSort_23, rfl, rfl⟩ rfl
  · refine S_aload_n (pc := 24) 0 rfl dX7_readSort_24 rfl ?_
    refine S_getI (pc := 25) fd_X7_runCount wd_126 dX7_readSort_25 (fun v6 => ?_)
    refine S_bipush (pc := 28) dX7_readSort_28 bi_12 ?_
    refine S_icmp_lt (pc := 30) (tgt := 35) dX7_readSort_30 (by decide) ?_ ?_
    · refine S_aload_n (pc := 35) 0 rfl dX7_readSort_35 rfl ?_
      refine S_dup (pc := 36) rfl dX7_readSort_36 ?_
      refine S_getI (pc := 37) fd_X7_place wd_124 dX7_readSort_37 (fun v7 => ?_)
      refine S_iconst (pc := 40) dX7_readSort_40 ic_1 ?_
      refine S_iadd (pc := 41) dX7_readSort_41 ?_
      refine S_putI (pc := 42) fd_X7_place wd_124 rfl rfl dX7_readSort_42 (fun h8 => ?_)
      refine S_iconst (pc := 45) dX7_readSort_45 ic_0 ?_
      exact Sim.fin ⟨dX7_readSort_46, rfl, rfl⟩ rfl
    · refine S_iconst (pc := 33) dX7_readSort_33 ic_3 ?_
      exact Sim.fin ⟨dX7_readSort_34, rfl, rfl⟩ rfl
theorem M_X7_readSort (l : Launch) (a0 : Nat) (h : xH) {q : Int32 × xH} (hq : f_X7_readSort a0 h = some q) : xM l yX7_readSort cX7_readSort 1 (some .int) 1 [.ref a0] h (some (.int q.1)) q.2 := xM_i (by decide +kernel) (Nat.le_of_ble_eq_true rfl) (fun K L => W_X7_readSort K L a0 h) hq
theorem dX7_readRun_0 : decode cX7_readRun 0 = .ok (.aload_n 0, 1) := by decide +kernel
theorem dX7_readRun_1 : decode cX7_readRun 1 = .ok (.invokevirtual 42, 3) := by decide +kernel
theorem dX7_readRun_4 : decode cX7_readRun 4 = .ok (.istore_n 1, 1) := by decide +kernel
theorem dX7_readRun_5 : decode cX7_readRun 5 = .ok (.iload_n 1, 1) := by decide +kernel
theorem dX7_readRun_6 : decode cX7_readRun 6 = .ok (.ifCond .ne 8, 3) := by decide +kernel
theorem dX7_readRun_9 : decode cX7_readRun 9 = .ok (.aload_n 0, 1) := by decide +kernel
theorem dX7_readRun_10 : decode cX7_readRun 10 = .ok (.invokevirtual 45, 3) := by decide +kernel
theorem dX7_readRun_13 : decode cX7_readRun 13 = .ok (.istore_n 1, 1) := by decide +kernel
theorem dX7_readRun_14 : decode cX7_readRun 14 = .ok (.iload_n 1, 1) := by decide +kernel
theorem dX7_readRun_15 : decode cX7_readRun 15 = .ok (.ifCond .ne 8, 3) := by decide +kernel
theorem dX7_readRun_18 : decode cX7_readRun 18 = .ok (.aload_n 0, 1) := by decide +kernel
theorem dX7_readRun_19 : decode cX7_readRun 19 = .ok (.invokevirtual 48, 3) := by decide +kernel
theorem dX7_readRun_22 : decode cX7_readRun 22 = .ok (.istore_n 1, 1) := by decide +kernel
theorem dX7_readRun_23 : decode cX7_readRun 23 = .ok (.iload_n 1, 1) := by decide +kernel
theorem dX7_readRun_24 : decode cX7_readRun 24 = .ok (.ireturn, 1) := by decide +kernel
set_option maxRecDepth 20000 in
set_option maxHeartbeats 4000000 in
theorem W_X7_readRun (K : xK) (L : xL) (a0 : Nat) (h : xH) : Sim K L cX7_readRun RX7 "readRun" 2 2 (fun q : Int32 × xH => q.2) (xRi cX7_readRun) 0 [(0, .ref a0)] [] h (f_X7_readRun a0 h) := by
  unfold f_X7_readRun
  refine S_aload_n (pc := 0) 0 rfl dX7_readRun_0 rfl ?_
  refine S_call_i (pc := 1) (rest := []) (fun q hq => (x_if hq).elim (fun z => R_V (av := []) (q := (RX7, TX7, 9)) (M_X7_readSort _ a0 h z.2) z.1 rfl wd_305 wd_302 wd_304 wd_47 wd_3 ⟨rfl, hd_X7_readSort⟩ ⟨Nat.le_of_ble_eq_true rfl, Nat.le_of_ble_eq_true rfl⟩ rfl (Nat.le_of_ble_eq_true rfl) dX7_readRun_1) (fun hq => (by cases hq))) (fun _ h => absurd h List.not_mem_nil) (fun q1 => ?_)
  refine S_istore_n (pc := 4) dX7_readRun_4 rfl (Nat.le_of_ble_eq_true rfl) rfl ?_
  refine S_iload_n (pc := 5) 0 rfl dX7_readRun_5 rfl ?_
  refine S_if_ne (pc := 6) (tgt := 14) dX7_readRun_6 (by decide) ?_ ?_
  · refine S_aload_n (pc := 9) 1 rfl dX7_readRun_9 rfl ?_
    refine S_call_i (pc := 10) (rest := []) (fun q hq => (x_if hq).elim (fun z => R_V (av := []) (q := (RX7, TX7, 9)) (M_X7_readNumber _ a0 q1.2 z.2) z.1 rfl wd_317 wd_314 wd_316 wd_47 wd_5 ⟨rfl, hd_X7_readNumber⟩ ⟨Nat.le_of_ble_eq_true rfl, Nat.le_of_ble_eq_true rfl⟩ rfl (Nat.le_of_ble_eq_true rfl) dX7_readRun_10) (fun hq => (by cases hq))) (fun _ h => absurd h List.not_mem_nil) (fun q2 => ?_)
    refine S_istore_n (pc := 13) dX7_readRun_13 rfl (Nat.le_of_ble_eq_true rfl) rfl ?_
    refine S_iload_n (pc := 14) 0 rfl dX7_readRun_14 rfl ?_
    refine S_if_ne (pc := 15) (tgt := 23) dX7_readRun_15 (by decide) ?_ ?_
    · refine S_aload_n (pc := 18) 1 rfl dX7_readRun_18 rfl ?_
      refine S_call_i (pc := 19) (rest := []) (fun q hq => (x_if hq).elim (fun z => R_V (av := []) (q := (RX7, TX7, 9)) (M_X7_readSemicolon _ a0 q2.2 z.2) z.1 rfl wd_324 wd_321 wd_323 wd_47 wd_6 ⟨rfl, hd_X7_readSemicolon⟩ ⟨Nat.le_of_ble_eq_true rfl, Nat.le_of_ble_eq_true rfl⟩ rfl (Nat.le_of_ble_eq_true rfl) dX7_readRun_19) (fun hq => (by cases hq))) (fun _ h => absurd h List.not_mem_nil) (fun q3 => ?_)
      refine S_istore_n (pc := 22) dX7_readRun_22 rfl (Nat.le_of_ble_eq_true rfl) rfl ?_
      refine S_iload_n (pc := 23) 0 rfl dX7_readRun_23 rfl ?_
      exact Sim.fin ⟨dX7_readRun_24, rfl, rfl⟩ rfl
    · refine S_iload_n (pc := 23) 0 rfl dX7_readRun_23 rfl ?_
      exact Sim.fin ⟨dX7_readRun_24, rfl, rfl⟩ rfl
  · refine S_iload_n (pc := 14) 0 rfl dX7_readRun_14 rfl ?_
    refine S_if_ne (pc := 15) (tgt := 23) dX7_readRun_15 (by decide) ?_ ?_
    · refine S_aload_n (pc := 18) 1 rfl dX7_readRun_18 rfl ?_
      refine S_call_i (pc := 19) (rest := []) (fun q hq => (x_if hq).elim (fun z => R_V (av := []) (q := (RX7, TX7, 9)) (M_X7_readSemicolon _ a0 q1.2 z.2) z.1 rfl wd_324 wd_321 wd_323 wd_47 wd_6 ⟨rfl, hd_X7_readSemicolon⟩ ⟨Nat.le_of_ble_eq_true rfl, Nat.le_of_ble_eq_true rfl⟩ rfl (Nat.le_of_ble_eq_true rfl) dX7_readRun_19) (fun hq => (by cases hq))) (fun _ h => absurd h List.not_mem_nil) (fun q4 => ?_)
      refine S_istore_n (pc := 22) dX7_readRun_22 rfl (Nat.le_of_ble_eq_true rfl) rfl ?_
      refine S_iload_n (pc := 23) 0 rfl dX7_readRun_23 rfl ?_
      exact Sim.fin ⟨dX7_readRun_24, rfl, rfl⟩ rfl
    · refine S_iload_n (pc := 23) 0 rfl dX7_readRun_23 rfl ?_
      exact Sim.fin ⟨dX7_readRun_24, rfl, rfl⟩ rfl
theorem M_X7_readRun (l : Launch) (a0 : Nat) (h : xH) {q : Int32 × xH} (hq : f_X7_readRun a0 h = some q) : xM l yX7_readRun cX7_readRun 2 (some .int) 2 [.ref a0] h (some (.int q.1)) q.2 := xM_i (by decide +kernel) (Nat.le_of_ble_eq_true rfl) (fun K L => W_X7_readRun K L a0 h) hq
theorem dX7_readTape_0 : decode cX7_readTape 0 = .ok (.aload_n 0, 1) := by decide +kernel
theorem dX7_readTape_1 : decode cX7_readTape 1 = .ok (.iconst 0, 1) := by decide +kernel
theorem dX7_readTape_2 : decode cX7_readTape 2 = .ok (.putfield 29, 3) := by decide +kernel
theorem dX7_readTape_5 : decode cX7_readTape 5 = .ok (.aload_n 0, 1) := by decide +kernel
theorem dX7_readTape_6 : decode cX7_readTape 6 = .ok (.iconst 0, 1) := by decide +kernel
theorem dX7_readTape_7 : decode cX7_readTape 7 = .ok (.putfield 32, 3) := by decide +kernel
theorem dX7_readTape_10 : decode cX7_readTape 10 = .ok (.aload_n 0, 1) := by decide +kernel
theorem dX7_readTape_11 : decode cX7_readTape 11 = .ok (.iconst 0, 1) := by decide +kernel
theorem dX7_readTape_12 : decode cX7_readTape 12 = .ok (.putfield 35, 3) := by decide +kernel
theorem dX7_readTape_15 : decode cX7_readTape 15 = .ok (.aload_n 0, 1) := by decide +kernel
theorem dX7_readTape_16 : decode cX7_readTape 16 = .ok (.invokevirtual 38, 3) := by decide +kernel
theorem dX7_readTape_19 : decode cX7_readTape 19 = .ok (.istore_n 1, 1) := by decide +kernel
theorem dX7_readTape_20 : decode cX7_readTape 20 = .ok (.iconst 0, 1) := by decide +kernel
theorem dX7_readTape_21 : decode cX7_readTape 21 = .ok (.istore_n 2, 1) := by decide +kernel
theorem dX7_readTape_22 : decode cX7_readTape 22 = .ok (.iload_n 2, 1) := by decide +kernel
theorem dX7_readTape_23 : decode cX7_readTape 23 = .ok (.bipush 60, 2) := by decide +kernel
theorem dX7_readTape_25 : decode cX7_readTape 25 = .ok (.if_icmp .ge 29, 3) := by decide +kernel
theorem dX7_readTape_28 : decode cX7_readTape 28 = .ok (.iload_n 1, 1) := by decide +kernel
theorem dX7_readTape_29 : decode cX7_readTape 29 = .ok (.ifCond .ne 25, 3) := by decide +kernel
theorem dX7_readTape_32 : decode cX7_readTape 32 = .ok (.aload_n 0, 1) := by decide +kernel
theorem dX7_readTape_33 : decode cX7_readTape 33 = .ok (.getfield 29, 3) := by decide +kernel
theorem dX7_readTape_36 : decode cX7_readTape 36 = .ok (.aload_n 0, 1) := by decide +kernel
theorem dX7_readTape_37 : decode cX7_readTape 37 = .ok (.getfield 21, 3) := by decide +kernel
theorem dX7_readTape_40 : decode cX7_readTape 40 = .ok (.if_icmp .ge 14, 3) := by decide +kernel
theorem dX7_readTape_43 : decode cX7_readTape 43 = .ok (.aload_n 0, 1) := by decide +kernel
theorem dX7_readTape_44 : decode cX7_readTape 44 = .ok (.invokevirtual 38, 3) := by decide +kernel
theorem dX7_readTape_47 : decode cX7_readTape 47 = .ok (.istore_n 1, 1) := by decide +kernel
theorem dX7_readTape_48 : decode cX7_readTape 48 = .ok (.iinc 2 1, 3) := by decide +kernel
theorem dX7_readTape_51 : decode cX7_readTape 51 = .ok (.goto (-29), 3) := by decide +kernel
theorem dX7_readTape_54 : decode cX7_readTape 54 = .ok (.iload_n 1, 1) := by decide +kernel
theorem dX7_readTape_55 : decode cX7_readTape 55 = .ok (.ireturn, 1) := by decide +kernel
set_option maxRecDepth 20000 in
set_option maxHeartbeats 4000000 in
theorem L_X7_readTape_22 (K : xK) (L : xL) : ∀ (n : Nat) (a0 : Nat) (a1 : Int32) (a2 : Int32) (h : xH), Sim K L cX7_readTape RX7 "readTape" 3 3 (fun q : Int32 × Int32 × xH => q.2.2) (fun q pc' ls' st' h' => pc' = 54 ∧ ls' = [(0, .ref a0), (1, .int q.1), (2, .int q.2.1)] ∧ st' = [] ∧ h' = q.2.2) 22 [(0, .ref a0), (1, .int a1), (2, .int a2)] [] h (f_X7_readTape_L22 n a0 a1 a2 h) := by
  intro n
  induction n with
  | zero =>
    intro a0 a1 a2 h
    exact Sim.none
  | succ n ih =>
    intro a0 a1 a2 h
    unfold f_X7_readTape_L22
    refine S_iload_n (pc := 22) 2 rfl dX7_readTape_22 rfl ?_
    refine S_bipush (pc := 23) dX7_readTape_23 bi_60 ?_
    refine S_icmp_ge (pc := 25) (tgt := 54) dX7_readTape_25 (by decide) ?_ ?_
    · refine S_sub [0, 1, 2] rfl ?_
      exact Sim.fin ⟨rfl, rfl, rfl, rfl⟩ rfl
    · refine S_iload_n (pc := 28) 1 rfl dX7_readTape_28 rfl ?_
      refine S_if_ne (pc := 29) (tgt := 54) dX7_readTape_29 (by decide) ?_ ?_
      · refine S_aload_n (pc := 32) 0 rfl dX7_readTape_32 rfl ?_
        refine S_getI (pc := 33) fd_X7_place wd_124 dX7_readTape_33 (fun v5 => ?_)
        refine S_aload_n (pc := 36) 0 rfl dX7_readTape_36 rfl ?_
        refine S_getI (pc := 37) fd_X7_tapeLength wd_122 dX7_readTape_37 (fun v6 => ?_)
        refine S_icmp_ge (pc := 40) (tgt := 54) dX7_readTape_40 (by decide) ?_ ?_
        · refine S_sub [0, 1, 2] rfl ?_
          exact Sim.fin ⟨rfl, rfl, rfl, rfl⟩ rfl
        · refine S_aload_n (pc := 43) 0 rfl dX7_readTape_43 rfl ?_
          refine S_call_i (pc := 44) (rest := []) (fun q hq => (x_if hq).elim (fun z => R_V (av := []) (q := (RX7, TX7, 9)) (M_X7_readRun _ a0 h z.2) z.1 rfl wd_301 wd_298 wd_300 wd_47 wd_2 ⟨rfl, hd_X7_readRun⟩ ⟨Nat.le_of_ble_eq_true rfl, Nat.le_of_ble_eq_true rfl⟩ rfl (Nat.le_of_ble_eq_true rfl) dX7_readTape_44) (fun hq => (by cases hq))) (fun _ h => absurd h List.not_mem_nil) (fun q7 => ?_)
          refine S_istore_n (pc := 47) dX7_readTape_47 rfl (Nat.le_of_ble_eq_true rfl) rfl ?_
          refine S_iinc (pc := 48) (v := a2 + (1 : Int32)) 2 rfl dX7_readTape_48 (x_inc ic_1) (Nat.le_of_ble_eq_true rfl) rfl ?_
          refine S_goto (pc := 51) (tgt := 22) dX7_readTape_51 (by decide) ?_
          refine S_sub [2, 1, 0] rfl ?_
          exact ih a0 q7.1 (a2 + (1 : Int32)) q7.2
      · refine S_sub [0, 1, 2] rfl ?_
        exact Sim.fin ⟨rfl, rfl, rfl, rfl⟩ rfl
set_option maxRecDepth 20000 in
set_option maxHeartbeats 4000000 in
theorem W_X7_readTape (K : xK) (L : xL) (a0 : Nat) (h : xH) : Sim K L cX7_readTape RX7 "readTape" 3 3 (fun q : Int32 × xH => q.2) (xRi cX7_readTape) 0 [(0, .ref a0)] [] h (f_X7_readTape a0 h) := by
  unfold f_X7_readTape
  refine S_aload_n (pc := 0) 0 rfl dX7_readTape_0 rfl ?_
  refine S_iconst (pc := 1) dX7_readTape_1 ic_0 ?_
  refine S_putI (pc := 2) fd_X7_place wd_124 rfl rfl dX7_readTape_2 (fun h1 => ?_)
  refine S_aload_n (pc := 5) 0 rfl dX7_readTape_5 rfl ?_
  refine S_iconst (pc := 6) dX7_readTape_6 ic_0 ?_
  refine S_putI (pc := 7) fd_X7_runCount wd_126 rfl rfl dX7_readTape_7 (fun h2 => ?_)
  refine S_aload_n (pc := 10) 0 rfl dX7_readTape_10 rfl ?_
  refine S_iconst (pc := 11) dX7_readTape_11 ic_0 ?_
  refine S_putI (pc := 12) fd_X7_bitSum wd_128 rfl rfl dX7_readTape_12 (fun h3 => ?_)
  refine S_aload_n (pc := 15) 0 rfl dX7_readTape_15 rfl ?_
  refine S_call_i (pc := 16) (rest := []) (fun q hq => (x_if hq).elim (fun z => R_V (av := []) (q := (RX7, TX7, 9)) (M_X7_readRun _ a0 h3 z.2) z.1 rfl wd_301 wd_298 wd_300 wd_47 wd_2 ⟨rfl, hd_X7_readRun⟩ ⟨Nat.le_of_ble_eq_true rfl, Nat.le_of_ble_eq_true rfl⟩ rfl (Nat.le_of_ble_eq_true rfl) dX7_readTape_16) (fun hq => (by cases hq))) (fun _ h => absurd h List.not_mem_nil) (fun q4 => ?_)
  refine S_istore_n (pc := 19) dX7_readTape_19 rfl (Nat.le_of_ble_eq_true rfl) rfl ?_
  refine S_iconst (pc := 20) dX7_readTape_20 ic_0 ?_
  refine S_istore_n (pc := 21) dX7_readTape_21 rfl (Nat.le_of_ble_eq_true rfl) rfl ?_
  refine S_sub [2, 1, 0] rfl ?_
  refine Sim.bind (hs := fun q8 : Int32 × Int32 × xH => q8.2.2) (px := 54) (lsx := fun q8 => [(0, .ref a0), (1, .int q8.1), (2, .int q8.2.1)]) (L_X7_readTape_22 K L xN a0 q4.1 (0 : Int32) q4.2) (fun q8 => ?_)
  refine S_iload_n (pc := 54) 1 rfl dX7_readTape_54 rfl ?_
  exact Sim.fin ⟨dX7_readTape_55, rfl, rfl⟩ rfl
theorem M_X7_readTape (l : Launch) (a0 : Nat) (h : xH) {q : Int32 × xH} (hq : f_X7_readTape a0 h = some q) : xM l yX7_readTape cX7_readTape 3 (some .int) 3 [.ref a0] h (some (.int q.1)) q.2 := xM_i (by decide +kernel) (Nat.le_of_ble_eq_true rfl) (fun K L => W_X7_readTape K L a0 h) hq
theorem dX11_load_0 : decode cX11_load 0 = .ok (.iload_n 1, 1) := by decide +kernel
theorem dX11_load_1 : decode cX11_load 1 = .ok (.invokestatic 113, 3) := by decide +kernel
theorem dX11_load_4 : decode cX11_load 4 = .ok (.ifCond .ne 6, 3) := by decide +kernel
theorem dX11_load_7 : decode cX11_load 7 = .ok (.ldc 65, 2) := by decide +kernel
theorem dX11_load_9 : decode cX11_load 9 = .ok (.ireturn, 1) := by decide +kernel
theorem dX11_load_10 : decode cX11_load 10 = .ok (.aload_n 0, 1) := by decide +kernel
theorem dX11_load_11 : decode cX11_load 11 = .ok (.getfield 43, 3) := by decide +kernel
theorem dX11_load_14 : decode cX11_load 14 = .ok (.invokevirtual 116, 3) := by decide +kernel
theorem dX11_load_17 : decode cX11_load 17 = .ok (.istore_n 2, 1) := by decide +kernel
theorem dX11_load_18 : decode cX11_load 18 = .ok (.aload_n 0, 1) := by decide +kernel
theorem dX11_load_19 : decode cX11_load 19 = .ok (.getfield 43, 3) := by decide +kernel
theorem dX11_load_22 : decode cX11_load 22 = .ok (.invokevirtual 120, 3) := by decide +kernel
theorem dX11_load_25 : decode cX11_load 25 = .ok (.iload_n 2, 1) := by decide +kernel
theorem dX11_load_26 : decode cX11_load 26 = .ok (.ifCond .eq 19, 3) := by decide +kernel
theorem dX11_load_29 : decode cX11_load 29 = .ok (.aload_n 0, 1) := by decide +kernel
theorem dX11_load_30 : decode cX11_load 30 = .ok (.iload_n 2, 1) := by decide +kernel
theorem dX11_load_31 : decode cX11_load 31 = .ok (.putfield 123, 3) := by decide +kernel
theorem dX11_load_34 : decode cX11_load 34 = .ok (.ldc 126, 2) := by decide +kernel
theorem dX11_load_36 : decode cX11_load 36 = .ok (.aload_n 0, 1) := by decide +kernel
theorem dX11_load_37 : decode cX11_load 37 = .ok (.getfield 43, 3) := by decide +kernel
theorem dX11_load_40 : decode cX11_load 40 = .ok (.getfield 127, 3) := by decide +kernel
theorem dX11_load_43 : decode cX11_load 43 = .ok (.isub, 1) := by decide +kernel
theorem dX11_load_44 : decode cX11_load 44 = .ok (.ireturn, 1) := by decide +kernel
theorem dX11_load_45 : decode cX11_load 45 = .ok (.aload_n 0, 1) := by decide +kernel
theorem dX11_load_46 : decode cX11_load 46 = .ok (.invokevirtual 130, 3) := by decide +kernel
theorem dX11_load_49 : decode cX11_load 49 = .ok (.aload_n 0, 1) := by decide +kernel
theorem dX11_load_50 : decode cX11_load 50 = .ok (.iload_n 1, 1) := by decide +kernel
theorem dX11_load_51 : decode cX11_load 51 = .ok (.invokevirtual 133, 3) := by decide +kernel
theorem dX11_load_54 : decode cX11_load 54 = .ok (.astore_n 3, 1) := by decide +kernel
theorem dX11_load_55 : decode cX11_load 55 = .ok (.aload_n 3, 1) := by decide +kernel
theorem dX11_load_56 : decode cX11_load 56 = .ok (.iconst 0, 1) := by decide +kernel
theorem dX11_load_57 : decode cX11_load 57 = .ok (.invokevirtual 137, 3) := by decide +kernel
theorem dX11_load_60 : decode cX11_load 60 = .ok (.iconst 0, 1) := by decide +kernel
theorem dX11_load_61 : decode cX11_load 61 = .ok (.istore 4, 2) := by decide +kernel
theorem dX11_load_63 : decode cX11_load 63 = .ok (.iload 4, 2) := by decide +kernel
theorem dX11_load_65 : decode cX11_load 65 = .ok (.aload_n 0, 1) := by decide +kernel
theorem dX11_load_66 : decode cX11_load 66 = .ok (.getfield 141, 3) := by decide +kernel
theorem dX11_load_69 : decode cX11_load 69 = .ok (.if_icmp .ge 20, 3) := by decide +kernel
theorem dX11_load_72 : decode cX11_load 72 = .ok (.aload_n 3, 1) := by decide +kernel
theorem dX11_load_73 : decode cX11_load 73 = .ok (.aload_n 0, 1) := by decide +kernel
theorem dX11_load_74 : decode cX11_load 74 = .ok (.getfield 49, 3) := by decide +kernel
theorem dX11_load_77 : decode cX11_load 77 = .ok (.iload 4, 2) := by decide +kernel
theorem dX11_load_79 : decode cX11_load 79 = .ok (.aaload, 1) := by decide +kernel
theorem dX11_load_80 : decode cX11_load 80 = .ok (.invokevirtual 144, 3) := by decide +kernel
theorem dX11_load_83 : decode cX11_load 83 = .ok (.iinc 4 1, 3) := by decide +kernel
theorem dX11_load_86 : decode cX11_load 86 = .ok (.goto (-23), 3) := by decide +kernel
theorem dX11_load_89 : decode cX11_load 89 = .ok (.aload_n 3, 1) := by decide +kernel
theorem dX11_load_90 : decode cX11_load 90 = .ok (.getfield 148, 3) := by decide +kernel
theorem dX11_load_93 : decode cX11_load 93 = .ok (.ireturn, 1) := by decide +kernel
set_option maxRecDepth 20000 in
set_option maxHeartbeats 4000000 in
theorem L_X11_load_63 (K : xK) (L : xL) : ∀ (n : Nat) (a0 : Nat) (a3 : Nat) (a4 : Int32) (h : xH), Sim K L cX11_load RX11 "load" 5 6 (fun q : Int32 × xH => q.2) (fun q pc' ls' st' h' => pc' = 89 ∧ ls' = [(0, .ref a0), (3, .ref a3), (4, .int q.1)] ∧ st' = [] ∧ h' = q.2) 63 [(0, .ref a0), (3, .ref a3), (4, .int a4)] [] h (f_X11_load_L63 n a0 a3 a4 h) := by
  intro n
  induction n with
  | zero =>
    intro a0 a3 a4 h
    exact Sim.none
  | succ n ih =>
    intro a0 a3 a4 h
    unfold f_X11_load_L63
    refine S_iload (pc := 63) 2 rfl dX11_load_63 ?_
    refine S_aload_n (pc := 65) 0 rfl dX11_load_65 rfl ?_
    refine S_getI (pc := 66) fd_X11_runCount wd_198 dX11_load_66 (fun v9 => ?_)
    refine S_icmp_ge (pc := 69) (tgt := 89) dX11_load_69 (by decide) ?_ ?_
    · refine S_sub [0, 1, 2] rfl ?_
      exact Sim.fin ⟨rfl, rfl, rfl, rfl⟩ rfl
    · refine S_aload_n (pc := 72) 1 rfl dX11_load_72 rfl ?_
      refine S_aload_n (pc := 73) 0 rfl dX11_load_73 rfl ?_
      refine S_getR (pc := 74) fd_X11_runs wd_196 dX11_load_74 (fun v10 => ?_)
      refine S_iload (pc := 77) 2 rfl dX11_load_77 ?_
      refine S_aR (pc := 79) (fun _ => rfl) dX11_load_79 (fun v11 => ?_)
      refine S_call_v (pc := 80) (rest := []) (fun q hq => (x_if hq).elim (fun z => R_V (av := [.ref v11]) (q := (RX1, TX1, 2)) (M_X1_appendRun _ a3 v11 h z.2) z.1 rfl wd_412 wd_409 wd_410 wd_45 wd_411 ⟨rfl, hd_X1_appendRun⟩ ⟨Nat.le_of_ble_eq_true rfl, Nat.le_of_ble_eq_true rfl⟩ rfl (Nat.le_of_ble_eq_true rfl) dX11_load_80) (fun hq => (by cases hq))) (fun _ h => absurd h List.not_mem_nil) (fun q12 => ?_)
      refine S_iinc (pc := 83) (v := a4 + (1 : Int32)) 2 rfl dX11_load_83 (x_inc ic_1) (Nat.le_of_ble_eq_true rfl) rfl ?_
      refine S_goto (pc := 86) (tgt := 63) dX11_load_86 (by decide) ?_
      refine S_sub [1, 2, 0] rfl ?_
      exact ih a0 a3 (a4 + (1 : Int32)) q12
set_option maxRecDepth 20000 in
set_option maxHeartbeats 4000000 in
theorem W_X11_load (K : xK) (L : xL) (a0 : Nat) (a1 : Int32) (h : xH) : Sim K L cX11_load RX11 "load" 5 6 (fun q : Int32 × xH => q.2) (xRi cX11_load) 0 [(0, .ref a0), (1, .int a1)] [] h (f_X11_load a0 a1 h) := by
  unfold f_X11_load
  refine S_iload_n (pc := 0) 1 rfl dX11_load_0 rfl ?_
  refine S_call_i (pc := 1) (rest := []) (fun q hq => R_S (av := [.int a1]) (M_X11_isVector _ a1 h hq) wd_293 wd_291 wd_292 wd_44 hd_X11_isVector ⟨Nat.le_of_ble_eq_true rfl, Nat.le_of_ble_eq_true rfl⟩ rfl (Nat.le_of_ble_eq_true rfl) dX11_load_1) (fun _ h => absurd h List.not_mem_nil) (fun q1 => ?_)
  refine S_if_ne (pc := 4) (tgt := 10) dX11_load_4 (by decide) ?_ ?_
  · refine S_ldc (pc := 7) wd_233 dX11_load_7 ?_
    exact Sim.fin ⟨dX11_load_9, rfl, rfl⟩ rfl
  · refine S_aload_n (pc := 10) 0 rfl dX11_load_10 rfl ?_
    refine S_getR (pc := 11) fd_X11_reader wd_195 dX11_load_11 (fun v2 => ?_)
    refine S_call_i (pc := 14) (rest := []) (fun q hq => (x_if hq).elim (fun z => R_V (av := []) (q := (RX7, TX7, 9)) (M_X7_readTape _ v2 q1.2 z.2) z.1 rfl wd_297 wd_294 wd_295 wd_47 wd_296 ⟨rfl, hd_X7_readTape⟩ ⟨Nat.le_of_ble_eq_true rfl, Nat.le_of_ble_eq_true rfl⟩ rfl (Nat.le_of_ble_eq_true rfl) dX11_load_14) (fun hq => (by cases hq))) (fun _ h => absurd h List.not_mem_nil) (fun q3 => ?_)
    refine S_istore_n (pc := 17) dX11_load_17 rfl (Nat.le_of_ble_eq_true rfl) rfl ?_
    refine S_aload_n (pc := 18) 1 rfl dX11_load_18 rfl ?_
    refine S_getR (pc := 19) fd_X11_reader wd_195 dX11_load_19 (fun v4 => ?_)
    refine S_call_v (pc := 22) (rest := []) (fun q hq => (x_if hq).elim (fun z => R_V (av := []) (q := (RX7, TX7, 9)) (M_X7_emptyTape _ v4 q3.2 z.2) z.1 rfl wd_328 wd_325 wd_326 wd_47 wd_327 ⟨rfl, hd_X7_emptyTape⟩ ⟨Nat.le_of_ble_eq_true rfl, Nat.le_of_ble_eq_true rfl⟩ rfl (Nat.le_of_ble_eq_true rfl) dX11_load_22) (fun hq => (by cases hq))) (fun _ h => absurd h List.not_mem_nil) (fun q5 => ?_)
    refine S_iload_n (pc := 25) 0 rfl dX11_load_25 rfl ?_
    refine S_if_eq (pc := 26) (tgt := 45) dX11_load_26 (by decide) ?_ ?_
    · refine S_aload_n (pc := 45) 1 rfl dX11_load_45 rfl ?_
      refine S_call_v (pc := 46) (rest := []) (fun q hq => (x_if hq).elim (fun z => R_V (av := []) (q := (RX11, TX11, 12)) (M_X11_takeOverRuns _ a0 q5 z.2) z.1 rfl wd_333 wd_330 wd_332 wd_44 wd_7 ⟨rfl, hd_X11_takeOverRuns⟩ ⟨Nat.le_of_ble_eq_true rfl, Nat.le_of_ble_eq_true rfl⟩ rfl (Nat.le_of_ble_eq_true rfl) dX11_load_46) (fun hq => (by cases hq))) (fun _ h => absurd h List.not_mem_nil) (fun q6 => ?_)
      refine S_aload_n (pc := 49) 1 rfl dX11_load_49 rfl ?_
      refine S_iload_n (pc := 50) 2 rfl dX11_load_50 rfl ?_
      refine S_call_r (pc := 51) (rest := []) (fun q hq => (x_if hq).elim (fun z => R_V (av := [.int a1]) (q := (RX11, TX11, 12)) (M_X11_vectorToChange _ a0 a1 q6 z.2) z.1 rfl wd_394 wd_391 wd_393 wd_44 wd_8 ⟨rfl, hd_X11_vectorToChange⟩ ⟨Nat.le_of_ble_eq_true rfl, Nat.le_of_ble_eq_true rfl⟩ rfl (Nat.le_of_ble_eq_true rfl) dX11_load_51) (fun hq => (by cases hq))) (fun _ h => absurd h List.not_mem_nil) (fun q7 => ?_)
      refine S_astore_n (pc := 54) dX11_load_54 rfl (Nat.le_of_ble_eq_true rfl) rfl ?_
      refine S_aload_n (pc := 55) 0 rfl dX11_load_55 rfl ?_
      refine S_iconst (pc := 56) dX11_load_56 ic_0 ?_
      refine S_call_v (pc := 57) (rest := []) (fun q hq => (x_if hq).elim (fun z => R_V (av := [.int (0 : Int32)]) (q := (RX1, TX1, 2)) (M_X1_clearTo _ q7.1 (0 : Int32) q7.2 z.2) z.1 rfl wd_407 wd_404 wd_405 wd_45 wd_406 ⟨rfl, hd_X1_clearTo⟩ ⟨Nat.le_of_ble_eq_true rfl, Nat.le_of_ble_eq_true rfl⟩ rfl (Nat.le_of_ble_eq_true rfl) dX11_load_57) (fun hq => (by cases hq))) (fun _ h => absurd h List.not_mem_nil) (fun q8 => ?_)
      refine S_iconst (pc := 60) dX11_load_60 ic_0 ?_
      refine S_istore (pc := 61) dX11_load_61 (Nat.le_of_ble_eq_true rfl) rfl ?_
      refine S_sub [3, 1, 0] rfl ?_
      refine Sim.bind (hs := fun q13 : Int32 × xH => q13.2) (px := 89) (lsx := fun q13 => [(0, .ref a0), (3, .ref q7.1), (4, .int q13.1)]) (L_X11_load_63 K L xN a0 q7.1 (0 : Int32) q8) (fun q13 => ?_)
      refine S_aload_n (pc := 89) 1 rfl dX11_load_89 rfl ?_
      refine S_getI (pc := 90) fd_X1_length wd_81 dX11_load_90 (fun v14 => ?_)
      exact Sim.fin ⟨dX11_load_93, rfl, rfl⟩ rfl
    · refine S_aload_n (pc := 29) 1 rfl dX11_load_29 rfl ?_
      refine S_iload_n (pc := 30) 0 rfl dX11_load_30 rfl ?_
      refine S_putI (pc := 31) fd_X11_latestFault wd_199 rfl rfl dX11_load_31 (fun h15 => ?_)
      refine S_ldc (pc := 34) wd_329 dX11_load_34 ?_
      refine S_aload_n (pc := 36) 1 rfl dX11_load_36 rfl ?_
      refine S_getR (pc := 37) fd_X11_reader wd_195 dX11_load_37 (fun v16 => ?_)
      refine S_getI (pc := 40) fd_X7_place wd_125 dX11_load_40 (fun v17 => ?_)
      refine S_isub (pc := 43) dX11_load_43 ?_
      exact Sim.fin ⟨dX11_load_44, rfl, rfl⟩ rfl
theorem M_X11_load (l : Launch) (a0 : Nat) (a1 : Int32) (h : xH) {q : Int32 × xH} (hq : f_X11_load a0 a1 h = some q) : xM l yX11_load cX11_load 5 (some .int) 6 [.ref a0, .int a1] h (some (.int q.1)) q.2 := xM_i (by decide +kernel) (Nat.le_of_ble_eq_true rfl) (fun K L => W_X11_load K L a0 a1 h) hq
