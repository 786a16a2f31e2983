theorem dX11_tell_0 : decode cX11_tell 0 = .ok (.iload_n 1, 1) := by decide +kernel
theorem dX11_tell_1 : decode cX11_tell 1 = .ok (.invokestatic 113, 3) := by decide +kernel
theorem dX11_tell_4 : decode cX11_tell 4 = .ok (.ifCond .eq 14, 3) := by decide +kernel
theorem dX11_tell_7 : decode cX11_tell 7 = .ok (.iload_n 2, 1) := by decide +kernel
theorem dX11_tell_8 : decode cX11_tell 8 = .ok (.ifCond .lt 10, 3) := by decide +kernel
theorem dX11_tell_11 : decode cX11_tell 11 = .ok (.iload_n 3, 1) := by decide +kernel
theorem dX11_tell_12 : decode cX11_tell 12 = .ok (.invokestatic 61, 3) := by decide +kernel
theorem dX11_tell_15 : decode cX11_tell 15 = .ok (.ifCond .ne 6, 3) := by decide +kernel
theorem dX11_tell_18 : decode cX11_tell 18 = .ok (.ldc 65, 2) := by decide +kernel
theorem dX11_tell_20 : decode cX11_tell 20 = .ok (.ireturn, 1) := by decide +kernel
theorem dX11_tell_21 : decode cX11_tell 21 = .ok (.aload_n 0, 1) := by decide +kernel
theorem dX11_tell_22 : decode cX11_tell 22 = .ok (.getfield 11, 3) := by decide +kernel
theorem dX11_tell_25 : decode cX11_tell 25 = .ok (.iload_n 3, 1) := by decide +kernel
theorem dX11_tell_26 : decode cX11_tell 26 = .ok (.aaload, 1) := by decide +kernel
theorem dX11_tell_27 : decode cX11_tell 27 = .ok (.astore 5, 2) := by decide +kernel
theorem dX11_tell_29 : decode cX11_tell 29 = .ok (.aload 5, 2) := by decide +kernel
theorem dX11_tell_31 : decode cX11_tell 31 = .ok (.getfield 77, 3) := by decide +kernel
theorem dX11_tell_34 : decode cX11_tell 34 = .ok (.ifCond .eq 9, 3) := by decide +kernel
theorem dX11_tell_37 : decode cX11_tell 37 = .ok (.aload_n 0, 1) := by decide +kernel
theorem dX11_tell_38 : decode cX11_tell 38 = .ok (.iconst 1, 1) := by decide +kernel
theorem dX11_tell_39 : decode cX11_tell 39 = .ok (.invokevirtual 66, 3) := by decide +kernel
theorem dX11_tell_42 : decode cX11_tell 42 = .ok (.ireturn, 1) := by decide +kernel
theorem dX11_tell_43 : decode cX11_tell 43 = .ok (.iload 4, 2) := by decide +kernel
theorem dX11_tell_45 : decode cX11_tell 45 = .ok (.ifCond .lt 13, 3) := by decide +kernel
theorem dX11_tell_48 : decode cX11_tell 48 = .ok (.iload 4, 2) := by decide +kernel
theorem dX11_tell_50 : decode cX11_tell 50 = .ok (.aload 5, 2) := by decide +kernel
theorem dX11_tell_52 : decode cX11_tell 52 = .ok (.getfield 81, 3) := by decide +kernel
theorem dX11_tell_55 : decode cX11_tell 55 = .ok (.if_icmp .le 9, 3) := by decide +kernel
theorem dX11_tell_58 : decode cX11_tell 58 = .ok (.aload_n 0, 1) := by decide +kernel
theorem dX11_tell_59 : decode cX11_tell 59 = .ok (.iconst 2, 1) := by decide +kernel
theorem dX11_tell_60 : decode cX11_tell 60 = .ok (.invokevirtual 66, 3) := by decide +kernel
theorem dX11_tell_63 : decode cX11_tell 63 = .ok (.ireturn, 1) := by decide +kernel
theorem dX11_tell_64 : decode cX11_tell 64 = .ok (.aload_n 0, 1) := by decide +kernel
theorem dX11_tell_65 : decode cX11_tell 65 = .ok (.getfield 17, 3) := by decide +kernel
theorem dX11_tell_68 : decode cX11_tell 68 = .ok (.iload_n 1, 1) := by decide +kernel
theorem dX11_tell_69 : decode cX11_tell 69 = .ok (.aaload, 1) := by decide +kernel
theorem dX11_tell_70 : decode cX11_tell 70 = .ok (.astore 6, 2) := by decide +kernel
theorem dX11_tell_72 : decode cX11_tell 72 = .ok (.iconst 0, 1) := by decide +kernel
theorem dX11_tell_73 : decode cX11_tell 73 = .ok (.istore 7, 2) := by decide +kernel
theorem dX11_tell_75 : decode cX11_tell 75 = .ok (.iconst 0, 1) := by decide +kernel
theorem dX11_tell_76 : decode cX11_tell 76 = .ok (.istore 8, 2) := by decide +kernel
theorem dX11_tell_78 : decode cX11_tell 78 = .ok (.iconst 0, 1) := by decide +kernel
theorem dX11_tell_79 : decode cX11_tell 79 = .ok (.istore 9, 2) := by decide +kernel
theorem dX11_tell_81 : decode cX11_tell 81 = .ok (.iload 9, 2) := by decide +kernel
theorem dX11_tell_83 : decode cX11_tell 83 = .ok (.aload 6, 2) := by decide +kernel
theorem dX11_tell_85 : decode cX11_tell 85 = .ok (.getfield 148, 3) := by decide +kernel
theorem dX11_tell_88 : decode cX11_tell 88 = .ok (.if_icmp .ge 60, 3) := by decide +kernel
theorem dX11_tell_91 : decode cX11_tell 91 = .ok (.iload 4, 2) := by decide +kernel
theorem dX11_tell_93 : decode cX11_tell 93 = .ok (.iload 8, 2) := by decide +kernel
theorem dX11_tell_95 : decode cX11_tell 95 = .ok (.iadd, 1) := by decide +kernel
theorem dX11_tell_96 : decode cX11_tell 96 = .ok (.aload 5, 2) := by decide +kernel
theorem dX11_tell_98 : decode cX11_tell 98 = .ok (.getfield 81, 3) := by decide +kernel
theorem dX11_tell_101 : decode cX11_tell 101 = .ok (.if_icmp .ge 47, 3) := by decide +kernel
theorem dX11_tell_104 : decode cX11_tell 104 = .ok (.aload 6, 2) := by decide +kernel
theorem dX11_tell_106 : decode cX11_tell 106 = .ok (.iload 9, 2) := by decide +kernel
theorem dX11_tell_108 : decode cX11_tell 108 = .ok (.invokevirtual 152, 3) := by decide +kernel
theorem dX11_tell_111 : decode cX11_tell 111 = .ok (.iconst 1, 1) := by decide +kernel
theorem dX11_tell_112 : decode cX11_tell 112 = .ok (.if_icmp .ne 30, 3) := by decide +kernel
theorem dX11_tell_115 : decode cX11_tell 115 = .ok (.iload 7, 2) := by decide +kernel
theorem dX11_tell_117 : decode cX11_tell 117 = .ok (.iload_n 2, 1) := by decide +kernel
theorem dX11_tell_118 : decode cX11_tell 118 = .ok (.if_icmp .ge 9, 3) := by decide +kernel
theorem dX11_tell_121 : decode cX11_tell 121 = .ok (.iinc 7 1, 3) := by decide +kernel
theorem dX11_tell_124 : decode cX11_tell 124 = .ok (.goto 18, 3) := by decide +kernel
theorem dX11_tell_127 : decode cX11_tell 127 = .ok (.aload 5, 2) := by decide +kernel
theorem dX11_tell_129 : decode cX11_tell 129 = .ok (.iload 4, 2) := by decide +kernel
theorem dX11_tell_131 : decode cX11_tell 131 = .ok (.iload 8, 2) := by decide +kernel
theorem dX11_tell_133 : decode cX11_tell 133 = .ok (.iadd, 1) := by decide +kernel
theorem dX11_tell_134 : decode cX11_tell 134 = .ok (.iload 9, 2) := by decide +kernel
theorem dX11_tell_136 : decode cX11_tell 136 = .ok (.invokevirtual 85, 3) := by decide +kernel
theorem dX11_tell_139 : decode cX11_tell 139 = .ok (.iinc 8 1, 3) := by decide +kernel
theorem dX11_tell_142 : decode cX11_tell 142 = .ok (.iinc 9 1, 3) := by decide +kernel
theorem dX11_tell_145 : decode cX11_tell 145 = .ok (.goto (-64), 3) := by decide +kernel
theorem dX11_tell_148 : decode cX11_tell 148 = .ok (.aload_n 0, 1) := by decide +kernel
theorem dX11_tell_149 : decode cX11_tell 149 = .ok (.iload 8, 2) := by decide +kernel
theorem dX11_tell_151 : decode cX11_tell 151 = .ok (.invokevirtual 74, 3) := by decide +kernel
theorem dX11_tell_154 : decode cX11_tell 154 = .ok (.ireturn, 1) := by decide +kernel
set_option maxRecDepth 20000 in
set_option maxHeartbeats 4000000 in
theorem L_X11_tell_81 (K : xK) (L : xL) : ∀ (n : Nat) (a0 : Nat) (a2 : Int32) (a4 : Int32) (a5 : Nat) (a6 : Nat) (a7 : Int32) (a8 : Int32) (a9 : Int32) (h : xH), Sim K L cX11_tell RX11 "tell" 10 1 (fun q : Int32 × Int32 × Int32 × xH => q.2.2.2) (fun q pc' ls' st' h' => pc' = 148 ∧ ls' = [(0, .ref a0), (2, .int a2), (4, .int a4), (5, .ref a5), (6, .ref a6), (7, .int q.1), (8, .int q.2.1), (9, .int q.2.2.1)] ∧ st' = [] ∧ h' = q.2.2.2) 81 [(0, .ref a0), (2, .int a2), (4, .int a4), (5, .ref a5), (6, .ref a6), (7, .int a7), (8, .int a8), (9, .int a9)] [] h (f_X11_tell_L81 n a0 a2 a4 a5 a6 a7 a8 a9 h) := by
  intro n
  induction n with
  | zero =>
    intro a0 a2 a4 a5 a6 a7 a8 a9 h
    exact Sim.none
  | succ n ih =>
    intro a0 a2 a4 a5 a6 a7 a8 a9 h
    unfold f_X11_tell_L81
    refine S_iload (pc := 81) 7 rfl dX11_tell_81 ?_
    refine S_aload (pc := 83) 4 rfl dX11_tell_83 ?_
    refine S_getI (pc := 85) fd_X1_length wd_81 dX11_tell_85 (fun v10 => ?_)
    refine S_icmp_ge (pc := 88) (tgt := 148) dX11_tell_88 (by decide) ?_ ?_
    · refine S_sub [0, 1, 2, 3, 4, 5, 6, 7] rfl ?_
      exact Sim.fin ⟨rfl, rfl, rfl, rfl⟩ rfl
    · refine S_iload (pc := 91) 2 rfl dX11_tell_91 ?_
      refine S_iload (pc := 93) 6 rfl dX11_tell_93 ?_
      refine S_iadd (pc := 95) dX11_tell_95 ?_
      refine S_aload (pc := 96) 3 rfl dX11_tell_96 ?_
      refine S_getI (pc := 98) fd_X5_length wd_179 dX11_tell_98 (fun v11 => ?_)
      refine S_icmp_ge (pc := 101) (tgt := 148) dX11_tell_101 (by decide) ?_ ?_
      · refine S_sub [0, 1, 2, 3, 4, 5, 6, 7] rfl ?_
        exact Sim.fin ⟨rfl, rfl, rfl, rfl⟩ rfl
      · refine S_aload (pc := 104) 4 rfl dX11_tell_104 ?_
        refine S_iload (pc := 106) 7 rfl dX11_tell_106 ?_
        refine S_call_i (pc := 108) (rest := []) (fun q hq => (x_if hq).elim (fun z => R_V (av := [.int a9]) (q := (RX1, TX1, 2)) (M_X1_bitAt _ a6 a9 h z.2) z.1 rfl wd_454 wd_451 wd_452 wd_45 wd_453 ⟨rfl, hd_X1_bitAt⟩ ⟨Nat.le_of_ble_eq_true rfl, Nat.le_of_ble_eq_true rfl⟩ rfl (Nat.le_of_ble_eq_true rfl) dX11_tell_108) (fun hq => (by cases hq))) (fun _ h => absurd h List.not_mem_nil) (fun q12 => ?_)
        refine S_iconst (pc := 111) dX11_tell_111 ic_1 ?_
        refine S_icmp_ne (pc := 112) (tgt := 142) dX11_tell_112 (by decide) ?_ ?_
        · refine S_iload (pc := 115) 5 rfl dX11_tell_115 ?_
          refine S_iload_n (pc := 117) 1 rfl dX11_tell_117 rfl ?_
          refine S_icmp_ge (pc := 118) (tgt := 127) dX11_tell_118 (by decide) ?_ ?_
          · refine S_aload (pc := 127) 3 rfl dX11_tell_127 ?_
            refine S_iload (pc := 129) 2 rfl dX11_tell_129 ?_
            refine S_iload (pc := 131) 6 rfl dX11_tell_131 ?_
            refine S_iadd (pc := 133) dX11_tell_133 ?_
            refine S_iload (pc := 134) 7 rfl dX11_tell_134 ?_
            refine S_call_v (pc := 136) (rest := []) (fun q hq => (x_if hq).elim (fun z => R_V (av := [.int (a4 + a8), .int a9]) (q := (RX5, TX5, 4)) (M_X5_store _ a5 (a4 + a8) a9 q12.2 z.2) z.1 rfl wd_257 wd_254 wd_255 wd_49 wd_256 ⟨rfl, hd_X5_store⟩ ⟨Nat.le_of_ble_eq_true rfl, Nat.le_of_ble_eq_true rfl⟩ rfl (Nat.le_of_ble_eq_true rfl) dX11_tell_136) (fun hq => (by cases hq))) (fun _ h => absurd h List.not_mem_nil) (fun q13 => ?_)
            refine S_iinc (pc := 139) (v := a8 + (1 : Int32)) 6 rfl dX11_tell_139 (x_inc ic_1) (Nat.le_of_ble_eq_true rfl) rfl ?_
            refine S_iinc (pc := 142) (v := a9 + (1 : Int32)) 7 rfl dX11_tell_142 (x_inc ic_1) (Nat.le_of_ble_eq_true rfl) rfl ?_
            refine S_goto (pc := 145) (tgt := 81) dX11_tell_145 (by decide) ?_
            refine S_sub [2, 3, 4, 5, 6, 7, 1, 0] rfl ?_
            exact ih a0 a2 a4 a5 a6 a7 (a8 + (1 : Int32)) (a9 + (1 : Int32)) q13
          · refine S_iinc (pc := 121) (v := a7 + (1 : Int32)) 5 rfl dX11_tell_121 (x_inc ic_1) (Nat.le_of_ble_eq_true rfl) rfl ?_
            refine S_goto (pc := 124) (tgt := 142) dX11_tell_124 (by decide) ?_
            refine S_iinc (pc := 142) (v := a9 + (1 : Int32)) 7 rfl dX11_tell_142 (x_inc ic_1) (Nat.le_of_ble_eq_true rfl) rfl ?_
            refine S_goto (pc := 145) (tgt := 81) dX11_tell_145 (by decide) ?_
            refine S_sub [2, 3, 4, 5, 6, 1, 7, 0] rfl ?_
            exact ih a0 a2 a4 a5 a6 (a7 + (1 : Int32)) a8 (a9 + (1 : Int32)) q12.2
        · refine S_iinc (pc := 142) (v := a9 + (1 : Int32)) 7 rfl dX11_tell_142 (x_inc ic_1) (Nat.le_of_ble_eq_true rfl) rfl ?_
          refine S_goto (pc := 145) (tgt := 81) dX11_tell_145 (by decide) ?_
          refine S_sub [1, 2, 3, 4, 5, 6, 7, 0] rfl ?_
          exact ih a0 a2 a4 a5 a6 a7 a8 (a9 + (1 : Int32)) q12.2
set_option maxRecDepth 20000 in
set_option maxHeartbeats 4000000 in
theorem W_X11_tell (K : xK) (L : xL) (a0 : Nat) (a1 : Int32) (a2 : Int32) (a3 : Int32) (a4 : Int32) (h : xH) : Sim K L cX11_tell RX11 "tell" 10 1 (fun q : Int32 × xH => q.2) (xRi cX11_tell) 0 [(0, .ref a0), (1, .int a1), (2, .int a2), (3, .int a3), (4, .int a4)] [] h (f_X11_tell a0 a1 a2 a3 a4 h) := by
  unfold f_X11_tell
  refine S_iload_n (pc := 0) 1 rfl dX11_tell_0 rfl ?_
  refine S_call_i (pc := 1) (rest := []) (fun q hq => R_S (av := [.int a1]) (M_X11_isVector _ a1 h hq) wd_293 wd_291 wd_292 wd_44 hd_X11_isVector ⟨Nat.le_of_ble_eq_true rfl, Nat.le_of_ble_eq_true rfl⟩ rfl (Nat.le_of_ble_eq_true rfl) dX11_tell_1) (fun _ h => absurd h List.not_mem_nil) (fun q1 => ?_)
  refine S_if_eq (pc := 4) (tgt := 18) dX11_tell_4 (by decide) ?_ ?_
  · refine S_ldc (pc := 18) wd_233 dX11_tell_18 ?_
    exact Sim.fin ⟨dX11_tell_20, rfl, rfl⟩ rfl
  · refine S_iload_n (pc := 7) 2 rfl dX11_tell_7 rfl ?_
    refine S_if_lt (pc := 8) (tgt := 18) dX11_tell_8 (by decide) ?_ ?_
    · refine S_ldc (pc := 18) wd_233 dX11_tell_18 ?_
      exact Sim.fin ⟨dX11_tell_20, rfl, rfl⟩ rfl
    · refine S_iload_n (pc := 11) 3 rfl dX11_tell_11 rfl ?_
      refine S_call_i (pc := 12) (rest := []) (fun q hq => R_S (av := [.int a3]) (M_X11_isRow _ a3 q1.2 hq) wd_232 wd_230 wd_231 wd_44 hd_X11_isRow ⟨Nat.le_of_ble_eq_true rfl, Nat.le_of_ble_eq_true rfl⟩ rfl (Nat.le_of_ble_eq_true rfl) dX11_tell_12) (fun _ h => absurd h List.not_mem_nil) (fun q2 => ?_)
      refine S_if_ne (pc := 15) (tgt := 21) dX11_tell_15 (by decide) ?_ ?_
      · refine S_ldc (pc := 18) wd_233 dX11_tell_18 ?_
        exact Sim.fin ⟨dX11_tell_20, rfl, rfl⟩ rfl
      · refine S_aload_n (pc := 21) 0 rfl dX11_tell_21 rfl ?_
        refine S_getR (pc := 22) fd_X11_rows wd_189 dX11_tell_22 (fun v3 => ?_)
        refine S_iload_n (pc := 25) 3 rfl dX11_tell_25 rfl ?_
        refine S_aR (pc := 26) (fun _ => rfl) dX11_tell_26 (fun v4 => ?_)
        refine S_astore (pc := 27) dX11_tell_27 (Nat.le_of_ble_eq_true rfl) rfl ?_
        refine S_aload (pc := 29) 0 rfl dX11_tell_29 ?_
        refine S_getI (pc := 31) fd_X5_missing wd_175 dX11_tell_31 (fun v5 => ?_)
        refine S_if_eq (pc := 34) (tgt := 43) dX11_tell_34 (by decide) ?_ ?_
        · refine S_iload (pc := 43) 5 rfl dX11_tell_43 ?_
          refine S_if_lt (pc := 45) (tgt := 58) dX11_tell_45 (by decide) ?_ ?_
          · refine S_aload_n (pc := 58) 1 rfl dX11_tell_58 rfl ?_
            refine S_iconst (pc := 59) dX11_tell_59 ic_2 ?_
            refine S_call_i (pc := 60) (rest := []) (fun q hq => (x_if hq).elim (fun z => R_V (av := [.int (2 : Int32)]) (q := (RX11, TX11, 12)) (M_X11_found _ a0 (2 : Int32) q2.2 z.2) z.1 rfl wd_237 wd_234 wd_236 wd_44 wd_0 ⟨rfl, hd_X11_found⟩ ⟨Nat.le_of_ble_eq_true rfl, Nat.le_of_ble_eq_true rfl⟩ rfl (Nat.le_of_ble_eq_true rfl) dX11_tell_60) (fun hq => (by cases hq))) (fun _ h => absurd h List.not_mem_nil) (fun q6 => ?_)
            exact Sim.fin ⟨dX11_tell_63, rfl, rfl⟩ rfl
          · refine S_iload (pc := 48) 5 rfl dX11_tell_48 ?_
            refine S_aload (pc := 50) 0 rfl dX11_tell_50 ?_
            refine S_getI (pc := 52) fd_X5_length wd_179 dX11_tell_52 (fun v7 => ?_)
            refine S_icmp_le (pc := 55) (tgt := 64) dX11_tell_55 (by decide) ?_ ?_
            · refine S_aload_n (pc := 64) 1 rfl dX11_tell_64 rfl ?_
              refine S_getR (pc := 65) fd_X11_vectors wd_190 dX11_tell_65 (fun v8 => ?_)
              refine S_iload_n (pc := 68) 2 rfl dX11_tell_68 rfl ?_
              refine S_aR (pc := 69) (fun _ => rfl) dX11_tell_69 (fun v9 => ?_)
              refine S_astore (pc := 70) dX11_tell_70 (Nat.le_of_ble_eq_true rfl) rfl ?_
              refine S_iconst (pc := 72) dX11_tell_72 ic_0 ?_
              refine S_istore (pc := 73) dX11_tell_73 (Nat.le_of_ble_eq_true rfl) rfl ?_
              refine S_iconst (pc := 75) dX11_tell_75 ic_0 ?_
              refine S_istore (pc := 76) dX11_tell_76 (Nat.le_of_ble_eq_true rfl) rfl ?_
              refine S_iconst (pc := 78) dX11_tell_78 ic_0 ?_
              refine S_istore (pc := 79) dX11_tell_79 (Nat.le_of_ble_eq_true rfl) rfl ?_
              refine S_sub [5, 7, 9, 4, 3, 2, 1, 0] rfl ?_
              refine Sim.bind (hs := fun q14 : Int32 × Int32 × Int32 × xH => q14.2.2.2) (px := 148) (lsx := fun q14 => [(0, .ref a0), (2, .int a2), (4, .int a4), (5, .ref v4), (6, .ref v9), (7, .int q14.1), (8, .int q14.2.1), (9, .int q14.2.2.1)]) (L_X11_tell_81 K L xN a0 a2 a4 v4 v9 (0 : Int32) (0 : Int32) (0 : Int32) q2.2) (fun q14 => ?_)
              refine S_aload_n (pc := 148) 0 rfl dX11_tell_148 rfl ?_
              refine S_iload (pc := 149) 6 rfl dX11_tell_149 ?_
              refine S_call_i (pc := 151) (rest := []) (fun q hq => (x_if hq).elim (fun z => R_V (av := [.int q14.2.1]) (q := (RX11, TX11, 12)) (M_X11_fine _ a0 q14.2.1 q14.2.2.2 z.2) z.1 rfl wd_249 wd_246 wd_248 wd_44 wd_1 ⟨rfl, hd_X11_fine⟩ ⟨Nat.le_of_ble_eq_true rfl, Nat.le_of_ble_eq_true rfl⟩ rfl (Nat.le_of_ble_eq_true rfl) dX11_tell_151) (fun hq => (by cases hq))) (fun _ h => absurd h List.not_mem_nil) (fun q15 => ?_)
              exact Sim.fin ⟨dX11_tell_154, rfl, rfl⟩ rfl
            · refine S_aload_n (pc := 58) 1 rfl dX11_tell_58 rfl ?_
              refine S_iconst (pc := 59) dX11_tell_59 ic_2 ?_
              refine S_call_i (pc := 60) (rest := []) (fun q hq => (x_if hq).elim (fun z => R_V (av := [.int (2 : Int32)]) (q := (RX11, TX11, 12)) (M_X11_found _ a0 (2 : Int32) q2.2 z.2) z.1 rfl wd_237 wd_234 wd_236 wd_44 wd_0 ⟨rfl, hd_X11_found⟩ ⟨Nat.le_of_ble_eq_true rfl, Nat.le_of_ble_eq_true rfl⟩ rfl (Nat.le_of_ble_eq_true rfl) dX11_tell_60) (fun hq => (by cases hq))) (fun _ h => absurd h List.not_mem_nil) (fun q16 => ?_)
              exact Sim.fin ⟨dX11_tell_63, rfl, rfl⟩ rfl
        · refine S_aload_n (pc := 37) 1 rfl dX11_tell_37 rfl ?_
          refine S_iconst (pc := 38) dX11_tell_38 ic_1 ?_
          refine S_call_i (pc := 39) (rest := []) (fun q hq => (x_if hq).elim (fun z => R_V (av := [.int (1 : Int32)]) (q := (RX11, TX11, 12)) (M_X11_found _ a0 (1 : Int32) q2.2 z.2) z.1 rfl wd_237 wd_234 wd_236 wd_44 wd_0 ⟨rfl, hd_X11_found⟩ ⟨Nat.le_of_ble_eq_true rfl, Nat.le_of_ble_eq_true rfl⟩ rfl (Nat.le_of_ble_eq_true rfl) dX11_tell_39) (fun hq => (by cases hq))) (fun _ h => absurd h List.not_mem_nil) (fun q17 => ?_)
          exact Sim.fin ⟨dX11_tell_42, rfl, rfl⟩ rfl
theorem M_X11_tell (l : Launch) (a0 : Nat) (a1 : Int32) (a2 : Int32) (a3 : Int32) (a4 : Int32) (h : xH) {q : Int32 × xH} (hq : f_X11_tell a0 a1 a2 a3 a4 h = some q) : xM l yX11_tell cX11_tell 10 (some .int) 1 [.ref a0, .int a1, .int a2, .int a3, .int a4] h (some (.int q.1)) q.2 := xM_i (by decide +kernel) (Nat.le_of_ble_eq_true rfl) (fun K L => W_X11_tell K L a0 a1 a2 a3 a4 h) hq
theorem dX11_trace_0 : decode cX11_trace 0 = .ok (.iload_n 1, 1) := by decide +kernel
theorem dX11_trace_1 : decode cX11_trace 1 = .ok (.ifCond .lt 14, 3) := by decide +kernel
theorem dX11_trace_4 : decode cX11_trace 4 = .ok (.iload_n 1, 1) := by decide +kernel
theorem dX11_trace_5 : decode cX11_trace 5 = .ok (.aload_n 0, 1) := by decide +kernel
theorem dX11_trace_6 : decode cX11_trace 6 = .ok (.getfield 56, 3) := by decide +kernel
theorem dX11_trace_9 : decode cX11_trace 9 = .ok (.getfield 263, 3) := by decide +kernel
theorem dX11_trace_12 : decode cX11_trace 12 = .ok (.if_icmp .lt 8, 3) := by decide +kernel
theorem dX11_trace_15 : decode cX11_trace 15 = .ok (.ldc 227, 2) := by decide +kernel
theorem dX11_trace_17 : decode cX11_trace 17 = .ok (.goto 12, 3) := by decide +kernel
theorem dX11_trace_20 : decode cX11_trace 20 = .ok (.aload_n 0, 1) := by decide +kernel
theorem dX11_trace_21 : decode cX11_trace 21 = .ok (.getfield 56, 3) := by decide +kernel
theorem dX11_trace_24 : decode cX11_trace 24 = .ok (.getfield 271, 3) := by decide +kernel
theorem dX11_trace_27 : decode cX11_trace 27 = .ok (.iload_n 1, 1) := by decide +kernel
theorem dX11_trace_28 : decode cX11_trace 28 = .ok (.iaload, 1) := by decide +kernel
theorem dX11_trace_29 : decode cX11_trace 29 = .ok (.ireturn, 1) := by decide +kernel
set_option maxRecDepth 20000 in
set_option maxHeartbeats 4000000 in
theorem W_X11_trace (K : xK) (L : xL) (a0 : Nat) (a1 : Int32) (h : xH) : Sim K L cX11_trace RX11 "trace" 2 0 (fun q : Int32 × xH => q.2) (xRi cX11_trace) 0 [(0, .ref a0), (1, .int a1)] [] h (f_X11_trace a0 a1 h) := by
  unfold f_X11_trace
  refine S_iload_n (pc := 0) 1 rfl dX11_trace_0 rfl ?_
  refine S_if_lt (pc := 1) (tgt := 15) dX11_trace_1 (by decide) ?_ ?_
  · refine S_ldc (pc := 15) wd_625 dX11_trace_15 ?_
    refine S_goto (pc := 17) (tgt := 29) dX11_trace_17 (by decide) ?_
    exact Sim.fin ⟨dX11_trace_29, rfl, rfl⟩ rfl
  · refine S_iload_n (pc := 4) 1 rfl dX11_trace_4 rfl ?_
    refine S_aload_n (pc := 5) 0 rfl dX11_trace_5 rfl ?_
    refine S_getR (pc := 6) fd_X11_asked wd_197 dX11_trace_6 (fun v1 => ?_)
    refine S_getI (pc := 9) fd_X9_held wd_161 dX11_trace_9 (fun v2 => ?_)
    refine S_icmp_lt (pc := 12) (tgt := 20) dX11_trace_12 (by decide) ?_ ?_
    · refine S_aload_n (pc := 20) 0 rfl dX11_trace_20 rfl ?_
      refine S_getR (pc := 21) fd_X11_asked wd_197 dX11_trace_21 (fun v3 => ?_)
      refine S_getR (pc := 24) fd_X9_numbers wd_159 dX11_trace_24 (fun v4 => ?_)
      refine S_iload_n (pc := 27) 1 rfl dX11_trace_27 rfl ?_
      refine S_aI (pc := 28) dX11_trace_28 (fun v5 => ?_)
      exact Sim.fin ⟨dX11_trace_29, rfl, rfl⟩ rfl
    · refine S_ldc (pc := 15) wd_625 dX11_trace_15 ?_
      refine S_goto (pc := 17) (tgt := 29) dX11_trace_17 (by decide) ?_
      exact Sim.fin ⟨dX11_trace_29, rfl, rfl⟩ rfl
theorem M_X11_trace (l : Launch) (a0 : Nat) (a1 : Int32) (h : xH) {q : Int32 × xH} (hq : f_X11_trace a0 a1 h = some q) : xM l yX11_trace cX11_trace 2 (some .int) 0 [.ref a0, .int a1] h (some (.int q.1)) q.2 := xM_i (by decide +kernel) (Nat.le_of_ble_eq_true rfl) (fun K L => W_X11_trace K L a0 a1 h) hq
theorem dX1_invert_0 : decode cX1_invert 0 = .ok (.iconst 0, 1) := by decide +kernel
theorem dX1_invert_1 : decode cX1_invert 1 = .ok (.istore_n 1, 1) := by decide +kernel
theorem dX1_invert_2 : decode cX1_invert 2 = .ok (.iload_n 1, 1) := by decide +kernel
theorem dX1_invert_3 : decode cX1_invert 3 = .ok (.bipush 32, 2) := by decide +kernel
theorem dX1_invert_5 : decode cX1_invert 5 = .ok (.if_icmp .ge 36, 3) := by decide +kernel
theorem dX1_invert_8 : decode cX1_invert 8 = .ok (.aload_n 0, 1) := by decide +kernel
theorem dX1_invert_9 : decode cX1_invert 9 = .ok (.getfield 9, 3) := by decide +kernel
theorem dX1_invert_12 : decode cX1_invert 12 = .ok (.iload_n 1, 1) := by decide +kernel
theorem dX1_invert_13 : decode cX1_invert 13 = .ok (.aload_n 0, 1) := by decide +kernel
theorem dX1_invert_14 : decode cX1_invert 14 = .ok (.getfield 9, 3) := by decide +kernel
theorem dX1_invert_17 : decode cX1_invert 17 = .ok (.iload_n 1, 1) := by decide +kernel
theorem dX1_invert_18 : decode cX1_invert 18 = .ok (.iaload, 1) := by decide +kernel
theorem dX1_invert_19 : decode cX1_invert 19 = .ok (.iconst (-1), 1) := by decide +kernel
theorem dX1_invert_20 : decode cX1_invert 20 = .ok (.ixor, 1) := by decide +kernel
theorem dX1_invert_21 : decode cX1_invert 21 = .ok (.aload_n 0, 1) := by decide +kernel
theorem dX1_invert_22 : decode cX1_invert 22 = .ok (.getfield 15, 3) := by decide +kernel
theorem dX1_invert_25 : decode cX1_invert 25 = .ok (.bipush 15, 2) := by decide +kernel
theorem dX1_invert_27 : decode cX1_invert 27 = .ok (.iload_n 1, 1) := by decide +kernel
theorem dX1_invert_28 : decode cX1_invert 28 = .ok (.imul, 1) := by decide +kernel
theorem dX1_invert_29 : decode cX1_invert 29 = .ok (.isub, 1) := by decide +kernel
theorem dX1_invert_30 : decode cX1_invert 30 = .ok (.invokestatic 40, 3) := by decide +kernel
theorem dX1_invert_33 : decode cX1_invert 33 = .ok (.iand, 1) := by decide +kernel
theorem dX1_invert_34 : decode cX1_invert 34 = .ok (.iastore, 1) := by decide +kernel
theorem dX1_invert_35 : decode cX1_invert 35 = .ok (.iinc 1 1, 3) := by decide +kernel
theorem dX1_invert_38 : decode cX1_invert 38 = .ok (.goto (-36), 3) := by decide +kernel
theorem dX1_invert_41 : decode cX1_invert 41 = .ok (.return_, 1) := by decide +kernel
set_option maxRecDepth 20000 in
set_option maxHeartbeats 4000000 in
theorem L_X1_invert_2 (K : xK) (L : xL) : ∀ (n : Nat) (a0 : Nat) (a1 : Int32) (h : xH), Sim K L cX1_invert RX1 "invert" 2 2 (fun q : Int32 × xH => q.2) (fun q pc' ls' st' h' => pc' = 41 ∧ ls' = [(0, .ref a0), (1, .int q.1)] ∧ st' = [] ∧ h' = q.2) 2 [(0, .ref a0), (1, .int a1)] [] h (f_X1_invert_L2 n a0 a1 h) := by
  intro n
  induction n with
  | zero =>
    intro a0 a1 h
    exact Sim.none
  | succ n ih =>
    intro a0 a1 h
    unfold f_X1_invert_L2
    refine S_iload_n (pc := 2) 1 rfl dX1_invert_2 rfl ?_
    refine S_bipush (pc := 3) dX1_invert_3 bi_32 ?_
    refine S_icmp_ge (pc := 5) (tgt := 41) dX1_invert_5 (by decide) ?_ ?_
    · refine S_sub [0, 1] rfl ?_
      exact Sim.fin ⟨rfl, rfl, rfl, rfl⟩ rfl
    · refine S_aload_n (pc := 8) 0 rfl dX1_invert_8 rfl ?_
      refine S_getR (pc := 9) fd_X1_masks wd_78 dX1_invert_9 (fun v1 => ?_)
      refine S_iload_n (pc := 12) 1 rfl dX1_invert_12 rfl ?_
      refine S_aload_n (pc := 13) 0 rfl dX1_invert_13 rfl ?_
      refine S_getR (pc := 14) fd_X1_masks wd_78 dX1_invert_14 (fun v2 => ?_)
      refine S_iload_n (pc := 17) 1 rfl dX1_invert_17 rfl ?_
      refine S_aI (pc := 18) dX1_invert_18 (fun v3 => ?_)
      refine S_iconst (pc := 19) dX1_invert_19 ic_m1 ?_
      refine S_ixor (pc := 20) dX1_invert_20 ?_
      refine S_aload_n (pc := 21) 0 rfl dX1_invert_21 rfl ?_
      refine S_getI (pc := 22) fd_X1_length wd_80 dX1_invert_22 (fun v4 => ?_)
      refine S_bipush (pc := 25) dX1_invert_25 bi_15 ?_
      refine S_iload_n (pc := 27) 1 rfl dX1_invert_27 rfl ?_
      refine S_imul (pc := 28) dX1_invert_28 ?_
      refine S_isub (pc := 29) dX1_invert_29 ?_
      refine S_call_i (pc := 30) (rest := [.int (v3 ^^^ (-1 : Int32)), .int a1, .ref v1]) (fun q hq => R_SN (av := [.int (v4 - ((15 : Int32) * a1))]) (host := RX11) (M_X11_firstPlaces _ (v4 - ((15 : Int32) * a1)) h hq) wd_471 (by decide +kernel) wd_470 wd_44 hd_X11_firstPlaces ⟨Nat.le_of_ble_eq_true rfl, Nat.le_of_ble_eq_true rfl⟩ rfl (Nat.le_of_ble_eq_true rfl) dX1_invert_30) (fun _ h => List.mem_cons_of_mem _ (h)) (fun q5 => ?_)
      refine S_iand (pc := 33) dX1_invert_33 ?_
      refine S_uI (pc := 34) dX1_invert_34 (fun h6 => ?_)
      refine S_iinc (pc := 35) (v := a1 + (1 : Int32)) 1 rfl dX1_invert_35 (x_inc ic_1) (Nat.le_of_ble_eq_true rfl) rfl ?_
      refine S_goto (pc := 38) (tgt := 2) dX1_invert_38 (by decide) ?_
      refine S_sub [1, 0] rfl ?_
      exact ih a0 (a1 + (1 : Int32)) h6
set_option maxRecDepth 20000 in
set_option maxHeartbeats 4000000 in
theorem W_X1_invert (K : xK) (L : xL) (a0 : Nat) (h : xH) : Sim K L cX1_invert RX1 "invert" 2 2 (fun q : xH => q) (xRv cX1_invert) 0 [(0, .ref a0)] [] h (f_X1_invert a0 h) := by
  unfold f_X1_invert
  refine S_iconst (pc := 0) dX1_invert_0 ic_0 ?_
  refine S_istore_n (pc := 1) dX1_invert_1 rfl (Nat.le_of_ble_eq_true rfl) rfl ?_
  refine S_sub [1, 0] rfl ?_
  refine Sim.bind (hs := fun q7 : Int32 × xH => q7.2) (px := 41) (lsx := fun q7 => [(0, .ref a0), (1, .int q7.1)]) (L_X1_invert_2 K L xN a0 (0 : Int32) h) (fun q7 => ?_)
  exact Sim.fin ⟨dX1_invert_41, rfl, rfl⟩ rfl
theorem M_X1_invert (l : Launch) (a0 : Nat) (h : xH) {q : xH} (hq : f_X1_invert a0 h = some q) : xM l yX1_invert cX1_invert 2 none 2 [.ref a0] h none q := xM_v (by decide +kernel) (Nat.le_of_ble_eq_true rfl) (fun K L => W_X1_invert K L a0 h) hq
theorem dX11_turn_0 : decode cX11_turn 0 = .ok (.iload_n 1, 1) := by decide +kernel
theorem dX11_turn_1 : decode cX11_turn 1 = .ok (.invokestatic 113, 3) := by decide +kernel
theorem dX11_turn_4 : decode cX11_turn 4 = .ok (.ifCond .ne 6, 3) := by decide +kernel
theorem dX11_turn_7 : decode cX11_turn 7 = .ok (.ldc 65, 2) := by decide +kernel
theorem dX11_turn_9 : decode cX11_turn 9 = .ok (.ireturn, 1) := by decide +kernel
theorem dX11_turn_10 : decode cX11_turn 10 = .ok (.aload_n 0, 1) := by decide +kernel
theorem dX11_turn_11 : decode cX11_turn 11 = .ok (.iload_n 1, 1) := by decide +kernel
theorem dX11_turn_12 : decode cX11_turn 12 = .ok (.invokevirtual 133, 3) := by decide +kernel
theorem dX11_turn_15 : decode cX11_turn 15 = .ok (.astore_n 2, 1) := by decide +kernel
theorem dX11_turn_16 : decode cX11_turn 16 = .ok (.aload_n 2, 1) := by decide +kernel
theorem dX11_turn_17 : decode cX11_turn 17 = .ok (.invokevirtual 170, 3) := by decide +kernel
theorem dX11_turn_20 : decode cX11_turn 20 = .ok (.aload_n 2, 1) := by decide +kernel
theorem dX11_turn_21 : decode cX11_turn 21 = .ok (.invokevirtual 167, 3) := by decide +kernel
theorem dX11_turn_24 : decode cX11_turn 24 = .ok (.ireturn, 1) := by decide +kernel
set_option maxRecDepth 20000 in
set_option maxHeartbeats 4000000 in
theorem W_X11_turn (K : xK) (L : xL) (a0 : Nat) (a1 : Int32) (h : xH) : Sim K L cX11_turn RX11 "turn" 3 4 (fun q : Int32 × xH => q.2) (xRi cX11_turn) 0 [(0, .ref a0), (1, .int a1)] [] h (f_X11_turn a0 a1 h) := by
  unfold f_X11_turn
  refine S_iload_n (pc := 0) 1 rfl dX11_turn_0 rfl ?_
  refine S_call_i (pc := 1) (rest := []) (fun q hq => R_S (av := [.int a1]) (M_X11_isVector _ a1 h hq) wd_293 wd_291 wd_292 wd_44 hd_X11_isVector ⟨Nat.le_of_ble_eq_true rfl, Nat.le_of_ble_eq_true rfl⟩ rfl (Nat.le_of_ble_eq_true rfl) dX11_turn_1) (fun _ h => absurd h List.not_mem_nil) (fun q1 => ?_)
  refine S_if_ne (pc := 4) (tgt := 10) dX11_turn_4 (by decide) ?_ ?_
  · refine S_ldc (pc := 7) wd_233 dX11_turn_7 ?_
    exact Sim.fin ⟨dX11_turn_9, rfl, rfl⟩ rfl
  · refine S_aload_n (pc := 10) 0 rfl dX11_turn_10 rfl ?_
    refine S_iload_n (pc := 11) 1 rfl dX11_turn_11 rfl ?_
    refine S_call_r (pc := 12) (rest := []) (fun q hq => (x_if hq).elim (fun z => R_V (av := [.int a1]) (q := (RX11, TX11, 12)) (M_X11_vectorToChange _ a0 a1 q1.2 z.2) z.1 rfl wd_394 wd_391 wd_393 wd_44 wd_8 ⟨rfl, hd_X11_vectorToChange⟩ ⟨Nat.le_of_ble_eq_true rfl, Nat.le_of_ble_eq_true rfl⟩ rfl (Nat.le_of_ble_eq_true rfl) dX11_turn_12) (fun hq => (by cases hq))) (fun _ h => absurd h List.not_mem_nil) (fun q2 => ?_)
    refine S_astore_n (pc := 15) dX11_turn_15 rfl (Nat.le_of_ble_eq_true rfl) rfl ?_
    refine S_aload_n (pc := 16) 0 rfl dX11_turn_16 rfl ?_
    refine S_call_v (pc := 17) (rest := []) (fun q hq => (x_if hq).elim (fun z => R_V (av := []) (q := (RX1, TX1, 2)) (M_X1_invert _ q2.1 q2.2 z.2) z.1 rfl wd_511 wd_508 wd_509 wd_45 wd_510 ⟨rfl, hd_X1_invert⟩ ⟨Nat.le_of_ble_eq_true rfl, Nat.le_of_ble_eq_true rfl⟩ rfl (Nat.le_of_ble_eq_true rfl) dX11_turn_17) (fun hq => (by cases hq))) (fun _ h => absurd h List.not_mem_nil) (fun q3 => ?_)
    refine S_aload_n (pc := 20) 0 rfl dX11_turn_20 rfl ?_
    refine S_call_i (pc := 21) (rest := []) (fun q hq => (x_if hq).elim (fun z => R_V (av := []) (q := (RX1, TX1, 2)) (M_X1_countOnes _ q2.1 q3 z.2) z.1 rfl wd_493 wd_490 wd_491 wd_45 wd_492 ⟨rfl, hd_X1_countOnes⟩ ⟨Nat.le_of_ble_eq_true rfl, Nat.le_of_ble_eq_true rfl⟩ rfl (Nat.le_of_ble_eq_true rfl) dX11_turn_21) (fun hq => (by cases hq))) (fun _ h => absurd h List.not_mem_nil) (fun q4 => ?_)
    exact Sim.fin ⟨dX11_turn_24, rfl, rfl⟩ rfl
theorem M_X11_turn (l : Launch) (a0 : Nat) (a1 : Int32) (h : xH) {q : Int32 × xH} (hq : f_X11_turn a0 a1 h = some q) : xM l yX11_turn cX11_turn 3 (some .int) 4 [.ref a0, .int a1] h (some (.int q.1)) q.2 := xM_i (by decide +kernel) (Nat.le_of_ble_eq_true rfl) (fun K L => W_X11_turn K L a0 a1 h) hq
theorem dX3_giveBack_0 : decode cX3_giveBack 0 = .ok (.aload_n 0, 1) := by decide +kernel
theorem dX3_giveBack_1 : decode cX3_giveBack 1 = .ok (.getfield 26, 3) := by decide +kernel
theorem dX3_giveBack_4 : decode cX3_giveBack 4 = .ok (.ifCond .le 43, 3) := by decide +kernel
theorem dX3_giveBack_7 : decode cX3_giveBack 7 = .ok (.aload_n 0, 1) := by decide +kernel
theorem dX3_giveBack_8 : decode cX3_giveBack 8 = .ok (.dup, 1) := by decide +kernel
theorem dX3_giveBack_9 : decode cX3_giveBack 9 = .ok (.getfield 26, 3) := by decide +kernel
theorem dX3_giveBack_12 : decode cX3_giveBack 12 = .ok (.iconst 1, 1) := by decide +kernel
theorem dX3_giveBack_13 : decode cX3_giveBack 13 = .ok (.isub, 1) := by decide +kernel
theorem dX3_giveBack_14 : decode cX3_giveBack 14 = .ok (.putfield 26, 3) := by decide +kernel
theorem dX3_giveBack_17 : decode cX3_giveBack 17 = .ok (.aload_n 0, 1) := by decide +kernel
theorem dX3_giveBack_18 : decode cX3_giveBack 18 = .ok (.getfield 22, 3) := by decide +kernel
theorem dX3_giveBack_21 : decode cX3_giveBack 21 = .ok (.aload_n 0, 1) := by decide +kernel
theorem dX3_giveBack_22 : decode cX3_giveBack 22 = .ok (.getfield 26, 3) := by decide +kernel
theorem dX3_giveBack_25 : decode cX3_giveBack 25 = .ok (.iadd, 1) := by decide +kernel
theorem dX3_giveBack_26 : decode cX3_giveBack 26 = .ok (.bipush 12, 2) := by decide +kernel
theorem dX3_giveBack_28 : decode cX3_giveBack 28 = .ok (.irem, 1) := by decide +kernel
theorem dX3_giveBack_29 : decode cX3_giveBack 29 = .ok (.istore_n 2, 1) := by decide +kernel
theorem dX3_giveBack_30 : decode cX3_giveBack 30 = .ok (.aload_n 1, 1) := by decide +kernel
theorem dX3_giveBack_31 : decode cX3_giveBack 31 = .ok (.aload_n 0, 1) := by decide +kernel
theorem dX3_giveBack_32 : decode cX3_giveBack 32 = .ok (.getfield 17, 3) := by decide +kernel
theorem dX3_giveBack_35 : decode cX3_giveBack 35 = .ok (.iload_n 2, 1) := by decide +kernel
theorem dX3_giveBack_36 : decode cX3_giveBack 36 = .ok (.iaload, 1) := by decide +kernel
theorem dX3_giveBack_37 : decode cX3_giveBack 37 = .ok (.aaload, 1) := by decide +kernel
theorem dX3_giveBack_38 : decode cX3_giveBack 38 = .ok (.aload_n 0, 1) := by decide +kernel
theorem dX3_giveBack_39 : decode cX3_giveBack 39 = .ok (.getfield 11, 3) := by decide +kernel
theorem dX3_giveBack_42 : decode cX3_giveBack 42 = .ok (.iload_n 2, 1) := by decide +kernel
theorem dX3_giveBack_43 : decode cX3_giveBack 43 = .ok (.aaload, 1) := by decide +kernel
theorem dX3_giveBack_44 : decode cX3_giveBack 44 = .ok (.invokevirtual 29, 3) := by decide +kernel
theorem dX3_giveBack_47 : decode cX3_giveBack 47 = .ok (.return_, 1) := by decide +kernel
set_option maxRecDepth 20000 in
set_option maxHeartbeats 4000000 in
theorem W_X3_giveBack (K : xK) (L : xL) (a0 : Nat) (a1 : Nat) (h : xH) : Sim K L cX3_giveBack RX3 "giveBack" 3 2 (fun q : xH => q) (xRv cX3_giveBack) 0 [(0, .ref a0), (1, .ref a1)] [] h (f_X3_giveBack a0 a1 h) := by
  unfold f_X3_giveBack
  refine S_aload_n (pc := 0) 0 rfl dX3_giveBack_0 rfl ?_
  refine S_getI (pc := 1) fd_X3_held wd_100 dX3_giveBack_1 (fun v1 => ?_)
  refine S_if_le (pc := 4) (tgt := 47) dX3_giveBack_4 (by decide) ?_ ?_
  · exact Sim.fin ⟨dX3_giveBack_47, rfl, rfl⟩ rfl
  · refine S_aload_n (pc := 7) 0 rfl dX3_giveBack_7 rfl ?_
    refine S_dup (pc := 8) rfl dX3_giveBack_8 ?_
    refine S_getI (pc := 9) fd_X3_held wd_100 dX3_giveBack_9 (fun v2 => ?_)
    refine S_iconst (pc := 12) dX3_giveBack_12 ic_1 ?_
    refine S_isub (pc := 13) dX3_giveBack_13 ?_
    refine S_putI (pc := 14) fd_X3_held wd_100 rfl rfl dX3_giveBack_14 (fun h3 => ?_)
    refine S_aload_n (pc := 17) 0 rfl dX3_giveBack_17 rfl ?_
    refine S_getI (pc := 18) fd_X3_oldest wd_99 dX3_giveBack_18 (fun v4 => ?_)
    refine S_aload_n (pc := 21) 0 rfl dX3_giveBack_21 rfl ?_
    refine S_getI (pc := 22) fd_X3_held wd_100 dX3_giveBack_22 (fun v5 => ?_)
    refine S_iadd (pc := 25) dX3_giveBack_25 ?_
    refine S_bipush (pc := 26) dX3_giveBack_26 bi_12 ?_
    refine S_irem (pc := 28) (by decide) dX3_giveBack_28 ?_
    refine S_istore_n (pc := 29) dX3_giveBack_29 rfl (Nat.le_of_ble_eq_true rfl) rfl ?_
    refine S_aload_n (pc := 30) 2 rfl dX3_giveBack_30 rfl ?_
    refine S_aload_n (pc := 31) 1 rfl dX3_giveBack_31 rfl ?_
    refine S_getR (pc := 32) fd_X3_changed wd_98 dX3_giveBack_32 (fun v6 => ?_)
    refine S_iload_n (pc := 35) 0 rfl dX3_giveBack_35 rfl ?_
    refine S_aI (pc := 36) dX3_giveBack_36 (fun v7 => ?_)
    refine S_aR (pc := 37) (fun _ => rfl) dX3_giveBack_37 (fun v8 => ?_)
    refine S_aload_n (pc := 38) 1 rfl dX3_giveBack_38 rfl ?_
    refine S_getR (pc := 39) fd_X3_before wd_97 dX3_giveBack_39 (fun v9 => ?_)
    refine S_iload_n (pc := 42) 0 rfl dX3_giveBack_42 rfl ?_
    refine S_aR (pc := 43) (fun _ => rfl) dX3_giveBack_43 (fun v10 => ?_)
    refine S_call_v (pc := 44) (rest := []) (fun q hq => (x_if hq).elim (fun z => R_V (av := [.ref v10]) (q := (RX1, TX1, 2)) (M_X1_copyFrom _ v8 v10 h3 z.2) z.1 rfl wd_402 wd_399 wd_400 wd_45 wd_401 ⟨rfl, hd_X1_copyFrom⟩ ⟨Nat.le_of_ble_eq_true rfl, Nat.le_of_ble_eq_true rfl⟩ rfl (Nat.le_of_ble_eq_true rfl) dX3_giveBack_44) (fun hq => (by cases hq))) (fun _ h => absurd h List.not_mem_nil) (fun q11 => ?_)
    exact Sim.fin ⟨dX3_giveBack_47, rfl, rfl⟩ rfl
theorem M_X3_giveBack (l : Launch) (a0 : Nat) (a1 : Nat) (h : xH) {q : xH} (hq : f_X3_giveBack a0 a1 h = some q) : xM l yX3_giveBack cX3_giveBack 3 none 2 [.ref a0, .ref a1] h none q := xM_v (by decide +kernel) (Nat.le_of_ble_eq_true rfl) (fun K L => W_X3_giveBack K L a0 a1 h) hq
theorem dX11_undo_0 : decode cX11_undo 0 = .ok (.aload_n 0, 1) := by decide +kernel
theorem dX11_undo_1 : decode cX11_undo 1 = .ok (.getfield 36, 3) := by decide +kernel
theorem dX11_undo_4 : decode cX11_undo 4 = .ok (.getfield 176, 3) := by decide +kernel
theorem dX11_undo_7 : decode cX11_undo 7 = .ok (.ifCond .ne 6, 3) := by decide +kernel
theorem dX11_undo_10 : decode cX11_undo 10 = .ok (.ldc 179, 2) := by decide +kernel
theorem dX11_undo_12 : decode cX11_undo 12 = .ok (.ireturn, 1) := by decide +kernel
theorem dX11_undo_13 : decode cX11_undo 13 = .ok (.aload_n 0, 1) := by decide +kernel
theorem dX11_undo_14 : decode cX11_undo 14 = .ok (.getfield 36, 3) := by decide +kernel
theorem dX11_undo_17 : decode cX11_undo 17 = .ok (.aload_n 0, 1) := by decide +kernel
theorem dX11_undo_18 : decode cX11_undo 18 = .ok (.getfield 17, 3) := by decide +kernel
theorem dX11_undo_21 : decode cX11_undo 21 = .ok (.invokevirtual 180, 3) := by decide +kernel
theorem dX11_undo_24 : decode cX11_undo 24 = .ok (.aload_n 0, 1) := by decide +kernel
theorem dX11_undo_25 : decode cX11_undo 25 = .ok (.getfield 36, 3) := by decide +kernel
theorem dX11_undo_28 : decode cX11_undo 28 = .ok (.getfield 176, 3) := by decide +kernel
theorem dX11_undo_31 : decode cX11_undo 31 = .ok (.ireturn, 1) := by decide +kernel
set_option maxRecDepth 20000 in
set_option maxHeartbeats 4000000 in
theorem W_X11_undo (K : xK) (L : xL) (a0 : Nat) (h : xH) : Sim K L cX11_undo RX11 "undo" 1 3 (fun q : Int32 × xH => q.2) (xRi cX11_undo) 0 [(0, .ref a0)] [] h (f_X11_undo a0 h) := by
  unfold f_X11_undo
  refine S_aload_n (pc := 0) 0 rfl dX11_undo_0 rfl ?_
  refine S_getR (pc := 1) fd_X11_history wd_194 dX11_undo_1 (fun v1 => ?_)
  refine S_getI (pc := 4) fd_X3_held wd_101 dX11_undo_4 (fun v2 => ?_)
  refine S_if_ne (pc := 7) (tgt := 13) dX11_undo_7 (by decide) ?_ ?_
  · refine S_ldc (pc := 10) wd_524 dX11_undo_10 ?_
    exact Sim.fin ⟨dX11_undo_12, rfl, rfl⟩ rfl
  · refine S_aload_n (pc := 13) 0 rfl dX11_undo_13 rfl ?_
    refine S_getR (pc := 14) fd_X11_history wd_194 dX11_undo_14 (fun v3 => ?_)
    refine S_aload_n (pc := 17) 0 rfl dX11_undo_17 rfl ?_
    refine S_getR (pc := 18) fd_X11_vectors wd_190 dX11_undo_18 (fun v4 => ?_)
    refine S_call_v (pc := 21) (rest := []) (fun q hq => (x_if hq).elim (fun z => R_V (av := [.ref v4]) (q := (RX3, TX3, 4)) (M_X3_giveBack _ v3 v4 h z.2) z.1 rfl wd_528 wd_525 wd_526 wd_46 wd_527 ⟨rfl, hd_X3_giveBack⟩ ⟨Nat.le_of_ble_eq_true rfl, Nat.le_of_ble_eq_true rfl⟩ rfl (Nat.le_of_ble_eq_true rfl) dX11_undo_21) (fun hq => (by cases hq))) (fun _ h => absurd h List.not_mem_nil) (fun q5 => ?_)
    refine S_aload_n (pc := 24) 0 rfl dX11_undo_24 rfl ?_
    refine S_getR (pc := 25) fd_X11_history wd_194 dX11_undo_25 (fun v6 => ?_)
    refine S_getI (pc := 28) fd_X3_held wd_101 dX11_undo_28 (fun v7 => ?_)
    exact Sim.fin ⟨dX11_undo_31, rfl, rfl⟩ rfl
theorem M_X11_undo (l : Launch) (a0 : Nat) (h : xH) {q : Int32 × xH} (hq : f_X11_undo a0 h = some q) : xM l yX11_undo cX11_undo 1 (some .int) 3 [.ref a0] h (some (.int q.1)) q.2 := xM_i (by decide +kernel) (Nat.le_of_ble_eq_true rfl) (fun K L => W_X11_undo K L a0 h) hq
theorem dX11_weight_0 : decode cX11_weight 0 = .ok (.iload_n 1, 1) := by decide +kernel
theorem dX11_weight_1 : decode cX11_weight 1 = .ok (.invokestatic 113, 3) := by decide +kernel
theorem dX11_weight_4 : decode cX11_weight 4 = .ok (.ifCond .ne 6, 3) := by decide +kernel
theorem dX11_weight_7 : decode cX11_weight 7 = .ok (.ldc 65, 2) := by decide +kernel
theorem dX11_weight_9 : decode cX11_weight 9 = .ok (.ireturn, 1) := by decide +kernel
theorem dX11_weight_10 : decode cX11_weight 10 = .ok (.aload_n 0, 1) := by decide +kernel
theorem dX11_weight_11 : decode cX11_weight 11 = .ok (.getfield 17, 3) := by decide +kernel
theorem dX11_weight_14 : decode cX11_weight 14 = .ok (.iload_n 1, 1) := by decide +kernel
theorem dX11_weight_15 : decode cX11_weight 15 = .ok (.aaload, 1) := by decide +kernel
theorem dX11_weight_16 : decode cX11_weight 16 = .ok (.astore_n 3, 1) := by decide +kernel
theorem dX11_weight_17 : decode cX11_weight 17 = .ok (.lconst 0, 1) := by decide +kernel
theorem dX11_weight_18 : decode cX11_weight 18 = .ok (.lstore 4, 2) := by decide +kernel
theorem dX11_weight_20 : decode cX11_weight 20 = .ok (.iconst 0, 1) := by decide +kernel
theorem dX11_weight_21 : decode cX11_weight 21 = .ok (.istore 6, 2) := by decide +kernel
theorem dX11_weight_23 : decode cX11_weight 23 = .ok (.iload 6, 2) := by decide +kernel
theorem dX11_weight_25 : decode cX11_weight 25 = .ok (.aload_n 3, 1) := by decide +kernel
theorem dX11_weight_26 : decode cX11_weight 26 = .ok (.getfield 148, 3) := by decide +kernel
theorem dX11_weight_29 : decode cX11_weight 29 = .ok (.if_icmp .ge 59, 3) := by decide +kernel
theorem dX11_weight_32 : decode cX11_weight 32 = .ok (.aload_n 3, 1) := by decide +kernel
theorem dX11_weight_33 : decode cX11_weight 33 = .ok (.iload 6, 2) := by decide +kernel
theorem dX11_weight_35 : decode cX11_weight 35 = .ok (.invokevirtual 152, 3) := by decide +kernel
theorem dX11_weight_38 : decode cX11_weight 38 = .ok (.iconst 1, 1) := by decide +kernel
theorem dX11_weight_39 : decode cX11_weight 39 = .ok (.if_icmp .ne 43, 3) := by decide +kernel
theorem dX11_weight_42 : decode cX11_weight 42 = .ok (.iload 6, 2) := by decide +kernel
theorem dX11_weight_44 : decode cX11_weight 44 = .ok (.i2l, 1) := by decide +kernel
theorem dX11_weight_45 : decode cX11_weight 45 = .ok (.lconst 1, 1) := by decide +kernel
theorem dX11_weight_46 : decode cX11_weight 46 = .ok (.ladd, 1) := by decide +kernel
theorem dX11_weight_47 : decode cX11_weight 47 = .ok (.iload_n 2, 1) := by decide +kernel
theorem dX11_weight_48 : decode cX11_weight 48 = .ok (.i2l, 1) := by decide +kernel
theorem dX11_weight_49 : decode cX11_weight 49 = .ok (.lmul, 1) := by decide +kernel
theorem dX11_weight_50 : decode cX11_weight 50 = .ok (.lstore 7, 2) := by decide +kernel
theorem dX11_weight_52 : decode cX11_weight 52 = .ok (.lload 4, 2) := by decide +kernel
theorem dX11_weight_54 : decode cX11_weight 54 = .ok (.lload 7, 2) := by decide +kernel
theorem dX11_weight_56 : decode cX11_weight 56 = .ok (.ladd, 1) := by decide +kernel
theorem dX11_weight_57 : decode cX11_weight 57 = .ok (.lstore 4, 2) := by decide +kernel
theorem dX11_weight_59 : decode cX11_weight 59 = .ok (.lload 7, 2) := by decide +kernel
theorem dX11_weight_61 : decode cX11_weight 61 = .ok (.invokestatic 231, 3) := by decide +kernel
theorem dX11_weight_64 : decode cX11_weight 64 = .ok (.ifCond .eq 11, 3) := by decide +kernel
theorem dX11_weight_67 : decode cX11_weight 67 = .ok (.lload 4, 2) := by decide +kernel
theorem dX11_weight_69 : decode cX11_weight 69 = .ok (.invokestatic 231, 3) := by decide +kernel
theorem dX11_weight_72 : decode cX11_weight 72 = .ok (.ifCond .ne 10, 3) := by decide +kernel
theorem dX11_weight_75 : decode cX11_weight 75 = .ok (.aload_n 0, 1) := by decide +kernel
theorem dX11_weight_76 : decode cX11_weight 76 = .ok (.bipush 6, 2) := by decide +kernel
theorem dX11_weight_78 : decode cX11_weight 78 = .ok (.invokevirtual 66, 3) := by decide +kernel
theorem dX11_weight_81 : decode cX11_weight 81 = .ok (.ireturn, 1) := by decide +kernel
theorem dX11_weight_82 : decode cX11_weight 82 = .ok (.iinc 6 1, 3) := by decide +kernel
theorem dX11_weight_85 : decode cX11_weight 85 = .ok (.goto (-62), 3) := by decide +kernel
theorem dX11_weight_88 : decode cX11_weight 88 = .ok (.aload_n 0, 1) := by decide +kernel
theorem dX11_weight_89 : decode cX11_weight 89 = .ok (.lload 4, 2) := by decide +kernel
theorem dX11_weight_91 : decode cX11_weight 91 = .ok (.l2i, 1) := by decide +kernel
theorem dX11_weight_92 : decode cX11_weight 92 = .ok (.invokevirtual 74, 3) := by decide +kernel
theorem dX11_weight_95 : decode cX11_weight 95 = .ok (.ireturn, 1) := by decide +kernel
set_option maxRecDepth 20000 in
set_option maxHeartbeats 4000000 in
theorem L_X11_weight_23 (K : xK) (L : xL) : ∀ (n : Nat) (a0 : Nat) (a2 : Int32) (a3 : Nat) (a4 : Int64) (a6 : Int32) (h : xH), Sim K L cX11_weight RX11 "weight" 9 1 (fun q : Int32 × xH => q.2) (xRi cX11_weight) 23 [(0, .ref a0), (2, .int a2), (3, .ref a3), (4, .long a4), (6, .int a6)] [] h (f_X11_weight_L23 n a0 a2 a3 a4 a6 h) := by
  intro n
  induction n with
  | zero =>
    intro a0 a2 a3 a4 a6 h
    exact Sim.none
  | succ n ih =>
    intro a0 a2 a3 a4 a6 h
    unfold f_X11_weight_L23
    refine S_iload (pc := 23) 4 rfl dX11_weight_23 ?_
    refine S_aload_n (pc := 25) 2 rfl dX11_weight_25 rfl ?_
    refine S_getI (pc := 26) fd_X1_length wd_81 dX11_weight_26 (fun v4 => ?_)
    refine S_icmp_ge (pc := 29) (tgt := 88) dX11_weight_29 (by decide) ?_ ?_
    · refine S_aload_n (pc := 88) 0 rfl dX11_weight_88 rfl ?_
      refine S_lload (pc := 89) 3 rfl dX11_weight_89 ?_
      refine S_l2i (pc := 91) dX11_weight_91 ?_
      refine S_call_i (pc := 92) (rest := []) (fun q hq => (x_if hq).elim (fun z => R_V (av := [.int a4.toInt32]) (q := (RX11, TX11, 12)) (M_X11_fine _ a0 a4.toInt32 h z.2) z.1 rfl wd_249 wd_246 wd_248 wd_44 wd_1 ⟨rfl, hd_X11_fine⟩ ⟨Nat.le_of_ble_eq_true rfl, Nat.le_of_ble_eq_true rfl⟩ rfl (Nat.le_of_ble_eq_true rfl) dX11_weight_92) (fun hq => (by cases hq))) (fun _ h => absurd h List.not_mem_nil) (fun q5 => ?_)
      exact Sim.fin ⟨dX11_weight_95, rfl, rfl⟩ rfl
    · refine S_aload_n (pc := 32) 2 rfl dX11_weight_32 rfl ?_
      refine S_iload (pc := 33) 4 rfl dX11_weight_33 ?_
      refine S_call_i (pc := 35) (rest := []) (fun q hq => (x_if hq).elim (fun z => R_V (av := [.int a6]) (q := (RX1, TX1, 2)) (M_X1_bitAt _ a3 a6 h z.2) z.1 rfl wd_454 wd_451 wd_452 wd_45 wd_453 ⟨rfl, hd_X1_bitAt⟩ ⟨Nat.le_of_ble_eq_true rfl, Nat.le_of_ble_eq_true rfl⟩ rfl (Nat.le_of_ble_eq_true rfl) dX11_weight_35) (fun hq => (by cases hq))) (fun _ h => absurd h List.not_mem_nil) (fun q6 => ?_)
      refine S_iconst (pc := 38) dX11_weight_38 ic_1 ?_
      refine S_icmp_ne (pc := 39) (tgt := 82) dX11_weight_39 (by decide) ?_ ?_
      · refine S_iload (pc := 42) 4 rfl dX11_weight_42 ?_
        refine S_i2l (pc := 44) dX11_weight_44 ?_
        refine S_lconst (pc := 45) dX11_weight_45 lc_1 ?_
        refine S_ladd (pc := 46) dX11_weight_46 ?_
        refine S_iload_n (pc := 47) 1 rfl dX11_weight_47 rfl ?_
        refine S_i2l (pc := 48) dX11_weight_48 ?_
        refine S_lmul (pc := 49) dX11_weight_49 ?_
        refine S_lstore (pc := 50) dX11_weight_50 (Nat.le_of_ble_eq_true rfl) rfl ?_
        refine S_lload (pc := 52) 4 rfl dX11_weight_52 ?_
        refine S_lload (pc := 54) 0 rfl dX11_weight_54 ?_
        refine S_ladd (pc := 56) dX11_weight_56 ?_
        refine S_lstore (pc := 57) dX11_weight_57 (Nat.le_of_ble_eq_true rfl) rfl ?_
        refine S_lload (pc := 59) 1 rfl dX11_weight_59 ?_
        refine S_call_i (pc := 61) (rest := []) (fun q hq => R_S (av := [.long ((a6.toInt64 + (1 : Int64)) * a2.toInt64)]) (M_X11_isInt _ ((a6.toInt64 + (1 : Int64)) * a2.toInt64) q6.2 hq) wd_655 wd_653 wd_654 wd_44 hd_X11_isInt ⟨Nat.le_of_ble_eq_true rfl, Nat.le_of_ble_eq_true rfl⟩ rfl (Nat.le_of_ble_eq_true rfl) dX11_weight_61) (fun _ h => absurd h List.not_mem_nil) (fun q7 => ?_)
        refine S_if_eq (pc := 64) (tgt := 75) dX11_weight_64 (by decide) ?_ ?_
        · refine S_aload_n (pc := 75) 2 rfl dX11_weight_75 rfl ?_
          refine S_bipush (pc := 76) dX11_weight_76 bi_6 ?_
          refine S_call_i (pc := 78) (rest := []) (fun q hq => (x_if hq).elim (fun z => R_V (av := [.int (6 : Int32)]) (q := (RX11, TX11, 12)) (M_X11_found _ a0 (6 : Int32) q7.2 z.2) z.1 rfl wd_237 wd_234 wd_236 wd_44 wd_0 ⟨rfl, hd_X11_found⟩ ⟨Nat.le_of_ble_eq_true rfl, Nat.le_of_ble_eq_true rfl⟩ rfl (Nat.le_of_ble_eq_true rfl) dX11_weight_78) (fun hq => (by cases hq))) (fun _ h => absurd h List.not_mem_nil) (fun q8 => ?_)
          exact Sim.fin ⟨dX11_weight_81, rfl, rfl⟩ rfl
        · refine S_lload (pc := 67) 0 rfl dX11_weight_67 ?_
          refine S_call_i (pc := 69) (rest := []) (fun q hq => R_S (av := [.long (a4 + ((a6.toInt64 + (1 : Int64)) * a2.toInt64))]) (M_X11_isInt _ (a4 + ((a6.toInt64 + (1 : Int64)) * a2.toInt64)) q7.2 hq) wd_655 wd_653 wd_654 wd_44 hd_X11_isInt ⟨Nat.le_of_ble_eq_true rfl, Nat.le_of_ble_eq_true rfl⟩ rfl (Nat.le_of_ble_eq_true rfl) dX11_weight_69) (fun _ h => absurd h List.not_mem_nil) (fun q9 => ?_)
          refine S_if_ne (pc := 72) (tgt := 82) dX11_weight_72 (by decide) ?_ ?_
          · refine S_aload_n (pc := 75) 2 rfl dX11_weight_75 rfl ?_
            refine S_bipush (pc := 76) dX11_weight_76 bi_6 ?_
            refine S_call_i (pc := 78) (rest := []) (fun q hq => (x_if hq).elim (fun z => R_V (av := [.int (6 : Int32)]) (q := (RX11, TX11, 12)) (M_X11_found _ a0 (6 : Int32) q9.2 z.2) z.1 rfl wd_237 wd_234 wd_236 wd_44 wd_0 ⟨rfl, hd_X11_found⟩ ⟨Nat.le_of_ble_eq_true rfl, Nat.le_of_ble_eq_true rfl⟩ rfl (Nat.le_of_ble_eq_true rfl) dX11_weight_78) (fun hq => (by cases hq))) (fun _ h => absurd h List.not_mem_nil) (fun q10 => ?_)
            exact Sim.fin ⟨dX11_weight_81, rfl, rfl⟩ rfl
          · refine S_iinc (pc := 82) (v := a6 + (1 : Int32)) 5 rfl dX11_weight_82 (x_inc ic_1) (Nat.le_of_ble_eq_true rfl) rfl ?_
            refine S_goto (pc := 85) (tgt := 23) dX11_weight_85 (by decide) ?_
            refine S_sub [3, 4, 5, 1, 0] rfl ?_
            exact ih a0 a2 a3 (a4 + ((a6.toInt64 + (1 : Int64)) * a2.toInt64)) (a6 + (1 : Int32)) q9.2
      · refine S_iinc (pc := 82) (v := a6 + (1 : Int32)) 4 rfl dX11_weight_82 (x_inc ic_1) (Nat.le_of_ble_eq_true rfl) rfl ?_
        refine S_goto (pc := 85) (tgt := 23) dX11_weight_85 (by decide) ?_
        refine S_sub [1, 2, 3, 4, 0] rfl ?_
        exact ih a0 a2 a3 a4 (a6 + (1 : Int32)) q6.2
set_option maxRecDepth 20000 in
set_option maxHeartbeats 4000000 in
theorem W_X11_weight (K : xK) (L : xL) (a0 : Nat) (a1 : Int32) (a2 : Int32) (h : xH) : Sim K L cX11_weight RX11 "weight" 9 1 (fun q : Int32 × xH => q.2) (xRi cX11_weight) 0 [(0, .ref a0), (1, .int a1), (2, .int a2)] [] h (f_X11_weight a0 a1 a2 h) := by
  unfold f_X11_weight
  refine S_iload_n (pc := 0) 1 rfl dX11_weight_0 rfl ?_
  refine S_call_i (pc := 1) (rest := []) (fun q hq => R_S (av := [.int a1]) (M_X11_isVector _ a1 h hq) wd_293 wd_291 wd_292 wd_44 hd_X11_isVector ⟨Nat.le_of_ble_eq_true rfl, Nat.le_of_ble_eq_true rfl⟩ rfl (Nat.le_of_ble_eq_true rfl) dX11_weight_1) (fun _ h => absurd h List.not_mem_nil) (fun q1 => ?_)
  refine S_if_ne (pc := 4) (tgt := 10) dX11_weight_4 (by decide) ?_ ?_
  · refine S_ldc (pc := 7) wd_233 dX11_weight_7 ?_
    exact Sim.fin ⟨dX11_weight_9, rfl, rfl⟩ rfl
  · refine S_aload_n (pc := 10) 0 rfl dX11_weight_10 rfl ?_
    refine S_getR (pc := 11) fd_X11_vectors wd_190 dX11_weight_11 (fun v2 => ?_)
    refine S_iload_n (pc := 14) 1 rfl dX11_weight_14 rfl ?_
    refine S_aR (pc := 15) (fun _ => rfl) dX11_weight_15 (fun v3 => ?_)
    refine S_astore_n (pc := 16) dX11_weight_16 rfl (Nat.le_of_ble_eq_true rfl) rfl ?_
    refine S_lconst (pc := 17) dX11_weight_17 lc_0 ?_
    refine S_lstore (pc := 18) dX11_weight_18 (Nat.le_of_ble_eq_true rfl) rfl ?_
    refine S_iconst (pc := 20) dX11_weight_20 ic_0 ?_
    refine S_istore (pc := 21) dX11_weight_21 (Nat.le_of_ble_eq_true rfl) rfl ?_
    refine S_sub [3, 5, 2, 1, 0] rfl ?_
    exact L_X11_weight_23 K L xN a0 a2 v3 (0 : Int64) (0 : Int32) q1.2
theorem M_X11_weight (l : Launch) (a0 : Nat) (a1 : Int32) (a2 : Int32) (h : xH) {q : Int32 × xH} (hq : f_X11_weight a0 a1 a2 h = some q) : xM l yX11_weight cX11_weight 9 (some .int) 1 [.ref a0, .int a1, .int a2] h (some (.int q.1)) q.2 := xM_i (by decide +kernel) (Nat.le_of_ble_eq_true rfl) (fun K L => W_X11_weight K L a0 a1 a2 h) hq
theorem dX12_init_0 : decode cX12_init 0 = .ok (.aload_n 0, 1) := by decide +kernel
theorem dX12_init_1 : decode cX12_init 1 = .ok (.invokespecial 1, 3) := by decide +kernel
theorem dX12_init_4 : decode cX12_init 4 = .ok (.aload_n 0, 1) := by decide +kernel
theorem dX12_init_5 : decode cX12_init 5 = .ok (.bipush 8, 2) := by decide +kernel
theorem dX12_init_7 : decode cX12_init 7 = .ok (.newarray .int, 2) := by decide +kernel
theorem dX12_init_9 : decode cX12_init 9 = .ok (.putfield 7, 3) := by decide +kernel
theorem dX12_init_12 : decode cX12_init 12 = .ok (.aload_n 0, 1) := by decide +kernel
theorem dX12_init_13 : decode cX12_init 13 = .ok (.bipush 8, 2) := by decide +kernel
theorem dX12_init_15 : decode cX12_init 15 = .ok (.newarray .int, 2) := by decide +kernel
theorem dX12_init_17 : decode cX12_init 17 = .ok (.putfield 13, 3) := by decide +kernel
theorem dX12_init_20 : decode cX12_init 20 = .ok (.aload_n 0, 1) := by decide +kernel
theorem dX12_init_21 : decode cX12_init 21 = .ok (.sipush 320, 3) := by decide +kernel
theorem dX12_init_24 : decode cX12_init 24 = .ok (.newarray .int, 2) := by decide +kernel
theorem dX12_init_26 : decode cX12_init 26 = .ok (.putfield 16, 3) := by decide +kernel
theorem dX12_init_29 : decode cX12_init 29 = .ok (.aload_n 0, 1) := by decide +kernel
theorem dX12_init_30 : decode cX12_init 30 = .ok (.bipush 40, 2) := by decide +kernel
theorem dX12_init_32 : decode cX12_init 32 = .ok (.newarray .int, 2) := by decide +kernel
theorem dX12_init_34 : decode cX12_init 34 = .ok (.putfield 19, 3) := by decide +kernel
theorem dX12_init_37 : decode cX12_init 37 = .ok (.aload_n 0, 1) := by decide +kernel
theorem dX12_init_38 : decode cX12_init 38 = .ok (.bipush 60, 2) := by decide +kernel
theorem dX12_init_40 : decode cX12_init 40 = .ok (.newarray .int, 2) := by decide +kernel
theorem dX12_init_42 : decode cX12_init 42 = .ok (.putfield 22, 3) := by decide +kernel
theorem dX12_init_45 : decode cX12_init 45 = .ok (.aload_n 0, 1) := by decide +kernel
theorem dX12_init_46 : decode cX12_init 46 = .ok (.sipush 132, 3) := by decide +kernel
theorem dX12_init_49 : decode cX12_init 49 = .ok (.newarray .int, 2) := by decide +kernel
theorem dX12_init_51 : decode cX12_init 51 = .ok (.putfield 25, 3) := by decide +kernel
theorem dX12_init_54 : decode cX12_init 54 = .ok (.aload_n 0, 1) := by decide +kernel
theorem dX12_init_55 : decode cX12_init 55 = .ok (.sipush 132, 3) := by decide +kernel
theorem dX12_init_58 : decode cX12_init 58 = .ok (.newarray .int, 2) := by decide +kernel
theorem dX12_init_60 : decode cX12_init 60 = .ok (.putfield 28, 3) := by decide +kernel
theorem dX12_init_63 : decode cX12_init 63 = .ok (.aload_n 0, 1) := by decide +kernel
theorem dX12_init_64 : decode cX12_init 64 = .ok (.sipush 1584, 3) := by decide +kernel
theorem dX12_init_67 : decode cX12_init 67 = .ok (.newarray .int, 2) := by decide +kernel
theorem dX12_init_69 : decode cX12_init 69 = .ok (.putfield 31, 3) := by decide +kernel
theorem dX12_init_72 : decode cX12_init 72 = .ok (.aload_n 0, 1) := by decide +kernel
theorem dX12_init_73 : decode cX12_init 73 = .ok (.sipush 264, 3) := by decide +kernel
theorem dX12_init_76 : decode cX12_init 76 = .ok (.newarray .int, 2) := by decide +kernel
theorem dX12_init_78 : decode cX12_init 78 = .ok (.putfield 34, 3) := by decide +kernel
theorem dX12_init_81 : decode cX12_init 81 = .ok (.aload_n 0, 1) := by decide +kernel
theorem dX12_init_82 : decode cX12_init 82 = .ok (.iconst 2, 1) := by decide +kernel
theorem dX12_init_83 : decode cX12_init 83 = .ok (.newarray .boolean, 2) := by decide +kernel
theorem dX12_init_85 : decode cX12_init 85 = .ok (.putfield 37, 3) := by decide +kernel
theorem dX12_init_88 : decode cX12_init 88 = .ok (.aload_n 0, 1) := by decide +kernel
theorem dX12_init_89 : decode cX12_init 89 = .ok (.bipush 12, 2) := by decide +kernel
theorem dX12_init_91 : decode cX12_init 91 = .ok (.newarray .int, 2) := by decide +kernel
theorem dX12_init_93 : decode cX12_init 93 = .ok (.putfield 41, 3) := by decide +kernel
theorem dX12_init_96 : decode cX12_init 96 = .ok (.aload_n 0, 1) := by decide +kernel
theorem dX12_init_97 : decode cX12_init 97 = .ok (.bipush 12, 2) := by decide +kernel
theorem dX12_init_99 : decode cX12_init 99 = .ok (.newarray .int, 2) := by decide +kernel
theorem dX12_init_101 : decode cX12_init 101 = .ok (.putfield 44, 3) := by decide +kernel
theorem dX12_init_104 : decode cX12_init 104 = .ok (.aload_n 0, 1) := by decide +kernel
theorem dX12_init_105 : decode cX12_init 105 = .ok (.bipush 12, 2) := by decide +kernel
theorem dX12_init_107 : decode cX12_init 107 = .ok (.newarray .int, 2) := by decide +kernel
theorem dX12_init_109 : decode cX12_init 109 = .ok (.putfield 47, 3) := by decide +kernel
theorem dX12_init_112 : decode cX12_init 112 = .ok (.aload_n 0, 1) := by decide +kernel
theorem dX12_init_113 : decode cX12_init 113 = .ok (.bipush 12, 2) := by decide +kernel
theorem dX12_init_115 : decode cX12_init 115 = .ok (.newarray .int, 2) := by decide +kernel
theorem dX12_init_117 : decode cX12_init 117 = .ok (.putfield 50, 3) := by decide +kernel
theorem dX12_init_120 : decode cX12_init 120 = .ok (.aload_n 0, 1) := by decide +kernel
theorem dX12_init_121 : decode cX12_init 121 = .ok (.sipush 256, 3) := by decide +kernel
theorem dX12_init_124 : decode cX12_init 124 = .ok (.newarray .int, 2) := by decide +kernel
theorem dX12_init_126 : decode cX12_init 126 = .ok (.putfield 53, 3) := by decide +kernel
theorem dX12_init_129 : decode cX12_init 129 = .ok (.aload_n 0, 1) := by decide +kernel
theorem dX12_init_130 : decode cX12_init 130 = .ok (.bipush 16, 2) := by decide +kernel
theorem dX12_init_132 : decode cX12_init 132 = .ok (.newarray .int, 2) := by decide +kernel
theorem dX12_init_134 : decode cX12_init 134 = .ok (.putfield 56, 3) := by decide +kernel
theorem dX12_init_137 : decode cX12_init 137 = .ok (.iconst 0, 1) := by decide +kernel
theorem dX12_init_138 : decode cX12_init 138 = .ok (.istore_n 1, 1) := by decide +kernel
theorem dX12_init_139 : decode cX12_init 139 = .ok (.iload_n 1, 1) := by decide +kernel
theorem dX12_init_140 : decode cX12_init 140 = .ok (.bipush 8, 2) := by decide +kernel
theorem dX12_init_142 : decode cX12_init 142 = .ok (.if_icmp .ge 17, 3) := by decide +kernel
theorem dX12_init_145 : decode cX12_init 145 = .ok (.aload_n 0, 1) := by decide +kernel
theorem dX12_init_146 : decode cX12_init 146 = .ok (.getfield 7, 3) := by decide +kernel
theorem dX12_init_149 : decode cX12_init 149 = .ok (.iload_n 1, 1) := by decide +kernel
theorem dX12_init_150 : decode cX12_init 150 = .ok (.ldc 59, 2) := by decide +kernel
theorem dX12_init_152 : decode cX12_init 152 = .ok (.iastore, 1) := by decide +kernel
theorem dX12_init_153 : decode cX12_init 153 = .ok (.iinc 1 1, 3) := by decide +kernel
theorem dX12_init_156 : decode cX12_init 156 = .ok (.goto (-17), 3) := by decide +kernel
theorem dX12_init_159 : decode cX12_init 159 = .ok (.iconst 0, 1) := by decide +kernel
theorem dX12_init_160 : decode cX12_init 160 = .ok (.istore_n 1, 1) := by decide +kernel
theorem dX12_init_161 : decode cX12_init 161 = .ok (.iload_n 1, 1) := by decide +kernel
theorem dX12_init_162 : decode cX12_init 162 = .ok (.bipush 16, 2) := by decide +kernel
theorem dX12_init_164 : decode cX12_init 164 = .ok (.if_icmp .ge 72, 3) := by decide +kernel
theorem dX12_init_167 : decode cX12_init 167 = .ok (.aload_n 0, 1) := by decide +kernel
theorem dX12_init_168 : decode cX12_init 168 = .ok (.getfield 53, 3) := by decide +kernel
theorem dX12_init_171 : decode cX12_init 171 = .ok (.bipush 16, 2) := by decide +kernel
theorem dX12_init_173 : decode cX12_init 173 = .ok (.iload_n 1, 1) := by decide +kernel
theorem dX12_init_174 : decode cX12_init 174 = .ok (.imul, 1) := by decide +kernel
theorem dX12_init_175 : decode cX12_init 175 = .ok (.iconst 1, 1) := by decide +kernel
theorem dX12_init_176 : decode cX12_init 176 = .ok (.iastore, 1) := by decide +kernel
theorem dX12_init_177 : decode cX12_init 177 = .ok (.iconst 1, 1) := by decide +kernel
theorem dX12_init_178 : decode cX12_init 178 = .ok (.istore_n 2, 1) := by decide +kernel
theorem dX12_init_179 : decode cX12_init 179 = .ok (.iload_n 2, 1) := by decide +kernel
theorem dX12_init_180 : decode cX12_init 180 = .ok (.iload_n 1, 1) := by decide +kernel
theorem dX12_init_181 : decode cX12_init 181 = .ok (.if_icmp .gt 49, 3) := by decide +kernel
theorem dX12_init_184 : decode cX12_init 184 = .ok (.aload_n 0, 1) := by decide +kernel
theorem dX12_init_185 : decode cX12_init 185 = .ok (.getfield 53, 3) := by decide +kernel
theorem dX12_init_188 : decode cX12_init 188 = .ok (.bipush 16, 2) := by decide +kernel
theorem dX12_init_190 : decode cX12_init 190 = .ok (.iload_n 1, 1) := by decide +kernel
theorem dX12_init_191 : decode cX12_init 191 = .ok (.imul, 1) := by decide +kernel
theorem dX12_init_192 : decode cX12_init 192 = .ok (.iload_n 2, 1) := by decide +kernel
theorem dX12_init_193 : decode cX12_init 193 = .ok (.iadd, 1) := by decide +kernel
theorem dX12_init_194 : decode cX12_init 194 = .ok (.aload_n 0, 1) := by decide +kernel
theorem dX12_init_195 : decode cX12_init 195 = .ok (.getfield 53, 3) := by decide +kernel
theorem dX12_init_198 : decode cX12_init 198 = .ok (.bipush 16, 2) := by decide +kernel
theorem dX12_init_200 : decode cX12_init 200 = .ok (.iload_n 1, 1) := by decide +kernel
theorem dX12_init_201 : decode cX12_init 201 = .ok (.iconst 1, 1) := by decide +kernel
theorem dX12_init_202 : decode cX12_init 202 = .ok (.isub, 1) := by decide +kernel
theorem dX12_init_203 : decode cX12_init 203 = .ok (.imul, 1) := by decide +kernel
theorem dX12_init_204 : decode cX12_init 204 = .ok (.iload_n 2, 1) := by decide +kernel
theorem dX12_init_205 : decode cX12_init 205 = .ok (.iadd, 1) := by decide +kernel
theorem dX12_init_206 : decode cX12_init 206 = .ok (.iconst 1, 1) := by decide +kernel
theorem dX12_init_207 : decode cX12_init 207 = .ok (.isub, 1) := by decide +kernel
theorem dX12_init_208 : decode cX12_init 208 = .ok (.iaload, 1) := by decide +kernel
theorem dX12_init_209 : decode cX12_init 209 = .ok (.aload_n 0, 1) := by decide +kernel
theorem dX12_init_210 : decode cX12_init 210 = .ok (.getfield 53, 3) := by decide +kernel
theorem dX12_init_213 : decode cX12_init 213 = .ok (.bipush 16, 2) := by decide +kernel
theorem dX12_init_215 : decode cX12_init 215 = .ok (.iload_n 1, 1) := by decide +kernel
theorem dX12_init_216 : decode cX12_init 216 = .ok (.iconst 1, 1) := by decide +kernel
theorem dX12_init_217 : decode cX12_init 217 = .ok (.isub, 1) := by decide +kernel
theorem dX12_init_218 : decode cX12_init 218 = .ok (.imul, 1) := by decide +kernel
theorem dX12_init_219 : decode cX12_init 219 = .ok (.iload_n 2, 1) := by decide +kernel
theorem dX12_init_220 : decode cX12_init 220 = .ok (.iadd, 1) := by decide +kernel
theorem dX12_init_221 : decode cX12_init 221 = .ok (.iaload, 1) := by decide +kernel
theorem dX12_init_222 : decode cX12_init 222 = .ok (.iadd, 1) := by decide +kernel
theorem dX12_init_223 : decode cX12_init 223 = .ok (.iastore, 1) := by decide +kernel
theorem dX12_init_224 : decode cX12_init 224 = .ok (.iinc 2 1, 3) := by decide +kernel
theorem dX12_init_227 : decode cX12_init 227 = .ok (.goto (-48), 3) := by decide +kernel
theorem dX12_init_230 : decode cX12_init 230 = .ok (.iinc 1 1, 3) := by decide +kernel
theorem dX12_init_233 : decode cX12_init 233 = .ok (.goto (-72), 3) := by decide +kernel
theorem dX12_init_236 : decode cX12_init 236 = .ok (.return_, 1) := by decide +kernel
set_option maxRecDepth 20000 in
set_option maxHeartbeats 4000000 in
theorem L_X12_init_139 (K : xK) (L : xL) : ∀ (n : Nat) (a0 : Nat) (a1 : Int32) (h : xH), Sim K L cX12_init RX12 "<init>" 3 1 (fun q : Int32 × xH => q.2) (fun q pc' ls' st' h' => pc' = 159 ∧ ls' = [(0, .ref a0), (1, .int q.1)] ∧ st' = [] ∧ h' = q.2) 139 [(0, .ref a0), (1, .int a1)] [] h (f_X12_init_L139 n a0 a1 h) := by
  intro n
  induction n with
  | zero =>
    intro a0 a1 h
    exact Sim.none
  | succ n ih =>
    intro a0 a1 h
    unfold f_X12_init_L139
    refine S_iload_n (pc := 139) 1 rfl dX12_init_139 rfl ?_
    refine S_bipush (pc := 140) dX12_init_140 bi_8 ?_
    refine S_icmp_ge (pc := 142) (tgt := 159) dX12_init_142 (by decide) ?_ ?_
    · refine S_sub [0, 1] rfl ?_
      exact Sim.fin ⟨rfl, rfl, rfl, rfl⟩ rfl
    · refine S_aload_n (pc := 145) 0 rfl dX12_init_145 rfl ?_
      refine S_getR (pc := 146) fd_X12_lane wd_808 dX12_init_146 (fun v17 => ?_)
      refine S_iload_n (pc := 149) 1 rfl dX12_init_149 rfl ?_
      refine S_ldc (pc := 150) wd_807 dX12_init_150 ?_
      refine S_uI (pc := 152) dX12_init_152 (fun h18 => ?_)
      refine S_iinc (pc := 153) (v := a1 + (1 : Int32)) 1 rfl dX12_init_153 (x_inc ic_1) (Nat.le_of_ble_eq_true rfl) rfl ?_
      refine S_goto (pc := 156) (tgt := 139) dX12_init_156 (by decide) ?_
      refine S_sub [1, 0] rfl ?_
      exact ih a0 (a1 + (1 : Int32)) h18
set_option maxRecDepth 20000 in
set_option maxHeartbeats 4000000 in
theorem L_X12_init_179 (K : xK) (L : xL) : ∀ (n : Nat) (a0 : Nat) (a1 : Int32) (a2 : Int32) (h : xH), Sim K L cX12_init RX12 "<init>" 3 1 (fun q : Int32 × xH => q.2) (fun q pc' ls' st' h' => pc' = 230 ∧ ls' = [(0, .ref a0), (1, .int a1), (2, .int q.1)] ∧ st' = [] ∧ h' = q.2) 179 [(0, .ref a0), (1, .int a1), (2, .int a2)] [] h (f_X12_init_L179 n a0 a1 a2 h) := by
  intro n
  induction n with
  | zero =>
    intro a0 a1 a2 h
    exact Sim.none
  | succ n ih =>
    intro a0 a1 a2 h
    unfold f_X12_init_L179
    refine S_iload_n (pc := 179) 2 rfl dX12_init_179 rfl ?_
    refine S_iload_n (pc := 180) 1 rfl dX12_init_180 rfl ?_
    refine S_icmp_gt (pc := 181) (tgt := 230) dX12_init_181 (by decide) ?_ ?_
    · refine S_sub [0, 1, 2] rfl ?_
      exact Sim.fin ⟨rfl, rfl, rfl, rfl⟩ rfl
    · refine S_aload_n (pc := 184) 0 rfl dX12_init_184 rfl ?_
      refine S_getR (pc := 185) fd_X12_chosen wd_833 dX12_init_185 (fun v22 => ?_)
      refine S_bipush (pc := 188) dX12_init_188 bi_16 ?_
      refine S_iload_n (pc := 190) 1 rfl dX12_init_190 rfl ?_
      refine S_imul (pc := 191) dX12_init_191 ?_
      refine S_iload_n (pc := 192) 2 rfl dX12_init_192 rfl ?_
      refine S_iadd (pc := 193) dX12_init_193 ?_
      refine S_aload_n (pc := 194) 0 rfl dX12_init_194 rfl ?_
      refine S_getR (pc := 195) fd_X12_chosen wd_833 dX12_init_195 (fun v23 => ?_)
      refine S_bipush (pc := 198) dX12_init_198 bi_16 ?_
      refine S_iload_n (pc := 200) 1 rfl dX12_init_200 rfl ?_
      refine S_iconst (pc := 201) dX12_init_201 ic_1 ?_
      refine S_isub (pc := 202) dX12_init_202 ?_
      refine S_imul (pc := 203) dX12_init_203 ?_
      refine S_iload_n (pc := 204) 2 rfl dX12_init_204 rfl ?_
      refine S_iadd (pc := 205) dX12_init_205 ?_
      refine S_iconst (pc := 206) dX12_init_206 ic_1 ?_
      refine S_isub (pc := 207) dX12_init_207 ?_
      refine S_aI (pc := 208) dX12_init_208 (fun v24 => ?_)
      refine S_aload_n (pc := 209) 0 rfl dX12_init_209 rfl ?_
      refine S_getR (pc := 210) fd_X12_chosen wd_833 dX12_init_210 (fun v25 => ?_)
      refine S_bipush (pc := 213) dX12_init_213 bi_16 ?_
      refine S_iload_n (pc := 215) 1 rfl dX12_init_215 rfl ?_
      refine S_iconst (pc := 216) dX12_init_216 ic_1 ?_
      refine S_isub (pc := 217) dX12_init_217 ?_
      refine S_imul (pc := 218) dX12_init_218 ?_
      refine S_iload_n (pc := 219) 2 rfl dX12_init_219 rfl ?_
      refine S_iadd (pc := 220) dX12_init_220 ?_
      refine S_aI (pc := 221) dX12_init_221 (fun v26 => ?_)
      refine S_iadd (pc := 222) dX12_init_222 ?_
      refine S_uI (pc := 223) dX12_init_223 (fun h27 => ?_)
      refine S_iinc (pc := 224) (v := a2 + (1 : Int32)) 2 rfl dX12_init_224 (x_inc ic_1) (Nat.le_of_ble_eq_true rfl) rfl ?_
      refine S_goto (pc := 227) (tgt := 179) dX12_init_227 (by decide) ?_
      refine S_sub [1, 2, 0] rfl ?_
      exact ih a0 a1 (a2 + (1 : Int32)) h27
set_option maxRecDepth 20000 in
set_option maxHeartbeats 4000000 in
theorem L_X12_init_161 (K : xK) (L : xL) : ∀ (n : Nat) (a0 : Nat) (a1 : Int32) (h : xH), Sim K L cX12_init RX12 "<init>" 3 1 (fun q : Int32 × xH => q.2) (fun q pc' ls' st' h' => pc' = 236 ∧ ls' = [(0, .ref a0), (1, .int q.1)] ∧ st' = [] ∧ h' = q.2) 161 [(0, .ref a0), (1, .int a1)] [] h (f_X12_init_L161 n a0 a1 h) := by
  intro n
  induction n with
  | zero =>
    intro a0 a1 h
    exact Sim.none
  | succ n ih =>
    intro a0 a1 h
    unfold f_X12_init_L161
    refine S_iload_n (pc := 161) 1 rfl dX12_init_161 rfl ?_
    refine S_bipush (pc := 162) dX12_init_162 bi_16 ?_
    refine S_icmp_ge (pc := 164) (tgt := 236) dX12_init_164 (by decide) ?_ ?_
    · refine S_sub [0, 1] rfl ?_
      exact Sim.fin ⟨rfl, rfl, rfl, rfl⟩ rfl
    · refine S_aload_n (pc := 167) 0 rfl dX12_init_167 rfl ?_
      refine S_getR (pc := 168) fd_X12_chosen wd_833 dX12_init_168 (fun v20 => ?_)
      refine S_bipush (pc := 171) dX12_init_171 bi_16 ?_
      refine S_iload_n (pc := 173) 1 rfl dX12_init_173 rfl ?_
      refine S_imul (pc := 174) dX12_init_174 ?_
      refine S_iconst (pc := 175) dX12_init_175 ic_1 ?_
      refine S_uI (pc := 176) dX12_init_176 (fun h21 => ?_)
      refine S_iconst (pc := 177) dX12_init_177 ic_1 ?_
      refine S_istore_n (pc := 178) dX12_init_178 rfl (Nat.le_of_ble_eq_true rfl) rfl ?_
      refine S_sub [1, 2, 0] rfl ?_
      refine Sim.bind (hs := fun q28 : Int32 × xH => q28.2) (px := 230) (lsx := fun q28 => [(0, .ref a0), (1, .int a1), (2, .int q28.1)]) (L_X12_init_179 K L xN a0 a1 (1 : Int32) h21) (fun q28 => ?_)
      refine S_iinc (pc := 230) (v := a1 + (1 : Int32)) 1 rfl dX12_init_230 (x_inc ic_1) (Nat.le_of_ble_eq_true rfl) rfl ?_
      refine S_goto (pc := 233) (tgt := 161) dX12_init_233 (by decide) ?_
      refine S_sub [1, 0] rfl ?_
      exact ih a0 (a1 + (1 : Int32)) q28.2
set_option maxRecDepth 20000 in
set_option maxHeartbeats 4000000 in
theorem W_X12_init (K : xK) (L : xL) (a0 : Nat) (h : xH) : Sim K L cX12_init RX12 "<init>" 3 1 (fun q : xH => q) (xRv cX12_init) 0 [(0, .ref a0)] [] h (f_X12_init a0 h) := by
  unfold f_X12_init
  refine S_aload_n (pc := 0) 0 rfl dX12_init_0 rfl ?_
  refine S_objInit (pc := 1) (Nat.le_of_ble_eq_true rfl) wd_806 wd_67 wd_68 (Nat.le_of_ble_eq_true rfl) dX12_init_1 ?_
  refine S_aload_n (pc := 4) 0 rfl dX12_init_4 rfl ?_
  refine S_bipush (pc := 5) dX12_init_5 bi_8 ?_
  refine S_newI (pc := 7) (N := 8) wd_88 (by decide) (by decide) (by decide) dX12_init_7 ?_
  refine S_putRF (pc := 9) fd_X12_lane wd_808 (fun _ => rfl) (fun _ => rfl) dX12_init_9 (fun h1 => ?_)
  refine S_aload_n (pc := 12) 0 rfl dX12_init_12 rfl ?_
  refine S_bipush (pc := 13) dX12_init_13 bi_8 ?_
  refine S_newI (pc := 15) (N := 8) wd_88 (by decide) (by decide) (by decide) dX12_init_15 ?_
  refine S_putRF (pc := 17) fd_X12_many wd_809 (fun _ => rfl) (fun _ => rfl) dX12_init_17 (fun h2 => ?_)
  refine S_aload_n (pc := 20) 0 rfl dX12_init_20 rfl ?_
  refine S_sipush (pc := 21) dX12_init_21 si_320 ?_
  refine S_newI (pc := 24) (N := 320) wd_88 (by decide) (by decide) (by decide) dX12_init_24 ?_
  refine S_putRF (pc := 26) fd_X12_items wd_810 (fun _ => rfl) (fun _ => rfl) dX12_init_26 (fun h3 => ?_)
  refine S_aload_n (pc := 29) 0 rfl dX12_init_29 rfl ?_
  refine S_bipush (pc := 30) dX12_init_30 bi_40 ?_
  refine S_newI (pc := 32) (N := 40) wd_88 (by decide) (by decide) (by decide) dX12_init_32 ?_
  refine S_putRF (pc := 34) fd_X12_spare wd_811 (fun _ => rfl) (fun _ => rfl) dX12_init_34 (fun h4 => ?_)
  refine S_aload_n (pc := 37) 0 rfl dX12_init_37 rfl ?_
  refine S_bipush (pc := 38) dX12_init_38 bi_60 ?_
  refine S_newI (pc := 40) (N := 60) wd_88 (by decide) (by decide) (by decide) dX12_init_40 ?_
  refine S_putRF (pc := 42) fd_X12_tape wd_813 (fun _ => rfl) (fun _ => rfl) dX12_init_42 (fun h5 => ?_)
  refine S_aload_n (pc := 45) 0 rfl dX12_init_45 rfl ?_
  refine S_sipush (pc := 46) dX12_init_46 si_132 ?_
  refine S_newI (pc := 49) (N := 132) wd_88 (by decide) (by decide) (by decide) dX12_init_49 ?_
  refine S_putRF (pc := 51) fd_X12_now wd_821 (fun _ => rfl) (fun _ => rfl) dX12_init_51 (fun h6 => ?_)
  refine S_aload_n (pc := 54) 0 rfl dX12_init_54 rfl ?_
  refine S_sipush (pc := 55) dX12_init_55 si_132 ?_
  refine S_newI (pc := 58) (N := 132) wd_88 (by decide) (by decide) (by decide) dX12_init_58 ?_
  refine S_putRF (pc := 60) fd_X12_tried wd_822 (fun _ => rfl) (fun _ => rfl) dX12_init_60 (fun h7 => ?_)
  refine S_aload_n (pc := 63) 0 rfl dX12_init_63 rfl ?_
  refine S_sipush (pc := 64) dX12_init_64 si_1584 ?_
  refine S_newI (pc := 67) (N := 1584) wd_88 (by decide) (by decide) (by decide) dX12_init_67 ?_
  refine S_putRF (pc := 69) fd_X12_past wd_823 (fun _ => rfl) (fun _ => rfl) dX12_init_69 (fun h8 => ?_)
  refine S_aload_n (pc := 72) 0 rfl dX12_init_72 rfl ?_
  refine S_sipush (pc := 73) dX12_init_73 si_264 ?_
  refine S_newI (pc := 76) (N := 264) wd_88 (by decide) (by decide) (by decide) dX12_init_76 ?_
  refine S_putRF (pc := 78) fd_X12_images wd_825 (fun _ => rfl) (fun _ => rfl) dX12_init_78 (fun h9 => ?_)
  refine S_aload_n (pc := 81) 0 rfl dX12_init_81 rfl ?_
  refine S_iconst (pc := 82) dX12_init_82 ic_2 ?_
  refine S_newZ (pc := 83) (N := 2) wd_87 (by decide) (by decide) (by decide) dX12_init_83 ?_
  refine S_putRF (pc := 85) fd_X12_kept wd_826 (fun _ => rfl) (fun _ => rfl) dX12_init_85 (fun h10 => ?_)
  refine S_aload_n (pc := 88) 0 rfl dX12_init_88 rfl ?_
  refine S_bipush (pc := 89) dX12_init_89 bi_12 ?_
  refine S_newI (pc := 91) (N := 12) wd_88 (by decide) (by decide) (by decide) dX12_init_91 ?_
  refine S_putRF (pc := 93) fd_X12_kinds wd_828 (fun _ => rfl) (fun _ => rfl) dX12_init_93 (fun h11 => ?_)
  refine S_aload_n (pc := 96) 0 rfl dX12_init_96 rfl ?_
  refine S_bipush (pc := 97) dX12_init_97 bi_12 ?_
  refine S_newI (pc := 99) (N := 12) wd_88 (by decide) (by decide) (by decide) dX12_init_99 ?_
  refine S_putRF (pc := 101) fd_X12_length wd_829 (fun _ => rfl) (fun _ => rfl) dX12_init_101 (fun h12 => ?_)
  refine S_aload_n (pc := 104) 0 rfl dX12_init_104 rfl ?_
  refine S_bipush (pc := 105) dX12_init_105 bi_12 ?_
  refine S_newI (pc := 107) (N := 12) wd_88 (by decide) (by decide) (by decide) dX12_init_107 ?_
  refine S_putRF (pc := 109) fd_X12_someKinds wd_831 (fun _ => rfl) (fun _ => rfl) dX12_init_109 (fun h13 => ?_)
  refine S_aload_n (pc := 112) 0 rfl dX12_init_112 rfl ?_
  refine S_bipush (pc := 113) dX12_init_113 bi_12 ?_
  refine S_newI (pc := 115) (N := 12) wd_88 (by decide) (by decide) (by decide) dX12_init_115 ?_
  refine S_putRF (pc := 117) fd_X12_someLength wd_832 (fun _ => rfl) (fun _ => rfl) dX12_init_117 (fun h14 => ?_)
  refine S_aload_n (pc := 120) 0 rfl dX12_init_120 rfl ?_
  refine S_sipush (pc := 121) dX12_init_121 si_256 ?_
  refine S_newI (pc := 124) (N := 256) wd_88 (by decide) (by decide) (by decide) dX12_init_124 ?_
  refine S_putRF (pc := 126) fd_X12_chosen wd_833 (fun _ => rfl) (fun _ => rfl) dX12_init_126 (fun h15 => ?_)
  refine S_aload_n (pc := 129) 0 rfl dX12_init_129 rfl ?_
  refine S_bipush (pc := 130) dX12_init_130 bi_16 ?_
  refine S_newI (pc := 132) (N := 16) wd_88 (by decide) (by decide) (by decide) dX12_init_132 ?_
  refine S_putRF (pc := 134) fd_X12_trace wd_834 (fun _ => rfl) (fun _ => rfl) dX12_init_134 (fun h16 => ?_)
  refine S_iconst (pc := 137) dX12_init_137 ic_0 ?_
  refine S_istore_n (pc := 138) dX12_init_138 rfl (Nat.le_of_ble_eq_true rfl) rfl ?_
  refine S_sub [1, 0] rfl ?_
  refine Sim.bind (hs := fun q19 : Int32 × xH => q19.2) (px := 159) (lsx := fun q19 => [(0, .ref a0), (1, .int q19.1)]) (L_X12_init_139 K L xN a0 (0 : Int32) h16) (fun q19 => ?_)
  refine S_iconst (pc := 159) dX12_init_159 ic_0 ?_
  refine S_istore_n (pc := 160) dX12_init_160 rfl (Nat.le_of_ble_eq_true rfl) rfl ?_
  refine S_sub [1, 0] rfl ?_
  refine Sim.bind (hs := fun q29 : Int32 × xH => q29.2) (px := 236) (lsx := fun q29 => [(0, .ref a0), (1, .int q29.1)]) (L_X12_init_161 K L xN a0 (0 : Int32) q19.2) (fun q29 => ?_)
  exact Sim.fin ⟨dX12_init_236, rfl, rfl⟩ rfl
theorem M_X12_init (l : Launch) (a0 : Nat) (h : xH) {q : xH} (hq : f_X12_init a0 h = some q) : xM l yX12_init cX12_init 3 none 1 [.ref a0] h none q := xM_v (by decide +kernel) (Nat.le_of_ble_eq_true rfl) (fun K L => W_X12_init K L a0 h) hq
theorem dX12_puts_0 : decode cX12_puts 0 = .ok (.bipush 33, 2) := by decide +kernel
theorem dX12_puts_2 : decode cX12_puts 2 = .ok (.iload_n 1, 1) := by decide +kernel
theorem dX12_puts_3 : decode cX12_puts 3 = .ok (.imul, 1) := by decide +kernel
theorem dX12_puts_4 : decode cX12_puts 4 = .ok (.iconst 1, 1) := by decide +kernel
theorem dX12_puts_5 : decode cX12_puts 5 = .ok (.iadd, 1) := by decide +kernel
theorem dX12_puts_6 : decode cX12_puts 6 = .ok (.iload_n 2, 1) := by decide +kernel
theorem dX12_puts_7 : decode cX12_puts 7 = .ok (.bipush 15, 2) := by decide +kernel
theorem dX12_puts_9 : decode cX12_puts 9 = .ok (.idiv, 1) := by decide +kernel
theorem dX12_puts_10 : decode cX12_puts 10 = .ok (.iadd, 1) := by decide +kernel
theorem dX12_puts_11 : decode cX12_puts 11 = .ok (.istore 4, 2) := by decide +kernel
theorem dX12_puts_13 : decode cX12_puts 13 = .ok (.aload_n 0, 1) := by decide +kernel
theorem dX12_puts_14 : decode cX12_puts 14 = .ok (.iload 4, 2) := by decide +kernel
theorem dX12_puts_16 : decode cX12_puts 16 = .ok (.aload_n 0, 1) := by decide +kernel
theorem dX12_puts_17 : decode cX12_puts 17 = .ok (.iload 4, 2) := by decide +kernel
theorem dX12_puts_19 : decode cX12_puts 19 = .ok (.iaload, 1) := by decide +kernel
theorem dX12_puts_20 : decode cX12_puts 20 = .ok (.iconst 1, 1) := by decide +kernel
theorem dX12_puts_21 : decode cX12_puts 21 = .ok (.iload_n 2, 1) := by decide +kernel
theorem dX12_puts_22 : decode cX12_puts 22 = .ok (.bipush 15, 2) := by decide +kernel
theorem dX12_puts_24 : decode cX12_puts 24 = .ok (.irem, 1) := by decide +kernel
theorem dX12_puts_25 : decode cX12_puts 25 = .ok (.ishl, 1) := by decide +kernel
theorem dX12_puts_26 : decode cX12_puts 26 = .ok (.iconst (-1), 1) := by decide +kernel
theorem dX12_puts_27 : decode cX12_puts 27 = .ok (.ixor, 1) := by decide +kernel
theorem dX12_puts_28 : decode cX12_puts 28 = .ok (.iand, 1) := by decide +kernel
theorem dX12_puts_29 : decode cX12_puts 29 = .ok (.iload_n 3, 1) := by decide +kernel
theorem dX12_puts_30 : decode cX12_puts 30 = .ok (.iload_n 2, 1) := by decide +kernel
theorem dX12_puts_31 : decode cX12_puts 31 = .ok (.bipush 15, 2) := by decide +kernel
theorem dX12_puts_33 : decode cX12_puts 33 = .ok (.irem, 1) := by decide +kernel
theorem dX12_puts_34 : decode cX12_puts 34 = .ok (.ishl, 1) := by decide +kernel
theorem dX12_puts_35 : decode cX12_puts 35 = .ok (.ior, 1) := by decide +kernel
theorem dX12_puts_36 : decode cX12_puts 36 = .ok (.iastore, 1) := by decide +kernel
theorem dX12_puts_37 : decode cX12_puts 37 = .ok (.return_, 1) := by decide +kernel
set_option maxRecDepth 20000 in
set_option maxHeartbeats 4000000 in
theorem W_X12_puts (K : xK) (L : xL) (a0 : Nat) (a1 : Int32) (a2 : Int32) (a3 : Int32) (h : xH) : Sim K L cX12_puts RX12 "puts" 5 0 (fun q : xH => q) (xRv cX12_puts) 0 [(0, .ref a0), (1, .int a1), (2, .int a2), (3, .int a3)] [] h (f_X12_puts a0 a1 a2 a3 h) := by
  unfold f_X12_puts
  refine S_bipush (pc := 0) dX12_puts_0 bi_33 ?_
  refine S_iload_n (pc := 2) 1 rfl dX12_puts_2 rfl ?_
  refine S_imul (pc := 3) dX12_puts_3 ?_
  refine S_iconst (pc := 4) dX12_puts_4 ic_1 ?_
  refine S_iadd (pc := 5) dX12_puts_5 ?_
  refine S_iload_n (pc := 6) 2 rfl dX12_puts_6 rfl ?_
  refine S_bipush (pc := 7) dX12_puts_7 bi_15 ?_
  refine S_idiv (pc := 9) (by decide) dX12_puts_9 ?_
  refine S_iadd (pc := 10) dX12_puts_10 ?_
  refine S_istore (pc := 11) dX12_puts_11 (Nat.le_of_ble_eq_true rfl) rfl ?_
  refine S_aload_n (pc := 13) 1 rfl dX12_puts_13 rfl ?_
  refine S_iload (pc := 14) 0 rfl dX12_puts_14 ?_
  refine S_aload_n (pc := 16) 1 rfl dX12_puts_16 rfl ?_
  refine S_iload (pc := 17) 0 rfl dX12_puts_17 ?_
  refine S_aI (pc := 19) dX12_puts_19 (fun v1 => ?_)
  refine S_iconst (pc := 20) dX12_puts_20 ic_1 ?_
  refine S_iload_n (pc := 21) 3 rfl dX12_puts_21 rfl ?_
  refine S_bipush (pc := 22) dX12_puts_22 bi_15 ?_
  refine S_irem (pc := 24) (by decide) dX12_puts_24 ?_
  refine S_ishl (pc := 25) dX12_puts_25 ?_
  refine S_iconst (pc := 26) dX12_puts_26 ic_m1 ?_
  refine S_ixor (pc := 27) dX12_puts_27 ?_
  refine S_iand (pc := 28) dX12_puts_28 ?_
  refine S_iload_n (pc := 29) 4 rfl dX12_puts_29 rfl ?_
  refine S_iload_n (pc := 30) 3 rfl dX12_puts_30 rfl ?_
  refine S_bipush (pc := 31) dX12_puts_31 bi_15 ?_
  refine S_irem (pc := 33) (by decide) dX12_puts_33 ?_
  refine S_ishl (pc := 34) dX12_puts_34 ?_
  refine S_ior (pc := 35) dX12_puts_35 ?_
  refine S_uI (pc := 36) dX12_puts_36 (fun h2 => ?_)
  exact Sim.fin ⟨dX12_puts_37, rfl, rfl⟩ rfl
theorem M_X12_puts (l : Launch) (a0 : Nat) (a1 : Int32) (a2 : Int32) (a3 : Int32) (h : xH) {q : xH} (hq : f_X12_puts a0 a1 a2 a3 h = some q) : xM l yX12_puts cX12_puts 5 none 0 [.ref a0, .int a1, .int a2, .int a3] h none q := xM_v (by decide +kernel) (Nat.le_of_ble_eq_true rfl) (fun K L => W_X12_puts K L a0 a1 a2 a3 h) hq
theorem dX12_appends_0 : decode cX12_appends 0 = .ok (.aload_n 0, 1) := by decide +kernel
theorem dX12_appends_1 : decode cX12_appends 1 = .ok (.getfield 25, 3) := by decide +kernel
theorem dX12_appends_4 : decode cX12_appends 4 = .ok (.iload_n 1, 1) := by decide +kernel
theorem dX12_appends_5 : decode cX12_appends 5 = .ok (.aload_n 0, 1) := by decide +kernel
theorem dX12_appends_6 : decode cX12_appends 6 = .ok (.getfield 25, 3) := by decide +kernel
theorem dX12_appends_9 : decode cX12_appends 9 = .ok (.bipush 33, 2) := by decide +kernel
theorem dX12_appends_11 : decode cX12_appends 11 = .ok (.iload_n 1, 1) := by decide +kernel
theorem dX12_appends_12 : decode cX12_appends 12 = .ok (.imul, 1) := by decide +kernel
theorem dX12_appends_13 : decode cX12_appends 13 = .ok (.iaload, 1) := by decide +kernel
theorem dX12_appends_14 : decode cX12_appends 14 = .ok (.iload_n 2, 1) := by decide +kernel
theorem dX12_appends_15 : decode cX12_appends 15 = .ok (.invokestatic 159, 3) := by decide +kernel
theorem dX12_appends_18 : decode cX12_appends 18 = .ok (.aload_n 0, 1) := by decide +kernel
theorem dX12_appends_19 : decode cX12_appends 19 = .ok (.getfield 25, 3) := by decide +kernel
theorem dX12_appends_22 : decode cX12_appends 22 = .ok (.bipush 33, 2) := by decide +kernel
theorem dX12_appends_24 : decode cX12_appends 24 = .ok (.iload_n 1, 1) := by decide +kernel
theorem dX12_appends_25 : decode cX12_appends 25 = .ok (.imul, 1) := by decide +kernel
theorem dX12_appends_26 : decode cX12_appends 26 = .ok (.dup2, 1) := by decide +kernel
theorem dX12_appends_27 : decode cX12_appends 27 = .ok (.iaload, 1) := by decide +kernel
theorem dX12_appends_28 : decode cX12_appends 28 = .ok (.iconst 1, 1) := by decide +kernel
theorem dX12_appends_29 : decode cX12_appends 29 = .ok (.iadd, 1) := by decide +kernel
theorem dX12_appends_30 : decode cX12_appends 30 = .ok (.iastore, 1) := by decide +kernel
theorem dX12_appends_31 : decode cX12_appends 31 = .ok (.return_, 1) := by decide +kernel
set_option maxRecDepth 20000 in
set_option maxHeartbeats 4000000 in
theorem W_X12_appends (K : xK) (L : xL) (a0 : Nat) (a1 : Int32) (a2 : Int32) (h : xH) : Sim K L cX12_appends RX12 "appends" 3 1 (fun q : xH => q) (xRv cX12_appends) 0 [(0, .ref a0), (1, .int a1), (2, .int a2)] [] h (f_X12_appends a0 a1 a2 h) := by
  unfold f_X12_appends
  refine S_aload_n (pc := 0) 0 rfl dX12_appends_0 rfl ?_
  refine S_getR (pc := 1) fd_X12_now wd_821 dX12_appends_1 (fun v1 => ?_)
  refine S_iload_n (pc := 4) 1 rfl dX12_appends_4 rfl ?_
  refine S_aload_n (pc := 5) 0 rfl dX12_appends_5 rfl ?_
  refine S_getR (pc := 6) fd_X12_now wd_821 dX12_appends_6 (fun v2 => ?_)
  refine S_bipush (pc := 9) dX12_appends_9 bi_33 ?_
  refine S_iload_n (pc := 11) 1 rfl dX12_appends_11 rfl ?_
  refine S_imul (pc := 12) dX12_appends_12 ?_
  refine S_aI (pc := 13) dX12_appends_13 (fun v3 => ?_)
  refine S_iload_n (pc := 14) 2 rfl dX12_appends_14 rfl ?_
  refine S_call_v (pc := 15) (rest := []) (fun q hq => R_S (av := [.ref v1, .int a1, .int v3, .int a2]) (M_X12_puts _ v1 a1 v3 a2 h hq) wd_996 wd_994 wd_995 wd_50 hd_X12_puts ⟨Nat.le_of_ble_eq_true rfl, Nat.le_of_ble_eq_true rfl⟩ rfl (Nat.le_of_ble_eq_true rfl) dX12_appends_15) (fun _ h => absurd h List.not_mem_nil) (fun q4 => ?_)
  refine S_aload_n (pc := 18) 0 rfl dX12_appends_18 rfl ?_
  refine S_getR (pc := 19) fd_X12_now wd_821 dX12_appends_19 (fun v5 => ?_)
  refine S_bipush (pc := 22) dX12_appends_22 bi_33 ?_
  refine S_iload_n (pc := 24) 1 rfl dX12_appends_24 rfl ?_
  refine S_imul (pc := 25) dX12_appends_25 ?_
  refine S_dup2 (pc := 26) rfl rfl dX12_appends_26 ?_
  refine S_aI (pc := 27) dX12_appends_27 (fun v6 => ?_)
  refine S_iconst (pc := 28) dX12_appends_28 ic_1 ?_
  refine S_iadd (pc := 29) dX12_appends_29 ?_
  refine S_uI (pc := 30) dX12_appends_30 (fun h7 => ?_)
  exact Sim.fin ⟨dX12_appends_31, rfl, rfl⟩ rfl
theorem M_X12_appends (l : Launch) (a0 : Nat) (a1 : Int32) (a2 : Int32) (h : xH) {q : xH} (hq : f_X12_appends a0 a1 a2 h = some q) : xM l yX12_appends cX12_appends 3 none 1 [.ref a0, .int a1, .int a2] h none q := xM_v (by decide +kernel) (Nat.le_of_ble_eq_true rfl) (fun K L => W_X12_appends K L a0 a1 a2 h) hq
theorem dX12_bitsOf_0 : decode cX12_bitsOf 0 = .ok (.aload_n 0, 1) := by decide +kernel
theorem dX12_bitsOf_1 : decode cX12_bitsOf 1 = .ok (.getfield 25, 3) := by decide +kernel
theorem dX12_bitsOf_4 : decode cX12_bitsOf 4 = .ok (.bipush 33, 2) := by decide +kernel
theorem dX12_bitsOf_6 : decode cX12_bitsOf 6 = .ok (.iload_n 1, 1) := by decide +kernel
theorem dX12_bitsOf_7 : decode cX12_bitsOf 7 = .ok (.imul, 1) := by decide +kernel
theorem dX12_bitsOf_8 : decode cX12_bitsOf 8 = .ok (.iaload, 1) := by decide +kernel
theorem dX12_bitsOf_9 : decode cX12_bitsOf 9 = .ok (.ireturn, 1) := by decide +kernel
set_option maxRecDepth 20000 in
set_option maxHeartbeats 4000000 in
theorem W_X12_bitsOf (K : xK) (L : xL) (a0 : Nat) (a1 : Int32) (h : xH) : Sim K L cX12_bitsOf RX12 "bitsOf" 2 0 (fun q : Int32 × xH => q.2) (xRi cX12_bitsOf) 0 [(0, .ref a0), (1, .int a1)] [] h (f_X12_bitsOf a0 a1 h) := by
  unfold f_X12_bitsOf
  refine S_aload_n (pc := 0) 0 rfl dX12_bitsOf_0 rfl ?_
  refine S_getR (pc := 1) fd_X12_now wd_821 dX12_bitsOf_1 (fun v1 => ?_)
  refine S_bipush (pc := 4) dX12_bitsOf_4 bi_33 ?_
  refine S_iload_n (pc := 6) 1 rfl dX12_bitsOf_6 rfl ?_
  refine S_imul (pc := 7) dX12_bitsOf_7 ?_
  refine S_aI (pc := 8) dX12_bitsOf_8 (fun v2 => ?_)
  exact Sim.fin ⟨dX12_bitsOf_9, rfl, rfl⟩ rfl
theorem M_X12_bitsOf (l : Launch) (a0 : Nat) (a1 : Int32) (h : xH) {q : Int32 × xH} (hq : f_X12_bitsOf a0 a1 h = some q) : xM l yX12_bitsOf cX12_bitsOf 2 (some .int) 0 [.ref a0, .int a1] h (some (.int q.1)) q.2 := xM_i (by decide +kernel) (Nat.le_of_ble_eq_true rfl) (fun K L => W_X12_bitsOf K L a0 a1 h) hq
theorem dX12_in_0 : decode cX12_in 0 = .ok (.iload_n 0, 1) := by decide +kernel
theorem dX12_in_1 : decode cX12_in 1 = .ok (.iload_n 1, 1) := by decide +kernel
theorem dX12_in_2 : decode cX12_in 2 = .ok (.if_icmp .lt 12, 3) := by decide +kernel
theorem dX12_in_5 : decode cX12_in 5 = .ok (.iload_n 0, 1) := by decide +kernel
theorem dX12_in_6 : decode cX12_in 6 = .ok (.iload_n 2, 1) := by decide +kernel
theorem dX12_in_7 : decode cX12_in 7 = .ok (.if_icmp .gt 7, 3) := by decide +kernel
theorem dX12_in_10 : decode cX12_in 10 = .ok (.iconst 1, 1) := by decide +kernel
theorem dX12_in_11 : decode cX12_in 11 = .ok (.goto 4, 3) := by decide +kernel
theorem dX12_in_14 : decode cX12_in 14 = .ok (.iconst 0, 1) := by decide +kernel
theorem dX12_in_15 : decode cX12_in 15 = .ok (.ireturn, 1) := by decide +kernel
set_option maxRecDepth 20000 in
set_option maxHeartbeats 4000000 in
theorem W_X12_in (K : xK) (L : xL) (a0 : Int32) (a1 : Int32) (a2 : Int32) (h : xH) : Sim K L cX12_in RX12 "in" 3 0 (fun q : Int32 × xH => q.2) (xRz cX12_in) 0 [(0, .int a0), (1, .int a1), (2, .int a2)] [] h (f_X12_in a0 a1 a2 h) := by
  unfold f_X12_in
  refine S_iload_n (pc := 0) 0 rfl dX12_in_0 rfl ?_
  refine S_iload_n (pc := 1) 1 rfl dX12_in_1 rfl ?_
  refine S_icmp_lt (pc := 2) (tgt := 14) dX12_in_2 (by decide) ?_ ?_
  · refine S_iconst (pc := 14) dX12_in_14 ic_0 ?_
    exact Sim.fin ⟨dX12_in_15, rfl, rfl, x_nar (Or.inl rfl)⟩ rfl
  · refine S_iload_n (pc := 5) 0 rfl dX12_in_5 rfl ?_
    refine S_iload_n (pc := 6) 2 rfl dX12_in_6 rfl ?_
    refine S_icmp_gt (pc := 7) (tgt := 14) dX12_in_7 (by decide) ?_ ?_
    · refine S_iconst (pc := 14) dX12_in_14 ic_0 ?_
      exact Sim.fin ⟨dX12_in_15, rfl, rfl, x_nar (Or.inl rfl)⟩ rfl
    · refine S_iconst (pc := 10) dX12_in_10 ic_1 ?_
      refine S_goto (pc := 11) (tgt := 15) dX12_in_11 (by decide) ?_
      exact Sim.fin ⟨dX12_in_15, rfl, rfl, x_nar (Or.inr rfl)⟩ rfl
theorem M_X12_in (l : Launch) (a0 : Int32) (a1 : Int32) (a2 : Int32) (h : xH) {q : Int32 × xH} (hq : f_X12_in a0 a1 a2 h = some q) : xM l yX12_in cX12_in 3 (some .boolean) 0 [.int a0, .int a1, .int a2] h (some (.int q.1)) q.2 := xM_z (by decide +kernel) (Nat.le_of_ble_eq_true rfl) (fun K L => W_X12_in K L a0 a1 a2 h) hq
theorem dX12_isValue_0 : decode cX12_isValue 0 = .ok (.iload_n 0, 1) := by decide +kernel
theorem dX12_isValue_1 : decode cX12_isValue 1 = .ok (.iconst 0, 1) := by decide +kernel
theorem dX12_isValue_2 : decode cX12_isValue 2 = .ok (.iconst 1, 1) := by decide +kernel
theorem dX12_isValue_3 : decode cX12_isValue 3 = .ok (.invokestatic 65, 3) := by decide +kernel
theorem dX12_isValue_6 : decode cX12_isValue 6 = .ok (.ireturn, 1) := by decide +kernel
set_option maxRecDepth 20000 in
set_option maxHeartbeats 4000000 in
theorem W_X12_isValue (K : xK) (L : xL) (a0 : Int32) (h : xH) : Sim K L cX12_isValue RX12 "isValue" 1 1 (fun q : Int32 × xH => q.2) (xRz cX12_isValue) 0 [(0, .int a0)] [] h (f_X12_isValue a0 h) := by
  unfold f_X12_isValue
  refine S_iload_n (pc := 0) 0 rfl dX12_isValue_0 rfl ?_
  refine S_iconst (pc := 1) dX12_isValue_1 ic_0 ?_
  refine S_iconst (pc := 2) dX12_isValue_2 ic_1 ?_
  refine S_call_i (pc := 3) (rest := []) (fun q hq => R_S (av := [.int a0, .int (0 : Int32), .int (1 : Int32)]) (M_X12_in _ a0 (0 : Int32) (1 : Int32) h hq) wd_902 wd_900 wd_901 wd_50 hd_X12_in ⟨Nat.le_of_ble_eq_true rfl, Nat.le_of_ble_eq_true rfl⟩ rfl (Nat.le_of_ble_eq_true rfl) dX12_isValue_3) (fun _ h => absurd h List.not_mem_nil) (fun q1 => ?_)
  refine Sim.ite (fun hz2 => ?_) (fun _ => Sim.none)
  exact Sim.fin ⟨dX12_isValue_6, rfl, rfl, x_nar hz2⟩ rfl
theorem M_X12_isValue (l : Launch) (a0 : Int32) (h : xH) {q : Int32 × xH} (hq : f_X12_isValue a0 h = some q) : xM l yX12_isValue cX12_isValue 1 (some .boolean) 1 [.int a0] h (some (.int q.1)) q.2 := xM_z (by decide +kernel) (Nat.le_of_ble_eq_true rfl) (fun K L => W_X12_isValue K L a0 h) hq
theorem dX12_isVector_0 : decode cX12_isVector 0 = .ok (.iload_n 0, 1) := by decide +kernel
theorem dX12_isVector_1 : decode cX12_isVector 1 = .ok (.iconst 0, 1) := by decide +kernel
theorem dX12_isVector_2 : decode cX12_isVector 2 = .ok (.iconst 3, 1) := by decide +kernel
theorem dX12_isVector_3 : decode cX12_isVector 3 = .ok (.invokestatic 65, 3) := by decide +kernel
theorem dX12_isVector_6 : decode cX12_isVector 6 = .ok (.ireturn, 1) := by decide +kernel
set_option maxRecDepth 20000 in
set_option maxHeartbeats 4000000 in
theorem W_X12_isVector (K : xK) (L : xL) (a0 : Int32) (h : xH) : Sim K L cX12_isVector RX12 "isVector" 1 1 (fun q : Int32 × xH => q.2) (xRz cX12_isVector) 0 [(0, .int a0)] [] h (f_X12_isVector a0 h) := by
  unfold f_X12_isVector
  refine S_iload_n (pc := 0) 0 rfl dX12_isVector_0 rfl ?_
  refine S_iconst (pc := 1) dX12_isVector_1 ic_0 ?_
  refine S_iconst (pc := 2) dX12_isVector_2 ic_3 ?_
  refine S_call_i (pc := 3) (rest := []) (fun q hq => R_S (av := [.int a0, .int (0 : Int32), .int (3 : Int32)]) (M_X12_in _ a0 (0 : Int32) (3 : Int32) h hq) wd_902 wd_900 wd_901 wd_50 hd_X12_in ⟨Nat.le_of_ble_eq_true rfl, Nat.le_of_ble_eq_true rfl⟩ rfl (Nat.le_of_ble_eq_true rfl) dX12_isVector_3) (fun _ h => absurd h List.not_mem_nil) (fun q1 => ?_)
  refine Sim.ite (fun hz2 => ?_) (fun _ => Sim.none)
  exact Sim.fin ⟨dX12_isVector_6, rfl, rfl, x_nar hz2⟩ rfl
theorem M_X12_isVector (l : Launch) (a0 : Int32) (h : xH) {q : Int32 × xH} (hq : f_X12_isVector a0 h = some q) : xM l yX12_isVector cX12_isVector 1 (some .boolean) 1 [.int a0] h (some (.int q.1)) q.2 := xM_z (by decide +kernel) (Nat.le_of_ble_eq_true rfl) (fun K L => W_X12_isVector K L a0 h) hq
theorem dX12_copies_0 : decode cX12_copies 0 = .ok (.iconst 0, 1) := by decide +kernel
theorem dX12_copies_1 : decode cX12_copies 1 = .ok (.istore 4, 2) := by decide +kernel
theorem dX12_copies_3 : decode cX12_copies 3 = .ok (.iload 4, 2) := by decide +kernel
theorem dX12_copies_5 : decode cX12_copies 5 = .ok (.sipush 132, 3) := by decide +kernel
theorem dX12_copies_8 : decode cX12_copies 8 = .ok (.if_icmp .ge 21, 3) := by decide +kernel
theorem dX12_copies_11 : decode cX12_copies 11 = .ok (.aload_n 2, 1) := by decide +kernel
theorem dX12_copies_12 : decode cX12_copies 12 = .ok (.iload_n 3, 1) := by decide +kernel
theorem dX12_copies_13 : decode cX12_copies 13 = .ok (.iload 4, 2) := by decide +kernel
theorem dX12_copies_15 : decode cX12_copies 15 = .ok (.iadd, 1) := by decide +kernel
theorem dX12_copies_16 : decode cX12_copies 16 = .ok (.aload_n 0, 1) := by decide +kernel
theorem dX12_copies_17 : decode cX12_copies 17 = .ok (.iload_n 1, 1) := by decide +kernel
theorem dX12_copies_18 : decode cX12_copies 18 = .ok (.iload 4, 2) := by decide +kernel
theorem dX12_copies_20 : decode cX12_copies 20 = .ok (.iadd, 1) := by decide +kernel
theorem dX12_copies_21 : decode cX12_copies 21 = .ok (.iaload, 1) := by decide +kernel
theorem dX12_copies_22 : decode cX12_copies 22 = .ok (.iastore, 1) := by decide +kernel
theorem dX12_copies_23 : decode cX12_copies 23 = .ok (.iinc 4 1, 3) := by decide +kernel
theorem dX12_copies_26 : decode cX12_copies 26 = .ok (.goto (-23), 3) := by decide +kernel
theorem dX12_copies_29 : decode cX12_copies 29 = .ok (.return_, 1) := by decide +kernel
set_option maxRecDepth 20000 in
set_option maxHeartbeats 4000000 in
theorem L_X12_copies_3 (K : xK) (L : xL) : ∀ (n : Nat) (a0 : Nat) (a1 : Int32) (a2 : Nat) (a3 : Int32) (a4 : Int32) (h : xH), Sim K L cX12_copies RX12 "copies" 5 0 (fun q : Int32 × xH => q.2) (fun q pc' ls' st' h' => pc' = 29 ∧ ls' = [(0, .ref a0), (1, .int a1), (2, .ref a2), (3, .int a3), (4, .int q.1)] ∧ st' = [] ∧ h' = q.2) 3 [(0, .ref a0), (1, .int a1), (2, .ref a2), (3, .int a3), (4, .int a4)] [] h (f_X12_copies_L3 n a0 a1 a2 a3 a4 h) := by
  intro n
  induction n with
  | zero =>
    intro a0 a1 a2 a3 a4 h
    exact Sim.none
  | succ n ih =>
    intro a0 a1 a2 a3 a4 h
    unfold f_X12_copies_L3
    refine S_iload (pc := 3) 4 rfl dX12_copies_3 ?_
    refine S_sipush (pc := 5) dX12_copies_5 si_132 ?_
    refine S_icmp_ge (pc := 8) (tgt := 29) dX12_copies_8 (by decide) ?_ ?_
    · refine S_sub [0, 1, 2, 3, 4] rfl ?_
      exact Sim.fin ⟨rfl, rfl, rfl, rfl⟩ rfl
    · refine S_aload_n (pc := 11) 2 rfl dX12_copies_11 rfl ?_
      refine S_iload_n (pc := 12) 3 rfl dX12_copies_12 rfl ?_
      refine S_iload (pc := 13) 4 rfl dX12_copies_13 ?_
      refine S_iadd (pc := 15) dX12_copies_15 ?_
      refine S_aload_n (pc := 16) 0 rfl dX12_copies_16 rfl ?_
      refine S_iload_n (pc := 17) 1 rfl dX12_copies_17 rfl ?_
      refine S_iload (pc := 18) 4 rfl dX12_copies_18 ?_
      refine S_iadd (pc := 20) dX12_copies_20 ?_
      refine S_aI (pc := 21) dX12_copies_21 (fun v1 => ?_)
      refine S_uI (pc := 22) dX12_copies_22 (fun h2 => ?_)
      refine S_iinc (pc := 23) (v := a4 + (1 : Int32)) 4 rfl dX12_copies_23 (x_inc ic_1) (Nat.le_of_ble_eq_true rfl) rfl ?_
      refine S_goto (pc := 26) (tgt := 3) dX12_copies_26 (by decide) ?_
      refine S_sub [1, 2, 3, 4, 0] rfl ?_
      exact ih a0 a1 a2 a3 (a4 + (1 : Int32)) h2
set_option maxRecDepth 20000 in
set_option maxHeartbeats 4000000 in
theorem W_X12_copies (K : xK) (L : xL) (a0 : Nat) (a1 : Int32) (a2 : Nat) (a3 : Int32) (h : xH) : Sim K L cX12_copies RX12 "copies" 5 0 (fun q : xH => q) (xRv cX12_copies) 0 [(0, .ref a0), (1, .int a1), (2, .ref a2), (3, .int a3)] [] h (f_X12_copies a0 a1 a2 a3 h) := by
  unfold f_X12_copies
  refine S_iconst (pc := 0) dX12_copies_0 ic_0 ?_
  refine S_istore (pc := 1) dX12_copies_1 (Nat.le_of_ble_eq_true rfl) rfl ?_
  refine S_sub [1, 2, 3, 4, 0] rfl ?_
  refine Sim.bind (hs := fun q3 : Int32 × xH => q3.2) (px := 29) (lsx := fun q3 => [(0, .ref a0), (1, .int a1), (2, .ref a2), (3, .int a3), (4, .int q3.1)]) (L_X12_copies_3 K L xN a0 a1 a2 a3 (0 : Int32) h) (fun q3 => ?_)
  exact Sim.fin ⟨dX12_copies_29, rfl, rfl⟩ rfl
theorem M_X12_copies (l : Launch) (a0 : Nat) (a1 : Int32) (a2 : Nat) (a3 : Int32) (h : xH) {q : xH} (hq : f_X12_copies a0 a1 a2 a3 h = some q) : xM l yX12_copies cX12_copies 5 none 0 [.ref a0, .int a1, .ref a2, .int a3] h none q := xM_v (by decide +kernel) (Nat.le_of_ble_eq_true rfl) (fun K L => W_X12_copies K L a0 a1 a2 a3 h) hq
theorem dX12_notes_0 : decode cX12_notes 0 = .ok (.aload_n 0, 1) := by decide +kernel
theorem dX12_notes_1 : decode cX12_notes 1 = .ok (.getfield 173, 3) := by decide +kernel
theorem dX12_notes_4 : decode cX12_notes 4 = .ok (.bipush 12, 2) := by decide +kernel
theorem dX12_notes_6 : decode cX12_notes 6 = .ok (.if_icmp .ne 44, 3) := by decide +kernel
theorem dX12_notes_9 : decode cX12_notes 9 = .ok (.iconst 0, 1) := by decide +kernel
theorem dX12_notes_10 : decode cX12_notes 10 = .ok (.istore_n 1, 1) := by decide +kernel
theorem dX12_notes_11 : decode cX12_notes 11 = .ok (.iload_n 1, 1) := by decide +kernel
theorem dX12_notes_12 : decode cX12_notes 12 = .ok (.sipush 1452, 3) := by decide +kernel
theorem dX12_notes_15 : decode cX12_notes 15 = .ok (.if_icmp .ge 25, 3) := by decide +kernel
theorem dX12_notes_18 : decode cX12_notes 18 = .ok (.aload_n 0, 1) := by decide +kernel
theorem dX12_notes_19 : decode cX12_notes 19 = .ok (.getfield 31, 3) := by decide +kernel
theorem dX12_notes_22 : decode cX12_notes 22 = .ok (.iload_n 1, 1) := by decide +kernel
theorem dX12_notes_23 : decode cX12_notes 23 = .ok (.aload_n 0, 1) := by decide +kernel
theorem dX12_notes_24 : decode cX12_notes 24 = .ok (.getfield 31, 3) := by decide +kernel
theorem dX12_notes_27 : decode cX12_notes 27 = .ok (.iload_n 1, 1) := by decide +kernel
theorem dX12_notes_28 : decode cX12_notes 28 = .ok (.sipush 132, 3) := by decide +kernel
theorem dX12_notes_31 : decode cX12_notes 31 = .ok (.iadd, 1) := by decide +kernel
theorem dX12_notes_32 : decode cX12_notes 32 = .ok (.iaload, 1) := by decide +kernel
theorem dX12_notes_33 : decode cX12_notes 33 = .ok (.iastore, 1) := by decide +kernel
theorem dX12_notes_34 : decode cX12_notes 34 = .ok (.iinc 1 1, 3) := by decide +kernel
theorem dX12_notes_37 : decode cX12_notes 37 = .ok (.goto (-26), 3) := by decide +kernel
theorem dX12_notes_40 : decode cX12_notes 40 = .ok (.aload_n 0, 1) := by decide +kernel
theorem dX12_notes_41 : decode cX12_notes 41 = .ok (.dup, 1) := by decide +kernel
theorem dX12_notes_42 : decode cX12_notes 42 = .ok (.getfield 173, 3) := by decide +kernel
theorem dX12_notes_45 : decode cX12_notes 45 = .ok (.iconst 1, 1) := by decide +kernel
theorem dX12_notes_46 : decode cX12_notes 46 = .ok (.isub, 1) := by decide +kernel
theorem dX12_notes_47 : decode cX12_notes 47 = .ok (.putfield 173, 3) := by decide +kernel
theorem dX12_notes_50 : decode cX12_notes 50 = .ok (.aload_n 0, 1) := by decide +kernel
theorem dX12_notes_51 : decode cX12_notes 51 = .ok (.getfield 25, 3) := by decide +kernel
theorem dX12_notes_54 : decode cX12_notes 54 = .ok (.iconst 0, 1) := by decide +kernel
theorem dX12_notes_55 : decode cX12_notes 55 = .ok (.aload_n 0, 1) := by decide +kernel
theorem dX12_notes_56 : decode cX12_notes 56 = .ok (.getfield 31, 3) := by decide +kernel
theorem dX12_notes_59 : decode cX12_notes 59 = .ok (.sipush 132, 3) := by decide +kernel
theorem dX12_notes_62 : decode cX12_notes 62 = .ok (.aload_n 0, 1) := by decide +kernel
theorem dX12_notes_63 : decode cX12_notes 63 = .ok (.getfield 173, 3) := by decide +kernel
theorem dX12_notes_66 : decode cX12_notes 66 = .ok (.imul, 1) := by decide +kernel
theorem dX12_notes_67 : decode cX12_notes 67 = .ok (.invokestatic 176, 3) := by decide +kernel
theorem dX12_notes_70 : decode cX12_notes 70 = .ok (.aload_n 0, 1) := by decide +kernel
theorem dX12_notes_71 : decode cX12_notes 71 = .ok (.dup, 1) := by decide +kernel
theorem dX12_notes_72 : decode cX12_notes 72 = .ok (.getfield 173, 3) := by decide +kernel
theorem dX12_notes_75 : decode cX12_notes 75 = .ok (.iconst 1, 1) := by decide +kernel
theorem dX12_notes_76 : decode cX12_notes 76 = .ok (.iadd, 1) := by decide +kernel
theorem dX12_notes_77 : decode cX12_notes 77 = .ok (.putfield 173, 3) := by decide +kernel
theorem dX12_notes_80 : decode cX12_notes 80 = .ok (.return_, 1) := by decide +kernel
set_option maxRecDepth 20000 in
set_option maxHeartbeats 4000000 in
theorem L_X12_notes_11 (K : xK) (L : xL) : ∀ (n : Nat) (a0 : Nat) (a1 : Int32) (h : xH), Sim K L cX12_notes RX12 "notes" 2 1 (fun q : Int32 × xH => q.2) (fun q pc' ls' st' h' => pc' = 40 ∧ ls' = [(0, .ref a0), (1, .int q.1)] ∧ st' = [] ∧ h' = q.2) 11 [(0, .ref a0), (1, .int a1)] [] h (f_X12_notes_L11 n a0 a1 h) := by
  intro n
  induction n with
  | zero =>
    intro a0 a1 h
    exact Sim.none
  | succ n ih =>
    intro a0 a1 h
    unfold f_X12_notes_L11
    refine S_iload_n (pc := 11) 1 rfl dX12_notes_11 rfl ?_
    refine S_sipush (pc := 12) dX12_notes_12 si_1452 ?_
    refine S_icmp_ge (pc := 15) (tgt := 40) dX12_notes_15 (by decide) ?_ ?_
    · refine S_sub [0, 1] rfl ?_
      exact Sim.fin ⟨rfl, rfl, rfl, rfl⟩ rfl
    · refine S_aload_n (pc := 18) 0 rfl dX12_notes_18 rfl ?_
      refine S_getR (pc := 19) fd_X12_past wd_823 dX12_notes_19 (fun v2 => ?_)
      refine S_iload_n (pc := 22) 1 rfl dX12_notes_22 rfl ?_
      refine S_aload_n (pc := 23) 0 rfl dX12_notes_23 rfl ?_
      refine S_getR (pc := 24) fd_X12_past wd_823 dX12_notes_24 (fun v3 => ?_)
      refine S_iload_n (pc := 27) 1 rfl dX12_notes_27 rfl ?_
      refine S_sipush (pc := 28) dX12_notes_28 si_132 ?_
      refine S_iadd (pc := 31) dX12_notes_31 ?_
      refine S_aI (pc := 32) dX12_notes_32 (fun v4 => ?_)
      refine S_uI (pc := 33) dX12_notes_33 (fun h5 => ?_)
      refine S_iinc (pc := 34) (v := a1 + (1 : Int32)) 1 rfl dX12_notes_34 (x_inc ic_1) (Nat.le_of_ble_eq_true rfl) rfl ?_
      refine S_goto (pc := 37) (tgt := 11) dX12_notes_37 (by decide) ?_
      refine S_sub [1, 0] rfl ?_
      exact ih a0 (a1 + (1 : Int32)) h5
set_option maxRecDepth 20000 in
set_option maxHeartbeats 4000000 in
theorem W_X12_notes (K : xK) (L : xL) (a0 : Nat) (h : xH) : Sim K L cX12_notes RX12 "notes" 2 1 (fun q : xH => q) (xRv cX12_notes) 0 [(0, .ref a0)] [] h (f_X12_notes a0 h) := by
  unfold f_X12_notes
  refine S_aload_n (pc := 0) 0 rfl dX12_notes_0 rfl ?_
  refine S_getI (pc := 1) fd_X12_acts wd_824 dX12_notes_1 (fun v1 => ?_)
  refine S_bipush (pc := 4) dX12_notes_4 bi_12 ?_
  refine S_icmp_ne (pc := 6) (tgt := 50) dX12_notes_6 (by decide) ?_ ?_
  · refine S_iconst (pc := 9) dX12_notes_9 ic_0 ?_
    refine S_istore_n (pc := 10) dX12_notes_10 rfl (Nat.le_of_ble_eq_true rfl) rfl ?_
    refine S_sub [1, 0] rfl ?_
    refine Sim.bind (hs := fun q6 : Int32 × xH => q6.2) (px := 40) (lsx := fun q6 => [(0, .ref a0), (1, .int q6.1)]) (L_X12_notes_11 K L xN a0 (0 : Int32) h) (fun q6 => ?_)
    refine S_aload_n (pc := 40) 0 rfl dX12_notes_40 rfl ?_
    refine S_dup (pc := 41) rfl dX12_notes_41 ?_
    refine S_getI (pc := 42) fd_X12_acts wd_824 dX12_notes_42 (fun v7 => ?_)
    refine S_iconst (pc := 45) dX12_notes_45 ic_1 ?_
    refine S_isub (pc := 46) dX12_notes_46 ?_
    refine S_putI (pc := 47) fd_X12_acts wd_824 rfl rfl dX12_notes_47 (fun h8 => ?_)
    refine S_aload_n (pc := 50) 0 rfl dX12_notes_50 rfl ?_
    refine S_getR (pc := 51) fd_X12_now wd_821 dX12_notes_51 (fun v9 => ?_)
    refine S_iconst (pc := 54) dX12_notes_54 ic_0 ?_
    refine S_aload_n (pc := 55) 0 rfl dX12_notes_55 rfl ?_
    refine S_getR (pc := 56) fd_X12_past wd_823 dX12_notes_56 (fun v10 => ?_)
    refine S_sipush (pc := 59) dX12_notes_59 si_132 ?_
    refine S_aload_n (pc := 62) 0 rfl dX12_notes_62 rfl ?_
    refine S_getI (pc := 63) fd_X12_acts wd_824 dX12_notes_63 (fun v11 => ?_)
    refine S_imul (pc := 66) dX12_notes_66 ?_
    refine S_call_v (pc := 67) (rest := []) (fun q hq => R_S (av := [.ref v9, .int (0 : Int32), .ref v10, .int ((132 : Int32) * v11)]) (M_X12_copies _ v9 (0 : Int32) v10 ((132 : Int32) * v11) h8 hq) wd_982 wd_980 wd_981 wd_50 hd_X12_copies ⟨Nat.le_of_ble_eq_true rfl, Nat.le_of_ble_eq_true rfl⟩ rfl (Nat.le_of_ble_eq_true rfl) dX12_notes_67) (fun _ h => absurd h List.not_mem_nil) (fun q12 => ?_)
    refine S_aload_n (pc := 70) 0 rfl dX12_notes_70 rfl ?_
    refine S_dup (pc := 71) rfl dX12_notes_71 ?_
    refine S_getI (pc := 72) fd_X12_acts wd_824 dX12_notes_72 (fun v13 => ?_)
    refine S_iconst (pc := 75) dX12_notes_75 ic_1 ?_
    refine S_iadd (pc := 76) dX12_notes_76 ?_
    refine S_putI (pc := 77) fd_X12_acts wd_824 rfl rfl dX12_notes_77 (fun h14 => ?_)
    exact Sim.fin ⟨dX12_notes_80, rfl, rfl⟩ rfl
  · refine S_aload_n (pc := 50) 0 rfl dX12_notes_50 rfl ?_
    refine S_getR (pc := 51) fd_X12_now wd_821 dX12_notes_51 (fun v15 => ?_)
    refine S_iconst (pc := 54) dX12_notes_54 ic_0 ?_
    refine S_aload_n (pc := 55) 0 rfl dX12_notes_55 rfl ?_
    refine S_getR (pc := 56) fd_X12_past wd_823 dX12_notes_56 (fun v16 => ?_)
    refine S_sipush (pc := 59) dX12_notes_59 si_132 ?_
    refine S_aload_n (pc := 62) 0 rfl dX12_notes_62 rfl ?_
    refine S_getI (pc := 63) fd_X12_acts wd_824 dX12_notes_63 (fun v17 => ?_)
    refine S_imul (pc := 66) dX12_notes_66 ?_
    refine S_call_v (pc := 67) (rest := []) (fun q hq => R_S (av := [.ref v15, .int (0 : Int32), .ref v16, .int ((132 : Int32) * v17)]) (M_X12_copies _ v15 (0 : Int32) v16 ((132 : Int32) * v17) h hq) wd_982 wd_980 wd_981 wd_50 hd_X12_copies ⟨Nat.le_of_ble_eq_true rfl, Nat.le_of_ble_eq_true rfl⟩ rfl (Nat.le_of_ble_eq_true rfl) dX12_notes_67) (fun _ h => absurd h List.not_mem_nil) (fun q18 => ?_)
    refine S_aload_n (pc := 70) 0 rfl dX12_notes_70 rfl ?_
    refine S_dup (pc := 71) rfl dX12_notes_71 ?_
    refine S_getI (pc := 72) fd_X12_acts wd_824 dX12_notes_72 (fun v19 => ?_)
    refine S_iconst (pc := 75) dX12_notes_75 ic_1 ?_
    refine S_iadd (pc := 76) dX12_notes_76 ?_
    refine S_putI (pc := 77) fd_X12_acts wd_824 rfl rfl dX12_notes_77 (fun h20 => ?_)
    exact Sim.fin ⟨dX12_notes_80, rfl, rfl⟩ rfl
theorem M_X12_notes (l : Launch) (a0 : Nat) (h : xH) {q : xH} (hq : f_X12_notes a0 h = some q) : xM l yX12_notes cX12_notes 2 none 1 [.ref a0] h none q := xM_v (by decide +kernel) (Nat.le_of_ble_eq_true rfl) (fun K L => W_X12_notes K L a0 h) hq
theorem dX12_add_0 : decode cX12_add 0 = .ok (.iload_n 1, 1) := by decide +kernel
theorem dX12_add_1 : decode cX12_add 1 = .ok (.invokestatic 130, 3) := by decide +kernel
theorem dX12_add_4 : decode cX12_add 4 = .ok (.ifCond .eq 21, 3) := by decide +kernel
theorem dX12_add_7 : decode cX12_add 7 = .ok (.iload_n 2, 1) := by decide +kernel
theorem dX12_add_8 : decode cX12_add 8 = .ok (.invokestatic 184, 3) := by decide +kernel
theorem dX12_add_11 : decode cX12_add 11 = .ok (.ifCond .eq 14, 3) := by decide +kernel
theorem dX12_add_14 : decode cX12_add 14 = .ok (.iload_n 3, 1) := by decide +kernel
theorem dX12_add_15 : decode cX12_add 15 = .ok (.iconst 1, 1) := by decide +kernel
theorem dX12_add_16 : decode cX12_add 16 = .ok (.sipush 480, 3) := by decide +kernel
theorem dX12_add_19 : decode cX12_add 19 = .ok (.invokestatic 65, 3) := by decide +kernel
theorem dX12_add_22 : decode cX12_add 22 = .ok (.ifCond .ne 6, 3) := by decide +kernel
theorem dX12_add_25 : decode cX12_add 25 = .ok (.ldc 73, 2) := by decide +kernel
theorem dX12_add_27 : decode cX12_add 27 = .ok (.ireturn, 1) := by decide +kernel
theorem dX12_add_28 : decode cX12_add 28 = .ok (.aload_n 0, 1) := by decide +kernel
theorem dX12_add_29 : decode cX12_add 29 = .ok (.iload_n 1, 1) := by decide +kernel
theorem dX12_add_30 : decode cX12_add 30 = .ok (.invokevirtual 167, 3) := by decide +kernel
theorem dX12_add_33 : decode cX12_add 33 = .ok (.iload_n 3, 1) := by decide +kernel
theorem dX12_add_34 : decode cX12_add 34 = .ok (.iadd, 1) := by decide +kernel
theorem dX12_add_35 : decode cX12_add 35 = .ok (.sipush 480, 3) := by decide +kernel
theorem dX12_add_38 : decode cX12_add 38 = .ok (.if_icmp .le 6, 3) := by decide +kernel
theorem dX12_add_41 : decode cX12_add 41 = .ok (.ldc 94, 2) := by decide +kernel
theorem dX12_add_43 : decode cX12_add 43 = .ok (.ireturn, 1) := by decide +kernel
theorem dX12_add_44 : decode cX12_add 44 = .ok (.aload_n 0, 1) := by decide +kernel
theorem dX12_add_45 : decode cX12_add 45 = .ok (.invokevirtual 143, 3) := by decide +kernel
theorem dX12_add_48 : decode cX12_add 48 = .ok (.iconst 0, 1) := by decide +kernel
theorem dX12_add_49 : decode cX12_add 49 = .ok (.istore 4, 2) := by decide +kernel
theorem dX12_add_51 : decode cX12_add 51 = .ok (.iload 4, 2) := by decide +kernel
theorem dX12_add_53 : decode cX12_add 53 = .ok (.iload_n 3, 1) := by decide +kernel
theorem dX12_add_54 : decode cX12_add 54 = .ok (.if_icmp .ge 15, 3) := by decide +kernel
theorem dX12_add_57 : decode cX12_add 57 = .ok (.aload_n 0, 1) := by decide +kernel
theorem dX12_add_58 : decode cX12_add 58 = .ok (.iload_n 1, 1) := by decide +kernel
theorem dX12_add_59 : decode cX12_add 59 = .ok (.iload_n 2, 1) := by decide +kernel
theorem dX12_add_60 : decode cX12_add 60 = .ok (.invokevirtual 156, 3) := by decide +kernel
theorem dX12_add_63 : decode cX12_add 63 = .ok (.iinc 4 1, 3) := by decide +kernel
theorem dX12_add_66 : decode cX12_add 66 = .ok (.goto (-15), 3) := by decide +kernel
theorem dX12_add_69 : decode cX12_add 69 = .ok (.aload_n 0, 1) := by decide +kernel
theorem dX12_add_70 : decode cX12_add 70 = .ok (.iload_n 1, 1) := by decide +kernel
theorem dX12_add_71 : decode cX12_add 71 = .ok (.invokevirtual 167, 3) := by decide +kernel
theorem dX12_add_74 : decode cX12_add 74 = .ok (.ireturn, 1) := by decide +kernel
set_option maxRecDepth 20000 in
set_option maxHeartbeats 4000000 in
theorem L_X12_add_51 (K : xK) (L : xL) : ∀ (n : Nat) (a0 : Nat) (a1 : Int32) (a2 : Int32) (a3 : Int32) (a4 : Int32) (h : xH), Sim K L cX12_add RX12 "add" 5 2 (fun q : Int32 × xH => q.2) (fun q pc' ls' st' h' => pc' = 69 ∧ ls' = [(0, .ref a0), (1, .int a1), (2, .int a2), (3, .int a3), (4, .int q.1)] ∧ st' = [] ∧ h' = q.2) 51 [(0, .ref a0), (1, .int a1), (2, .int a2), (3, .int a3), (4, .int a4)] [] h (f_X12_add_L51 n a0 a1 a2 a3 a4 h) := by
  intro n
  induction n with
  | zero =>
    intro a0 a1 a2 a3 a4 h
    exact Sim.none
  | succ n ih =>
    intro a0 a1 a2 a3 a4 h
    unfold f_X12_add_L51
    refine S_iload (pc := 51) 4 rfl dX12_add_51 ?_
    refine S_iload_n (pc := 53) 3 rfl dX12_add_53 rfl ?_
    refine S_icmp_ge (pc := 54) (tgt := 69) dX12_add_54 (by decide) ?_ ?_
    · refine S_sub [0, 1, 2, 3, 4] rfl ?_
      exact Sim.fin ⟨rfl, rfl, rfl, rfl⟩ rfl
    · refine S_aload_n (pc := 57) 0 rfl dX12_add_57 rfl ?_
      refine S_iload_n (pc := 58) 1 rfl dX12_add_58 rfl ?_
      refine S_iload_n (pc := 59) 2 rfl dX12_add_59 rfl ?_
      refine S_call_v (pc := 60) (rest := []) (fun q hq => (x_if hq).elim (fun z => R_V (av := [.int a1, .int a2]) (q := (RX12, TX12, 28)) (M_X12_appends _ a0 a1 a2 h z.2) z.1 rfl wd_993 wd_990 wd_992 wd_50 wd_26 ⟨rfl, hd_X12_appends⟩ ⟨Nat.le_of_ble_eq_true rfl, Nat.le_of_ble_eq_true rfl⟩ rfl (Nat.le_of_ble_eq_true rfl) dX12_add_60) (fun hq => (by cases hq))) (fun _ h => absurd h List.not_mem_nil) (fun q6 => ?_)
      refine S_iinc (pc := 63) (v := a4 + (1 : Int32)) 4 rfl dX12_add_63 (x_inc ic_1) (Nat.le_of_ble_eq_true rfl) rfl ?_
      refine S_goto (pc := 66) (tgt := 51) dX12_add_66 (by decide) ?_
      refine S_sub [1, 2, 3, 4, 0] rfl ?_
      exact ih a0 a1 a2 a3 (a4 + (1 : Int32)) q6
set_option maxRecDepth 20000 in
set_option maxHeartbeats 4000000 in
theorem W_X12_add (K : xK) (L : xL) (a0 : Nat) (a1 : Int32) (a2 : Int32) (a3 : Int32) (h : xH) : Sim K L cX12_add RX12 "add" 5 2 (fun q : Int32 × xH => q.2) (xRi cX12_add) 0 [(0, .ref a0), (1, .int a1), (2, .int a2), (3, .int a3)] [] h (f_X12_add a0 a1 a2 a3 h) := by
  unfold f_X12_add
  refine S_iload_n (pc := 0) 1 rfl dX12_add_0 rfl ?_
  refine S_call_i (pc := 1) (rest := []) (fun q hq => R_S (av := [.int a1]) (M_X12_isVector _ a1 h hq) wd_947 wd_945 wd_946 wd_50 hd_X12_isVector ⟨Nat.le_of_ble_eq_true rfl, Nat.le_of_ble_eq_true rfl⟩ rfl (Nat.le_of_ble_eq_true rfl) dX12_add_1) (fun _ h => absurd h List.not_mem_nil) (fun q1 => ?_)
  refine S_if_eq (pc := 4) (tgt := 25) dX12_add_4 (by decide) ?_ ?_
  · refine S_ldc (pc := 25) wd_903 dX12_add_25 ?_
    exact Sim.fin ⟨dX12_add_27, rfl, rfl⟩ rfl
  · refine S_iload_n (pc := 7) 2 rfl dX12_add_7 rfl ?_
    refine S_call_i (pc := 8) (rest := []) (fun q hq => R_S (av := [.int a2]) (M_X12_isValue _ a2 q1.2 hq) wd_1015 wd_1013 wd_1014 wd_50 hd_X12_isValue ⟨Nat.le_of_ble_eq_true rfl, Nat.le_of_ble_eq_true rfl⟩ rfl (Nat.le_of_ble_eq_true rfl) dX12_add_8) (fun _ h => absurd h List.not_mem_nil) (fun q2 => ?_)
    refine S_if_eq (pc := 11) (tgt := 25) dX12_add_11 (by decide) ?_ ?_
    · refine S_ldc (pc := 25) wd_903 dX12_add_25 ?_
      exact Sim.fin ⟨dX12_add_27, rfl, rfl⟩ rfl
    · refine S_iload_n (pc := 14) 3 rfl dX12_add_14 rfl ?_
      refine S_iconst (pc := 15) dX12_add_15 ic_1 ?_
      refine S_sipush (pc := 16) dX12_add_16 si_480 ?_
      refine S_call_i (pc := 19) (rest := []) (fun q hq => R_S (av := [.int a3, .int (1 : Int32), .int (480 : Int32)]) (M_X12_in _ a3 (1 : Int32) (480 : Int32) q2.2 hq) wd_902 wd_900 wd_901 wd_50 hd_X12_in ⟨Nat.le_of_ble_eq_true rfl, Nat.le_of_ble_eq_true rfl⟩ rfl (Nat.le_of_ble_eq_true rfl) dX12_add_19) (fun _ h => absurd h List.not_mem_nil) (fun q3 => ?_)
      refine S_if_ne (pc := 22) (tgt := 28) dX12_add_22 (by decide) ?_ ?_
      · refine S_ldc (pc := 25) wd_903 dX12_add_25 ?_
        exact Sim.fin ⟨dX12_add_27, rfl, rfl⟩ rfl
      · refine S_aload_n (pc := 28) 0 rfl dX12_add_28 rfl ?_
        refine S_iload_n (pc := 29) 1 rfl dX12_add_29 rfl ?_
        refine S_call_i (pc := 30) (rest := []) (fun q hq => (x_if hq).elim (fun z => R_V (av := [.int a1]) (q := (RX12, TX12, 28)) (M_X12_bitsOf _ a0 a1 q3.2 z.2) z.1 rfl wd_1012 wd_1009 wd_1011 wd_50 wd_28 ⟨rfl, hd_X12_bitsOf⟩ ⟨Nat.le_of_ble_eq_true rfl, Nat.le_of_ble_eq_true rfl⟩ rfl (Nat.le_of_ble_eq_true rfl) dX12_add_30) (fun hq => (by cases hq))) (fun _ h => absurd h List.not_mem_nil) (fun q4 => ?_)
        refine S_iload_n (pc := 33) 3 rfl dX12_add_33 rfl ?_
        refine S_iadd (pc := 34) dX12_add_34 ?_
        refine S_sipush (pc := 35) dX12_add_35 si_480 ?_
        refine S_icmp_le (pc := 38) (tgt := 44) dX12_add_38 (by decide) ?_ ?_
        · refine S_aload_n (pc := 44) 0 rfl dX12_add_44 rfl ?_
          refine S_call_v (pc := 45) (rest := []) (fun q hq => (x_if hq).elim (fun z => R_V (av := []) (q := (RX12, TX12, 28)) (M_X12_notes _ a0 q4.2 z.2) z.1 rfl wd_979 wd_976 wd_978 wd_50 wd_24 ⟨rfl, hd_X12_notes⟩ ⟨Nat.le_of_ble_eq_true rfl, Nat.le_of_ble_eq_true rfl⟩ rfl (Nat.le_of_ble_eq_true rfl) dX12_add_45) (fun hq => (by cases hq))) (fun _ h => absurd h List.not_mem_nil) (fun q5 => ?_)
          refine S_iconst (pc := 48) dX12_add_48 ic_0 ?_
          refine S_istore (pc := 49) dX12_add_49 (Nat.le_of_ble_eq_true rfl) rfl ?_
          refine S_sub [1, 2, 3, 4, 0] rfl ?_
          refine Sim.bind (hs := fun q7 : Int32 × xH => q7.2) (px := 69) (lsx := fun q7 => [(0, .ref a0), (1, .int a1), (2, .int a2), (3, .int a3), (4, .int q7.1)]) (L_X12_add_51 K L xN a0 a1 a2 a3 (0 : Int32) q5) (fun q7 => ?_)
          refine S_aload_n (pc := 69) 0 rfl dX12_add_69 rfl ?_
          refine S_iload_n (pc := 70) 1 rfl dX12_add_70 rfl ?_
          refine S_call_i (pc := 71) (rest := []) (fun q hq => (x_if hq).elim (fun z => R_V (av := [.int a1]) (q := (RX12, TX12, 28)) (M_X12_bitsOf _ a0 a1 q7.2 z.2) z.1 rfl wd_1012 wd_1009 wd_1011 wd_50 wd_28 ⟨rfl, hd_X12_bitsOf⟩ ⟨Nat.le_of_ble_eq_true rfl, Nat.le_of_ble_eq_true rfl⟩ rfl (Nat.le_of_ble_eq_true rfl) dX12_add_71) (fun hq => (by cases hq))) (fun _ h => absurd h List.not_mem_nil) (fun q8 => ?_)
          exact Sim.fin ⟨dX12_add_74, rfl, rfl⟩ rfl
        · refine S_ldc (pc := 41) wd_940 dX12_add_41 ?_
          exact Sim.fin ⟨dX12_add_43, rfl, rfl⟩ rfl
theorem M_X12_add (l : Launch) (a0 : Nat) (a1 : Int32) (a2 : Int32) (a3 : Int32) (h : xH) {q : Int32 × xH} (hq : f_X12_add a0 a1 a2 a3 h = some q) : xM l yX12_add cX12_add 5 (some .int) 2 [.ref a0, .int a1, .int a2, .int a3] h (some (.int q.1)) q.2 := xM_i (by decide +kernel) (Nat.le_of_ble_eq_true rfl) (fun K L => W_X12_add K L a0 a1 a2 a3 h) hq
theorem dX12_byteAt_0 : decode cX12_byteAt 0 = .ok (.iload_n 1, 1) := by decide +kernel
theorem dX12_byteAt_1 : decode cX12_byteAt 1 = .ok (.aload_n 0, 1) := by decide +kernel
theorem dX12_byteAt_2 : decode cX12_byteAt 2 = .ok (.getfield 91, 3) := by decide +kernel
theorem dX12_byteAt_5 : decode cX12_byteAt 5 = .ok (.if_icmp .ge 12, 3) := by decide +kernel
theorem dX12_byteAt_8 : decode cX12_byteAt 8 = .ok (.aload_n 0, 1) := by decide +kernel
theorem dX12_byteAt_9 : decode cX12_byteAt 9 = .ok (.getfield 22, 3) := by decide +kernel
theorem dX12_byteAt_12 : decode cX12_byteAt 12 = .ok (.iload_n 1, 1) := by decide +kernel
theorem dX12_byteAt_13 : decode cX12_byteAt 13 = .ok (.iaload, 1) := by decide +kernel
theorem dX12_byteAt_14 : decode cX12_byteAt 14 = .ok (.goto 4, 3) := by decide +kernel
theorem dX12_byteAt_17 : decode cX12_byteAt 17 = .ok (.iconst (-1), 1) := by decide +kernel
theorem dX12_byteAt_18 : decode cX12_byteAt 18 = .ok (.ireturn, 1) := by decide +kernel
set_option maxRecDepth 20000 in
set_option maxHeartbeats 4000000 in
theorem W_X12_byteAt (K : xK) (L : xL) (a0 : Nat) (a1 : Int32) (h : xH) : Sim K L cX12_byteAt RX12 "byteAt" 2 0 (fun q : Int32 × xH => q.2) (xRi cX12_byteAt) 0 [(0, .ref a0), (1, .int a1)] [] h (f_X12_byteAt a0 a1 h) := by
  unfold f_X12_byteAt
  refine S_iload_n (pc := 0) 1 rfl dX12_byteAt_0 rfl ?_
  refine S_aload_n (pc := 1) 0 rfl dX12_byteAt_1 rfl ?_
  refine S_getI (pc := 2) fd_X12_taped wd_814 dX12_byteAt_2 (fun v1 => ?_)
  refine S_icmp_ge (pc := 5) (tgt := 17) dX12_byteAt_5 (by decide) ?_ ?_
  · refine S_iconst (pc := 17) dX12_byteAt_17 ic_m1 ?_
    exact Sim.fin ⟨dX12_byteAt_18, rfl, rfl⟩ rfl
  · refine S_aload_n (pc := 8) 0 rfl dX12_byteAt_8 rfl ?_
    refine S_getR (pc := 9) fd_X12_tape wd_813 dX12_byteAt_9 (fun v2 => ?_)
    refine S_iload_n (pc := 12) 1 rfl dX12_byteAt_12 rfl ?_
    refine S_aI (pc := 13) dX12_byteAt_13 (fun v3 => ?_)
    refine S_goto (pc := 14) (tgt := 18) dX12_byteAt_14 (by decide) ?_
    exact Sim.fin ⟨dX12_byteAt_18, rfl, rfl⟩ rfl
theorem M_X12_byteAt (l : Launch) (a0 : Nat) (a1 : Int32) (h : xH) {q : Int32 × xH} (hq : f_X12_byteAt a0 a1 h = some q) : xM l yX12_byteAt cX12_byteAt 2 (some .int) 0 [.ref a0, .int a1] h (some (.int q.1)) q.2 := xM_i (by decide +kernel) (Nat.le_of_ble_eq_true rfl) (fun K L => W_X12_byteAt K L a0 a1 h) hq
theorem dX12_advances_0 : decode cX12_advances 0 = .ok (.aload_n 0, 1) := by decide +kernel
theorem dX12_advances_1 : decode cX12_advances 1 = .ok (.aload_n 0, 1) := by decide +kernel
theorem dX12_advances_2 : decode cX12_advances 2 = .ok (.getfield 95, 3) := by decide +kernel
theorem dX12_advances_5 : decode cX12_advances 5 = .ok (.putfield 98, 3) := by decide +kernel
theorem dX12_advances_8 : decode cX12_advances 8 = .ok (.aload_n 0, 1) := by decide +kernel
theorem dX12_advances_9 : decode cX12_advances 9 = .ok (.aload_n 0, 1) := by decide +kernel
theorem dX12_advances_10 : decode cX12_advances 10 = .ok (.getfield 95, 3) := by decide +kernel
theorem dX12_advances_13 : decode cX12_advances 13 = .ok (.invokevirtual 101, 3) := by decide +kernel
theorem dX12_advances_16 : decode cX12_advances 16 = .ok (.istore_n 1, 1) := by decide +kernel
theorem dX12_advances_17 : decode cX12_advances 17 = .ok (.aload_n 0, 1) := by decide +kernel
theorem dX12_advances_18 : decode cX12_advances 18 = .ok (.iload_n 1, 1) := by decide +kernel
theorem dX12_advances_19 : decode cX12_advances 19 = .ok (.putfield 104, 3) := by decide +kernel
theorem dX12_advances_22 : decode cX12_advances 22 = .ok (.iload_n 1, 1) := by decide +kernel
theorem dX12_advances_23 : decode cX12_advances 23 = .ok (.bipush 48, 2) := by decide +kernel
theorem dX12_advances_25 : decode cX12_advances 25 = .ok (.bipush 57, 2) := by decide +kernel
theorem dX12_advances_27 : decode cX12_advances 27 = .ok (.invokestatic 65, 3) := by decide +kernel
theorem dX12_advances_30 : decode cX12_advances 30 = .ok (.ifCond .eq 105, 3) := by decide +kernel
theorem dX12_advances_33 : decode cX12_advances 33 = .ok (.aload_n 0, 1) := by decide +kernel
theorem dX12_advances_34 : decode cX12_advances 34 = .ok (.iconst 0, 1) := by decide +kernel
theorem dX12_advances_35 : decode cX12_advances 35 = .ok (.putfield 104, 3) := by decide +kernel
theorem dX12_advances_38 : decode cX12_advances 38 = .ok (.aload_n 0, 1) := by decide +kernel
theorem dX12_advances_39 : decode cX12_advances 39 = .ok (.aload_n 0, 1) := by decide +kernel
theorem dX12_advances_40 : decode cX12_advances 40 = .ok (.getfield 95, 3) := by decide +kernel
theorem dX12_advances_43 : decode cX12_advances 43 = .ok (.invokevirtual 101, 3) := by decide +kernel
theorem dX12_advances_46 : decode cX12_advances 46 = .ok (.bipush 48, 2) := by decide +kernel
theorem dX12_advances_48 : decode cX12_advances 48 = .ok (.bipush 57, 2) := by decide +kernel
theorem dX12_advances_50 : decode cX12_advances 50 = .ok (.invokestatic 65, 3) := by decide +kernel
theorem dX12_advances_53 : decode cX12_advances 53 = .ok (.ifCond .eq 59, 3) := by decide +kernel
theorem dX12_advances_56 : decode cX12_advances 56 = .ok (.aload_n 0, 1) := by decide +kernel
theorem dX12_advances_57 : decode cX12_advances 57 = .ok (.aload_n 0, 1) := by decide +kernel
theorem dX12_advances_58 : decode cX12_advances 58 = .ok (.getfield 95, 3) := by decide +kernel
theorem dX12_advances_61 : decode cX12_advances 61 = .ok (.aload_n 0, 1) := by decide +kernel
theorem dX12_advances_62 : decode cX12_advances 62 = .ok (.getfield 98, 3) := by decide +kernel
theorem dX12_advances_65 : decode cX12_advances 65 = .ok (.isub, 1) := by decide +kernel
theorem dX12_advances_66 : decode cX12_advances 66 = .ok (.iconst 2, 1) := by decide +kernel
theorem dX12_advances_67 : decode cX12_advances 67 = .ok (.if_icmp .ge 25, 3) := by decide +kernel
theorem dX12_advances_70 : decode cX12_advances 70 = .ok (.bipush 10, 2) := by decide +kernel
theorem dX12_advances_72 : decode cX12_advances 72 = .ok (.aload_n 0, 1) := by decide +kernel
theorem dX12_advances_73 : decode cX12_advances 73 = .ok (.getfield 104, 3) := by decide +kernel
theorem dX12_advances_76 : decode cX12_advances 76 = .ok (.imul, 1) := by decide +kernel
theorem dX12_advances_77 : decode cX12_advances 77 = .ok (.aload_n 0, 1) := by decide +kernel
theorem dX12_advances_78 : decode cX12_advances 78 = .ok (.aload_n 0, 1) := by decide +kernel
theorem dX12_advances_79 : decode cX12_advances 79 = .ok (.getfield 95, 3) := by decide +kernel
theorem dX12_advances_82 : decode cX12_advances 82 = .ok (.invokevirtual 101, 3) := by decide +kernel
theorem dX12_advances_85 : decode cX12_advances 85 = .ok (.iadd, 1) := by decide +kernel
theorem dX12_advances_86 : decode cX12_advances 86 = .ok (.bipush 48, 2) := by decide +kernel
theorem dX12_advances_88 : decode cX12_advances 88 = .ok (.isub, 1) := by decide +kernel
theorem dX12_advances_89 : decode cX12_advances 89 = .ok (.goto 7, 3) := by decide +kernel
theorem dX12_advances_92 : decode cX12_advances 92 = .ok (.aload_n 0, 1) := by decide +kernel
theorem dX12_advances_93 : decode cX12_advances 93 = .ok (.getfield 104, 3) := by decide +kernel
theorem dX12_advances_96 : decode cX12_advances 96 = .ok (.putfield 104, 3) := by decide +kernel
theorem dX12_advances_99 : decode cX12_advances 99 = .ok (.aload_n 0, 1) := by decide +kernel
theorem dX12_advances_100 : decode cX12_advances 100 = .ok (.dup, 1) := by decide +kernel
theorem dX12_advances_101 : decode cX12_advances 101 = .ok (.getfield 95, 3) := by decide +kernel
theorem dX12_advances_104 : decode cX12_advances 104 = .ok (.iconst 1, 1) := by decide +kernel
theorem dX12_advances_105 : decode cX12_advances 105 = .ok (.iadd, 1) := by decide +kernel
theorem dX12_advances_106 : decode cX12_advances 106 = .ok (.putfield 95, 3) := by decide +kernel
theorem dX12_advances_109 : decode cX12_advances 109 = .ok (.goto (-71), 3) := by decide +kernel
theorem dX12_advances_112 : decode cX12_advances 112 = .ok (.aload_n 0, 1) := by decide +kernel
theorem dX12_advances_113 : decode cX12_advances 113 = .ok (.aload_n 0, 1) := by decide +kernel
theorem dX12_advances_114 : decode cX12_advances 114 = .ok (.getfield 95, 3) := by decide +kernel
theorem dX12_advances_117 : decode cX12_advances 117 = .ok (.aload_n 0, 1) := by decide +kernel
theorem dX12_advances_118 : decode cX12_advances 118 = .ok (.getfield 98, 3) := by decide +kernel
theorem dX12_advances_121 : decode cX12_advances 121 = .ok (.isub, 1) := by decide +kernel
theorem dX12_advances_122 : decode cX12_advances 122 = .ok (.iconst 3, 1) := by decide +kernel
theorem dX12_advances_123 : decode cX12_advances 123 = .ok (.if_icmp .ge 7, 3) := by decide +kernel
theorem dX12_advances_126 : decode cX12_advances 126 = .ok (.iconst 2, 1) := by decide +kernel
theorem dX12_advances_127 : decode cX12_advances 127 = .ok (.goto 4, 3) := by decide +kernel
theorem dX12_advances_130 : decode cX12_advances 130 = .ok (.iconst 5, 1) := by decide +kernel
theorem dX12_advances_131 : decode cX12_advances 131 = .ok (.putfield 107, 3) := by decide +kernel
theorem dX12_advances_134 : decode cX12_advances 134 = .ok (.return_, 1) := by decide +kernel
theorem dX12_advances_135 : decode cX12_advances 135 = .ok (.aload_n 0, 1) := by decide +kernel
theorem dX12_advances_136 : decode cX12_advances 136 = .ok (.iload_n 1, 1) := by decide +kernel
theorem dX12_advances_137 : decode cX12_advances 137 = .ok (.ifCond .ge 7, 3) := by decide +kernel
theorem dX12_advances_140 : decode cX12_advances 140 = .ok (.iconst 0, 1) := by decide +kernel
theorem dX12_advances_141 : decode cX12_advances 141 = .ok (.goto 39, 3) := by decide +kernel
theorem dX12_advances_144 : decode cX12_advances 144 = .ok (.iload_n 1, 1) := by decide +kernel
theorem dX12_advances_145 : decode cX12_advances 145 = .ok (.bipush 97, 2) := by decide +kernel
theorem dX12_advances_147 : decode cX12_advances 147 = .ok (.bipush 122, 2) := by decide +kernel
theorem dX12_advances_149 : decode cX12_advances 149 = .ok (.invokestatic 65, 3) := by decide +kernel
theorem dX12_advances_152 : decode cX12_advances 152 = .ok (.ifCond .eq 7, 3) := by decide +kernel
theorem dX12_advances_155 : decode cX12_advances 155 = .ok (.iconst 1, 1) := by decide +kernel
theorem dX12_advances_156 : decode cX12_advances 156 = .ok (.goto 24, 3) := by decide +kernel
theorem dX12_advances_159 : decode cX12_advances 159 = .ok (.iload_n 1, 1) := by decide +kernel
theorem dX12_advances_160 : decode cX12_advances 160 = .ok (.bipush 44, 2) := by decide +kernel
theorem dX12_advances_162 : decode cX12_advances 162 = .ok (.if_icmp .ne 7, 3) := by decide +kernel
theorem dX12_advances_165 : decode cX12_advances 165 = .ok (.iconst 3, 1) := by decide +kernel
theorem dX12_advances_166 : decode cX12_advances 166 = .ok (.goto 14, 3) := by decide +kernel
theorem dX12_advances_169 : decode cX12_advances 169 = .ok (.iload_n 1, 1) := by decide +kernel
theorem dX12_advances_170 : decode cX12_advances 170 = .ok (.bipush 59, 2) := by decide +kernel
theorem dX12_advances_172 : decode cX12_advances 172 = .ok (.if_icmp .ne 7, 3) := by decide +kernel
theorem dX12_advances_175 : decode cX12_advances 175 = .ok (.iconst 4, 1) := by decide +kernel
theorem dX12_advances_176 : decode cX12_advances 176 = .ok (.goto 4, 3) := by decide +kernel
theorem dX12_advances_179 : decode cX12_advances 179 = .ok (.iconst 5, 1) := by decide +kernel
theorem dX12_advances_180 : decode cX12_advances 180 = .ok (.putfield 107, 3) := by decide +kernel
theorem dX12_advances_183 : decode cX12_advances 183 = .ok (.aload_n 0, 1) := by decide +kernel
theorem dX12_advances_184 : decode cX12_advances 184 = .ok (.dup, 1) := by decide +kernel
theorem dX12_advances_185 : decode cX12_advances 185 = .ok (.getfield 95, 3) := by decide +kernel
theorem dX12_advances_188 : decode cX12_advances 188 = .ok (.aload_n 0, 1) := by decide +kernel
theorem dX12_advances_189 : decode cX12_advances 189 = .ok (.getfield 107, 3) := by decide +kernel
theorem dX12_advances_192 : decode cX12_advances 192 = .ok (.ifCond .ne 7, 3) := by decide +kernel
theorem dX12_advances_195 : decode cX12_advances 195 = .ok (.iconst 0, 1) := by decide +kernel
theorem dX12_advances_196 : decode cX12_advances 196 = .ok (.goto 4, 3) := by decide +kernel
theorem dX12_advances_199 : decode cX12_advances 199 = .ok (.iconst 1, 1) := by decide +kernel
theorem dX12_advances_200 : decode cX12_advances 200 = .ok (.iadd, 1) := by decide +kernel
theorem dX12_advances_201 : decode cX12_advances 201 = .ok (.putfield 95, 3) := by decide +kernel
theorem dX12_advances_204 : decode cX12_advances 204 = .ok (.return_, 1) := by decide +kernel
set_option maxRecDepth 20000 in
set_option maxHeartbeats 4000000 in
theorem L_X12_advances_38 (K : xK) (L : xL) : ∀ (n : Nat) (a0 : Nat) (h : xH), Sim K L cX12_advances RX12 "advances" 2 1 (fun q : xH => q) (fun q pc' ls' st' h' => pc' = 112 ∧ ls' = [(0, .ref a0)] ∧ st' = [] ∧ h' = q) 38 [(0, .ref a0)] [] h (f_X12_advances_L38 n a0 h) := by
  intro n
  induction n with
  | zero =>
    intro a0 h
    exact Sim.none
  | succ n ih =>
    intro a0 h
    unfold f_X12_advances_L38
    refine S_aload_n (pc := 38) 0 rfl dX12_advances_38 rfl ?_
    refine S_aload_n (pc := 39) 0 rfl dX12_advances_39 rfl ?_
    refine S_getI (pc := 40) fd_X12_at wd_817 dX12_advances_40 (fun v15 => ?_)
    refine S_call_i (pc := 43) (rest := []) (fun q hq => (x_if hq).elim (fun z => R_V (av := [.int v15]) (q := (RX12, TX12, 28)) (M_X12_byteAt _ a0 v15 h z.2) z.1 rfl wd_955 wd_952 wd_954 wd_50 wd_19 ⟨rfl, hd_X12_byteAt⟩ ⟨Nat.le_of_ble_eq_true rfl, Nat.le_of_ble_eq_true rfl⟩ rfl (Nat.le_of_ble_eq_true rfl) dX12_advances_43) (fun hq => (by cases hq))) (fun _ h => absurd h List.not_mem_nil) (fun q16 => ?_)
    refine S_bipush (pc := 46) dX12_advances_46 bi_48 ?_
    refine S_bipush (pc := 48) dX12_advances_48 bi_57 ?_
    refine S_call_i (pc := 50) (rest := []) (fun q hq => R_S (av := [.int q16.1, .int (48 : Int32), .int (57 : Int32)]) (M_X12_in _ q16.1 (48 : Int32) (57 : Int32) q16.2 hq) wd_902 wd_900 wd_901 wd_50 hd_X12_in ⟨Nat.le_of_ble_eq_true rfl, Nat.le_of_ble_eq_true rfl⟩ rfl (Nat.le_of_ble_eq_true rfl) dX12_advances_50) (fun _ h => absurd h List.not_mem_nil) (fun q17 => ?_)
    refine S_if_eq (pc := 53) (tgt := 112) dX12_advances_53 (by decide) ?_ ?_
    · refine S_sub [0] rfl ?_
      exact Sim.fin ⟨rfl, rfl, rfl, rfl⟩ rfl
    · refine S_aload_n (pc := 56) 0 rfl dX12_advances_56 rfl ?_
      refine S_aload_n (pc := 57) 0 rfl dX12_advances_57 rfl ?_
      refine S_getI (pc := 58) fd_X12_at wd_817 dX12_advances_58 (fun v18 => ?_)
      refine S_aload_n (pc := 61) 0 rfl dX12_advances_61 rfl ?_
      refine S_getI (pc := 62) fd_X12_start wd_818 dX12_advances_62 (fun v19 => ?_)
      refine S_isub (pc := 65) dX12_advances_65 ?_
      refine S_iconst (pc := 66) dX12_advances_66 ic_2 ?_
      refine S_icmp_ge (pc := 67) (tgt := 92) dX12_advances_67 (by decide) ?_ ?_
      · refine S_aload_n (pc := 92) 0 rfl dX12_advances_92 rfl ?_
        refine S_getI (pc := 93) fd_X12_value wd_820 dX12_advances_93 (fun v20 => ?_)
        refine S_putI (pc := 96) fd_X12_value wd_820 rfl rfl dX12_advances_96 (fun h21 => ?_)
        refine S_aload_n (pc := 99) 0 rfl dX12_advances_99 rfl ?_
        refine S_dup (pc := 100) rfl dX12_advances_100 ?_
        refine S_getI (pc := 101) fd_X12_at wd_817 dX12_advances_101 (fun v22 => ?_)
        refine S_iconst (pc := 104) dX12_advances_104 ic_1 ?_
        refine S_iadd (pc := 105) dX12_advances_105 ?_
        refine S_putI (pc := 106) fd_X12_at wd_817 rfl rfl dX12_advances_106 (fun h23 => ?_)
        refine S_goto (pc := 109) (tgt := 38) dX12_advances_109 (by decide) ?_
        refine S_sub [0] rfl ?_
        exact ih a0 h23
      · refine S_bipush (pc := 70) dX12_advances_70 bi_10 ?_
        refine S_aload_n (pc := 72) 0 rfl dX12_advances_72 rfl ?_
        refine S_getI (pc := 73) fd_X12_value wd_820 dX12_advances_73 (fun v24 => ?_)
        refine S_imul (pc := 76) dX12_advances_76 ?_
        refine S_aload_n (pc := 77) 0 rfl dX12_advances_77 rfl ?_
        refine S_aload_n (pc := 78) 0 rfl dX12_advances_78 rfl ?_
        refine S_getI (pc := 79) fd_X12_at wd_817 dX12_advances_79 (fun v25 => ?_)
        refine S_call_i (pc := 82) (rest := [.int ((10 : Int32) * v24), .ref a0]) (fun q hq => (x_if hq).elim (fun z => R_V (av := [.int v25]) (q := (RX12, TX12, 28)) (M_X12_byteAt _ a0 v25 q17.2 z.2) z.1 rfl wd_955 wd_952 wd_954 wd_50 wd_19 ⟨rfl, hd_X12_byteAt⟩ ⟨Nat.le_of_ble_eq_true rfl, Nat.le_of_ble_eq_true rfl⟩ rfl (Nat.le_of_ble_eq_true rfl) dX12_advances_82) (fun hq => (by cases hq))) (fun _ h => List.mem_cons_of_mem _ (List.mem_cons_of_mem _ (h))) (fun q26 => ?_)
        refine S_iadd (pc := 85) dX12_advances_85 ?_
        refine S_bipush (pc := 86) dX12_advances_86 bi_48 ?_
        refine S_isub (pc := 88) dX12_advances_88 ?_
        refine S_goto (pc := 89) (tgt := 96) dX12_advances_89 (by decide) ?_
        refine S_putI (pc := 96) fd_X12_value wd_820 rfl rfl dX12_advances_96 (fun h27 => ?_)
        refine S_aload_n (pc := 99) 0 rfl dX12_advances_99 rfl ?_
        refine S_dup (pc := 100) rfl dX12_advances_100 ?_
        refine S_getI (pc := 101) fd_X12_at wd_817 dX12_advances_101 (fun v28 => ?_)
        refine S_iconst (pc := 104) dX12_advances_104 ic_1 ?_
        refine S_iadd (pc := 105) dX12_advances_105 ?_
        refine S_putI (pc := 106) fd_X12_at wd_817 rfl rfl dX12_advances_106 (fun h29 => ?_)
        refine S_goto (pc := 109) (tgt := 38) dX12_advances_109 (by decide) ?_
        refine S_sub [0] rfl ?_
        exact ih a0 h29
set_option maxRecDepth 20000 in
set_option maxHeartbeats 4000000 in
theorem W_X12_advances (K : xK) (L : xL) (a0 : Nat) (h : xH) : Sim K L cX12_advances RX12 "advances" 2 1 (fun q : xH => q) (xRv cX12_advances) 0 [(0, .ref a0)] [] h (f_X12_advances a0 h) := by
  unfold f_X12_advances
  refine S_aload_n (pc := 0) 0 rfl dX12_advances_0 rfl ?_
  refine S_aload_n (pc := 1) 0 rfl dX12_advances_1 rfl ?_
  refine S_getI (pc := 2) fd_X12_at wd_817 dX12_advances_2 (fun v1 => ?_)
  refine S_putI (pc := 5) fd_X12_start wd_818 rfl rfl dX12_advances_5 (fun h2 => ?_)
  refine S_aload_n (pc := 8) 0 rfl dX12_advances_8 rfl ?_
  refine S_aload_n (pc := 9) 0 rfl dX12_advances_9 rfl ?_
  refine S_getI (pc := 10) fd_X12_at wd_817 dX12_advances_10 (fun v3 => ?_)
  refine S_call_i (pc := 13) (rest := []) (fun q hq => (x_if hq).elim (fun z => R_V (av := [.int v3]) (q := (RX12, TX12, 28)) (M_X12_byteAt _ a0 v3 h2 z.2) z.1 rfl wd_955 wd_952 wd_954 wd_50 wd_19 ⟨rfl, hd_X12_byteAt⟩ ⟨Nat.le_of_ble_eq_true rfl, Nat.le_of_ble_eq_true rfl⟩ rfl (Nat.le_of_ble_eq_true rfl) dX12_advances_13) (fun hq => (by cases hq))) (fun _ h => absurd h List.not_mem_nil) (fun q4 => ?_)
  refine S_istore_n (pc := 16) dX12_advances_16 rfl (Nat.le_of_ble_eq_true rfl) rfl ?_
  refine S_aload_n (pc := 17) 1 rfl dX12_advances_17 rfl ?_
  refine S_iload_n (pc := 18) 0 rfl dX12_advances_18 rfl ?_
  refine S_putI (pc := 19) fd_X12_value wd_820 rfl rfl dX12_advances_19 (fun h5 => ?_)
  refine S_iload_n (pc := 22) 0 rfl dX12_advances_22 rfl ?_
  refine S_bipush (pc := 23) dX12_advances_23 bi_48 ?_
  refine S_bipush (pc := 25) dX12_advances_25 bi_57 ?_
  refine S_call_i (pc := 27) (rest := []) (fun q hq => R_S (av := [.int q4.1, .int (48 : Int32), .int (57 : Int32)]) (M_X12_in _ q4.1 (48 : Int32) (57 : Int32) h5 hq) wd_902 wd_900 wd_901 wd_50 hd_X12_in ⟨Nat.le_of_ble_eq_true rfl, Nat.le_of_ble_eq_true rfl⟩ rfl (Nat.le_of_ble_eq_true rfl) dX12_advances_27) (fun _ h => absurd h List.not_mem_nil) (fun q6 => ?_)
  refine S_if_eq (pc := 30) (tgt := 135) dX12_advances_30 (by decide) ?_ ?_
  · refine S_aload_n (pc := 135) 1 rfl dX12_advances_135 rfl ?_
    refine S_iload_n (pc := 136) 0 rfl dX12_advances_136 rfl ?_
    refine Sim.bindS (hs := fun q8 : Int32 × xH => q8.2) (px := 180) (lsx := fun q8 => [(0, .ref a0)]) (stx := fun q8 => [.int q8.1, .ref a0]) ?_ (fun q8 => ?_)
    · refine S_if_ge (pc := 137) (tgt := 144) dX12_advances_137 (by decide) ?_ ?_
      · refine S_iload_n (pc := 144) 0 rfl dX12_advances_144 rfl ?_
        refine S_bipush (pc := 145) dX12_advances_145 bi_97 ?_
        refine S_bipush (pc := 147) dX12_advances_147 bi_122 ?_
        refine S_call_i (pc := 149) (rest := [.ref a0]) (fun q hq => R_S (av := [.int q4.1, .int (97 : Int32), .int (122 : Int32)]) (M_X12_in _ q4.1 (97 : Int32) (122 : Int32) q6.2 hq) wd_902 wd_900 wd_901 wd_50 hd_X12_in ⟨Nat.le_of_ble_eq_true rfl, Nat.le_of_ble_eq_true rfl⟩ rfl (Nat.le_of_ble_eq_true rfl) dX12_advances_149) (fun _ h => List.mem_cons_of_mem _ (List.mem_cons_of_mem _ (List.mem_cons_of_mem _ (h)))) (fun q7 => ?_)
        refine S_if_eq (pc := 152) (tgt := 159) dX12_advances_152 (by decide) ?_ ?_
        · refine S_iload_n (pc := 159) 0 rfl dX12_advances_159 rfl ?_
          refine S_bipush (pc := 160) dX12_advances_160 bi_44 ?_
          refine S_icmp_ne (pc := 162) (tgt := 169) dX12_advances_162 (by decide) ?_ ?_
          · refine S_iconst (pc := 165) dX12_advances_165 ic_3 ?_
            refine S_goto (pc := 166) (tgt := 180) dX12_advances_166 (by decide) ?_
            refine S_sub [1] rfl ?_
            exact Sim.fin ⟨rfl, rfl, rfl, rfl⟩ rfl
          · refine S_iload_n (pc := 169) 0 rfl dX12_advances_169 rfl ?_
            refine S_bipush (pc := 170) dX12_advances_170 bi_59 ?_
            refine S_icmp_ne (pc := 172) (tgt := 179) dX12_advances_172 (by decide) ?_ ?_
            · refine S_iconst (pc := 175) dX12_advances_175 ic_4 ?_
              refine S_goto (pc := 176) (tgt := 180) dX12_advances_176 (by decide) ?_
              refine S_sub [1] rfl ?_
              exact Sim.fin ⟨rfl, rfl, rfl, rfl⟩ rfl
            · refine S_iconst (pc := 179) dX12_advances_179 ic_5 ?_
              refine S_sub [1] rfl ?_
              exact Sim.fin ⟨rfl, rfl, rfl, rfl⟩ rfl
        · refine S_iconst (pc := 155) dX12_advances_155 ic_1 ?_
          refine S_goto (pc := 156) (tgt := 180) dX12_advances_156 (by decide) ?_
          refine S_sub [1] rfl ?_
          exact Sim.fin ⟨rfl, rfl, rfl, rfl⟩ rfl
      · refine S_iconst (pc := 140) dX12_advances_140 ic_0 ?_
        refine S_goto (pc := 141) (tgt := 180) dX12_advances_141 (by decide) ?_
        refine S_sub [1] rfl ?_
        exact Sim.fin ⟨rfl, rfl, rfl, rfl⟩ rfl
    · refine S_putI (pc := 180) fd_X12_token wd_819 rfl rfl dX12_advances_180 (fun h9 => ?_)
      refine S_aload_n (pc := 183) 0 rfl dX12_advances_183 rfl ?_
      refine S_dup (pc := 184) rfl dX12_advances_184 ?_
      refine S_getI (pc := 185) fd_X12_at wd_817 dX12_advances_185 (fun v10 => ?_)
      refine S_aload_n (pc := 188) 0 rfl dX12_advances_188 rfl ?_
      refine S_getI (pc := 189) fd_X12_token wd_819 dX12_advances_189 (fun v11 => ?_)
      refine S_if_ne (pc := 192) (tgt := 199) dX12_advances_192 (by decide) ?_ ?_
      · refine S_iconst (pc := 195) dX12_advances_195 ic_0 ?_
        refine S_goto (pc := 196) (tgt := 200) dX12_advances_196 (by decide) ?_
        refine S_iadd (pc := 200) dX12_advances_200 ?_
        refine S_putI (pc := 201) fd_X12_at wd_817 rfl rfl dX12_advances_201 (fun h12 => ?_)
        exact Sim.fin ⟨dX12_advances_204, rfl, rfl⟩ rfl
      · refine S_iconst (pc := 199) dX12_advances_199 ic_1 ?_
        refine S_iadd (pc := 200) dX12_advances_200 ?_
        refine S_putI (pc := 201) fd_X12_at wd_817 rfl rfl dX12_advances_201 (fun h13 => ?_)
        exact Sim.fin ⟨dX12_advances_204, rfl, rfl⟩ rfl
  · refine S_aload_n (pc := 33) 1 rfl dX12_advances_33 rfl ?_
    refine S_iconst (pc := 34) dX12_advances_34 ic_0 ?_
    refine S_putI (pc := 35) fd_X12_value wd_820 rfl rfl dX12_advances_35 (fun h14 => ?_)
    refine S_sub [1] rfl ?_
    refine Sim.bind (hs := fun q30 : xH => q30) (px := 112) (lsx := fun q30 => [(0, .ref a0)]) (L_X12_advances_38 K L xN a0 h14) (fun q30 => ?_)
    refine S_aload_n (pc := 112) 0 rfl dX12_advances_112 rfl ?_
    refine S_aload_n (pc := 113) 0 rfl dX12_advances_113 rfl ?_
    refine S_getI (pc := 114) fd_X12_at wd_817 dX12_advances_114 (fun v31 => ?_)
    refine S_aload_n (pc := 117) 0 rfl dX12_advances_117 rfl ?_
    refine S_getI (pc := 118) fd_X12_start wd_818 dX12_advances_118 (fun v32 => ?_)
    refine S_isub (pc := 121) dX12_advances_121 ?_
    refine S_iconst (pc := 122) dX12_advances_122 ic_3 ?_
    refine S_icmp_ge (pc := 123) (tgt := 130) dX12_advances_123 (by decide) ?_ ?_
    · refine S_iconst (pc := 130) dX12_advances_130 ic_5 ?_
      refine S_putI (pc := 131) fd_X12_token wd_819 rfl rfl dX12_advances_131 (fun h33 => ?_)
      exact Sim.fin ⟨dX12_advances_134, rfl, rfl⟩ rfl
    · refine S_iconst (pc := 126) dX12_advances_126 ic_2 ?_
      refine S_goto (pc := 127) (tgt := 131) dX12_advances_127 (by decide) ?_
      refine S_putI (pc := 131) fd_X12_token wd_819 rfl rfl dX12_advances_131 (fun h34 => ?_)
      exact Sim.fin ⟨dX12_advances_134, rfl, rfl⟩ rfl
theorem M_X12_advances (l : Launch) (a0 : Nat) (h : xH) {q : xH} (hq : f_X12_advances a0 h = some q) : xM l yX12_advances cX12_advances 2 none 1 [.ref a0] h none q := xM_v (by decide +kernel) (Nat.le_of_ble_eq_true rfl) (fun K L => W_X12_advances K L a0 h) hq
