theorem dX12_sortOf_0 : decode cX12_sortOf 0 = .ok (.iconst 0, 1) := by decide +kernel
theorem dX12_sortOf_1 : decode cX12_sortOf 1 = .ok (.istore_n 1, 1) := by decide +kernel
theorem dX12_sortOf_2 : decode cX12_sortOf 2 = .ok (.iconst 0, 1) := by decide +kernel
theorem dX12_sortOf_3 : decode cX12_sortOf 3 = .ok (.istore_n 2, 1) := by decide +kernel
theorem dX12_sortOf_4 : decode cX12_sortOf 4 = .ok (.iload_n 2, 1) := by decide +kernel
theorem dX12_sortOf_5 : decode cX12_sortOf 5 = .ok (.bipush 15, 2) := by decide +kernel
theorem dX12_sortOf_7 : decode cX12_sortOf 7 = .ok (.if_icmp .ge 17, 3) := by decide +kernel
theorem dX12_sortOf_10 : decode cX12_sortOf 10 = .ok (.iload_n 1, 1) := by decide +kernel
theorem dX12_sortOf_11 : decode cX12_sortOf 11 = .ok (.iload_n 0, 1) := by decide +kernel
theorem dX12_sortOf_12 : decode cX12_sortOf 12 = .ok (.iload_n 2, 1) := by decide +kernel
theorem dX12_sortOf_13 : decode cX12_sortOf 13 = .ok (.ishr, 1) := by decide +kernel
theorem dX12_sortOf_14 : decode cX12_sortOf 14 = .ok (.iconst 1, 1) := by decide +kernel
theorem dX12_sortOf_15 : decode cX12_sortOf 15 = .ok (.iand, 1) := by decide +kernel
theorem dX12_sortOf_16 : decode cX12_sortOf 16 = .ok (.iadd, 1) := by decide +kernel
theorem dX12_sortOf_17 : decode cX12_sortOf 17 = .ok (.istore_n 1, 1) := by decide +kernel
theorem dX12_sortOf_18 : decode cX12_sortOf 18 = .ok (.iinc 2 1, 3) := by decide +kernel
theorem dX12_sortOf_21 : decode cX12_sortOf 21 = .ok (.goto (-17), 3) := by decide +kernel
theorem dX12_sortOf_24 : decode cX12_sortOf 24 = .ok (.iload_n 1, 1) := by decide +kernel
theorem dX12_sortOf_25 : decode cX12_sortOf 25 = .ok (.ireturn, 1) := by decide +kernel
set_option maxRecDepth 20000 in
set_option maxHeartbeats 4000000 in
theorem L_X12_sortOf_4 (K : xK) (L : xL) : ∀ (n : Nat) (a0 : Int32) (a1 : Int32) (a2 : Int32) (h : xH), Sim K L cX12_sortOf RX12 "sortOf" 3 0 (fun q : Int32 × Int32 × xH => q.2.2) (fun q pc' ls' st' h' => pc' = 24 ∧ ls' = [(0, .int a0), (1, .int q.1), (2, .int q.2.1)] ∧ st' = [] ∧ h' = q.2.2) 4 [(0, .int a0), (1, .int a1), (2, .int a2)] [] h (f_X12_sortOf_L4 n a0 a1 a2 h) := by
  intro n
  induction n with
  | zero =>
    intro a0 a1 a2 h
    exact Sim.none
  | succ n ih =>
    intro a0 a1 a2 h
    unfold f_X12_sortOf_L4
    refine S_iload_n (pc := 4) 2 rfl dX12_sortOf_4 rfl ?_
    refine S_bipush (pc := 5) dX12_sortOf_5 bi_15 ?_
    refine S_icmp_ge (pc := 7) (tgt := 24) dX12_sortOf_7 (by decide) ?_ ?_
    · refine S_sub [0, 1, 2] rfl ?_
      exact Sim.fin ⟨rfl, rfl, rfl, rfl⟩ rfl
    · refine S_iload_n (pc := 10) 1 rfl dX12_sortOf_10 rfl ?_
      refine S_iload_n (pc := 11) 0 rfl dX12_sortOf_11 rfl ?_
      refine S_iload_n (pc := 12) 2 rfl dX12_sortOf_12 rfl ?_
      refine S_ishr (pc := 13) dX12_sortOf_13 ?_
      refine S_iconst (pc := 14) dX12_sortOf_14 ic_1 ?_
      refine S_iand (pc := 15) dX12_sortOf_15 ?_
      refine S_iadd (pc := 16) dX12_sortOf_16 ?_
      refine S_istore_n (pc := 17) dX12_sortOf_17 rfl (Nat.le_of_ble_eq_true rfl) rfl ?_
      refine S_iinc (pc := 18) (v := a2 + (1 : Int32)) 2 rfl dX12_sortOf_18 (x_inc ic_1) (Nat.le_of_ble_eq_true rfl) rfl ?_
      refine S_goto (pc := 21) (tgt := 4) dX12_sortOf_21 (by decide) ?_
      refine S_sub [2, 1, 0] rfl ?_
      exact ih a0 (a1 + ((a0 >>> (a2 &&& 31)) &&& (1 : Int32))) (a2 + (1 : Int32)) h
set_option maxRecDepth 20000 in
set_option maxHeartbeats 4000000 in
theorem W_X12_sortOf (K : xK) (L : xL) (a0 : Int32) (h : xH) : Sim K L cX12_sortOf RX12 "sortOf" 3 0 (fun q : Int32 × xH => q.2) (xRi cX12_sortOf) 0 [(0, .int a0)] [] h (f_X12_sortOf a0 h) := by
  unfold f_X12_sortOf
  refine S_iconst (pc := 0) dX12_sortOf_0 ic_0 ?_
  refine S_istore_n (pc := 1) dX12_sortOf_1 rfl (Nat.le_of_ble_eq_true rfl) rfl ?_
  refine S_iconst (pc := 2) dX12_sortOf_2 ic_0 ?_
  refine S_istore_n (pc := 3) dX12_sortOf_3 rfl (Nat.le_of_ble_eq_true rfl) rfl ?_
  refine S_sub [2, 1, 0] rfl ?_
  refine Sim.bind (hs := fun q1 : Int32 × Int32 × xH => q1.2.2) (px := 24) (lsx := fun q1 => [(0, .int a0), (1, .int q1.1), (2, .int q1.2.1)]) (L_X12_sortOf_4 K L xN a0 (0 : Int32) (0 : Int32) h) (fun q1 => ?_)
  refine S_iload_n (pc := 24) 1 rfl dX12_sortOf_24 rfl ?_
  exact Sim.fin ⟨dX12_sortOf_25, rfl, rfl⟩ rfl
theorem M_X12_sortOf (l : Launch) (a0 : Int32) (h : xH) {q : Int32 × xH} (hq : f_X12_sortOf a0 h = some q) : xM l yX12_sortOf cX12_sortOf 3 (some .int) 0 [.int a0] h (some (.int q.1)) q.2 := xM_i (by decide +kernel) (Nat.le_of_ble_eq_true rfl) (fun K L => W_X12_sortOf K L a0 h) hq
theorem dX12_alike_0 : decode cX12_alike 0 = .ok (.iload_n 1, 1) := by decide +kernel
theorem dX12_alike_1 : decode cX12_alike 1 = .ok (.invokestatic 130, 3) := by decide +kernel
theorem dX12_alike_4 : decode cX12_alike 4 = .ok (.ifCond .eq 19, 3) := by decide +kernel
theorem dX12_alike_7 : decode cX12_alike 7 = .ok (.iload_n 2, 1) := by decide +kernel
theorem dX12_alike_8 : decode cX12_alike 8 = .ok (.invokestatic 130, 3) := by decide +kernel
theorem dX12_alike_11 : decode cX12_alike 11 = .ok (.ifCond .eq 12, 3) := by decide +kernel
theorem dX12_alike_14 : decode cX12_alike 14 = .ok (.iload_n 3, 1) := by decide +kernel
theorem dX12_alike_15 : decode cX12_alike 15 = .ok (.iconst 0, 1) := by decide +kernel
theorem dX12_alike_16 : decode cX12_alike 16 = .ok (.iconst 1, 1) := by decide +kernel
theorem dX12_alike_17 : decode cX12_alike 17 = .ok (.invokestatic 65, 3) := by decide +kernel
theorem dX12_alike_20 : decode cX12_alike 20 = .ok (.ifCond .ne 6, 3) := by decide +kernel
theorem dX12_alike_23 : decode cX12_alike 23 = .ok (.ldc 73, 2) := by decide +kernel
theorem dX12_alike_25 : decode cX12_alike 25 = .ok (.ireturn, 1) := by decide +kernel
theorem dX12_alike_26 : decode cX12_alike 26 = .ok (.iconst 0, 1) := by decide +kernel
theorem dX12_alike_27 : decode cX12_alike 27 = .ok (.istore 4, 2) := by decide +kernel
theorem dX12_alike_29 : decode cX12_alike 29 = .ok (.iconst 0, 1) := by decide +kernel
theorem dX12_alike_30 : decode cX12_alike 30 = .ok (.istore 5, 2) := by decide +kernel
theorem dX12_alike_32 : decode cX12_alike 32 = .ok (.iconst 1, 1) := by decide +kernel
theorem dX12_alike_33 : decode cX12_alike 33 = .ok (.istore 6, 2) := by decide +kernel
theorem dX12_alike_35 : decode cX12_alike 35 = .ok (.iload 6, 2) := by decide +kernel
theorem dX12_alike_37 : decode cX12_alike 37 = .ok (.bipush 33, 2) := by decide +kernel
theorem dX12_alike_39 : decode cX12_alike 39 = .ok (.if_icmp .ge 75, 3) := by decide +kernel
theorem dX12_alike_42 : decode cX12_alike 42 = .ok (.iload 4, 2) := by decide +kernel
theorem dX12_alike_44 : decode cX12_alike 44 = .ok (.aload_n 0, 1) := by decide +kernel
theorem dX12_alike_45 : decode cX12_alike 45 = .ok (.getfield 25, 3) := by decide +kernel
theorem dX12_alike_48 : decode cX12_alike 48 = .ok (.bipush 33, 2) := by decide +kernel
theorem dX12_alike_50 : decode cX12_alike 50 = .ok (.iload_n 1, 1) := by decide +kernel
theorem dX12_alike_51 : decode cX12_alike 51 = .ok (.imul, 1) := by decide +kernel
theorem dX12_alike_52 : decode cX12_alike 52 = .ok (.iload 6, 2) := by decide +kernel
theorem dX12_alike_54 : decode cX12_alike 54 = .ok (.iadd, 1) := by decide +kernel
theorem dX12_alike_55 : decode cX12_alike 55 = .ok (.iaload, 1) := by decide +kernel
theorem dX12_alike_56 : decode cX12_alike 56 = .ok (.aload_n 0, 1) := by decide +kernel
theorem dX12_alike_57 : decode cX12_alike 57 = .ok (.getfield 25, 3) := by decide +kernel
theorem dX12_alike_60 : decode cX12_alike 60 = .ok (.bipush 33, 2) := by decide +kernel
theorem dX12_alike_62 : decode cX12_alike 62 = .ok (.iload_n 2, 1) := by decide +kernel
theorem dX12_alike_63 : decode cX12_alike 63 = .ok (.imul, 1) := by decide +kernel
theorem dX12_alike_64 : decode cX12_alike 64 = .ok (.iload 6, 2) := by decide +kernel
theorem dX12_alike_66 : decode cX12_alike 66 = .ok (.iadd, 1) := by decide +kernel
theorem dX12_alike_67 : decode cX12_alike 67 = .ok (.iaload, 1) := by decide +kernel
theorem dX12_alike_68 : decode cX12_alike 68 = .ok (.iand, 1) := by decide +kernel
theorem dX12_alike_69 : decode cX12_alike 69 = .ok (.invokestatic 191, 3) := by decide +kernel
theorem dX12_alike_72 : decode cX12_alike 72 = .ok (.iadd, 1) := by decide +kernel
theorem dX12_alike_73 : decode cX12_alike 73 = .ok (.istore 4, 2) := by decide +kernel
theorem dX12_alike_75 : decode cX12_alike 75 = .ok (.iload 5, 2) := by decide +kernel
theorem dX12_alike_77 : decode cX12_alike 77 = .ok (.aload_n 0, 1) := by decide +kernel
theorem dX12_alike_78 : decode cX12_alike 78 = .ok (.getfield 25, 3) := by decide +kernel
theorem dX12_alike_81 : decode cX12_alike 81 = .ok (.bipush 33, 2) := by decide +kernel
theorem dX12_alike_83 : decode cX12_alike 83 = .ok (.iload_n 1, 1) := by decide +kernel
theorem dX12_alike_84 : decode cX12_alike 84 = .ok (.imul, 1) := by decide +kernel
theorem dX12_alike_85 : decode cX12_alike 85 = .ok (.iload 6, 2) := by decide +kernel
theorem dX12_alike_87 : decode cX12_alike 87 = .ok (.iadd, 1) := by decide +kernel
theorem dX12_alike_88 : decode cX12_alike 88 = .ok (.iaload, 1) := by decide +kernel
theorem dX12_alike_89 : decode cX12_alike 89 = .ok (.aload_n 0, 1) := by decide +kernel
theorem dX12_alike_90 : decode cX12_alike 90 = .ok (.getfield 25, 3) := by decide +kernel
theorem dX12_alike_93 : decode cX12_alike 93 = .ok (.bipush 33, 2) := by decide +kernel
theorem dX12_alike_95 : decode cX12_alike 95 = .ok (.iload_n 2, 1) := by decide +kernel
theorem dX12_alike_96 : decode cX12_alike 96 = .ok (.imul, 1) := by decide +kernel
theorem dX12_alike_97 : decode cX12_alike 97 = .ok (.iload 6, 2) := by decide +kernel
theorem dX12_alike_99 : decode cX12_alike 99 = .ok (.iadd, 1) := by decide +kernel
theorem dX12_alike_100 : decode cX12_alike 100 = .ok (.iaload, 1) := by decide +kernel
theorem dX12_alike_101 : decode cX12_alike 101 = .ok (.ior, 1) := by decide +kernel
theorem dX12_alike_102 : decode cX12_alike 102 = .ok (.invokestatic 191, 3) := by decide +kernel
theorem dX12_alike_105 : decode cX12_alike 105 = .ok (.iadd, 1) := by decide +kernel
theorem dX12_alike_106 : decode cX12_alike 106 = .ok (.istore 5, 2) := by decide +kernel
theorem dX12_alike_108 : decode cX12_alike 108 = .ok (.iinc 6 1, 3) := by decide +kernel
theorem dX12_alike_111 : decode cX12_alike 111 = .ok (.goto (-76), 3) := by decide +kernel
theorem dX12_alike_114 : decode cX12_alike 114 = .ok (.iload 5, 2) := by decide +kernel
theorem dX12_alike_116 : decode cX12_alike 116 = .ok (.ifCond .ne 7, 3) := by decide +kernel
theorem dX12_alike_119 : decode cX12_alike 119 = .ok (.iconst 1, 1) := by decide +kernel
theorem dX12_alike_120 : decode cX12_alike 120 = .ok (.goto 5, 3) := by decide +kernel
theorem dX12_alike_123 : decode cX12_alike 123 = .ok (.iload 5, 2) := by decide +kernel
theorem dX12_alike_125 : decode cX12_alike 125 = .ok (.istore 5, 2) := by decide +kernel
theorem dX12_alike_127 : decode cX12_alike 127 = .ok (.iload 4, 2) := by decide +kernel
theorem dX12_alike_129 : decode cX12_alike 129 = .ok (.istore 6, 2) := by decide +kernel
theorem dX12_alike_131 : decode cX12_alike 131 = .ok (.iload 5, 2) := by decide +kernel
theorem dX12_alike_133 : decode cX12_alike 133 = .ok (.istore 7, 2) := by decide +kernel
theorem dX12_alike_135 : decode cX12_alike 135 = .ok (.iload 7, 2) := by decide +kernel
theorem dX12_alike_137 : decode cX12_alike 137 = .ok (.ifCond .eq 21, 3) := by decide +kernel
theorem dX12_alike_140 : decode cX12_alike 140 = .ok (.iload 6, 2) := by decide +kernel
theorem dX12_alike_142 : decode cX12_alike 142 = .ok (.iload 7, 2) := by decide +kernel
theorem dX12_alike_144 : decode cX12_alike 144 = .ok (.irem, 1) := by decide +kernel
theorem dX12_alike_145 : decode cX12_alike 145 = .ok (.istore 8, 2) := by decide +kernel
theorem dX12_alike_147 : decode cX12_alike 147 = .ok (.iload 7, 2) := by decide +kernel
theorem dX12_alike_149 : decode cX12_alike 149 = .ok (.istore 6, 2) := by decide +kernel
theorem dX12_alike_151 : decode cX12_alike 151 = .ok (.iload 8, 2) := by decide +kernel
theorem dX12_alike_153 : decode cX12_alike 153 = .ok (.istore 7, 2) := by decide +kernel
theorem dX12_alike_155 : decode cX12_alike 155 = .ok (.goto (-20), 3) := by decide +kernel
theorem dX12_alike_158 : decode cX12_alike 158 = .ok (.iload_n 3, 1) := by decide +kernel
theorem dX12_alike_159 : decode cX12_alike 159 = .ok (.ifCond .ne 8, 3) := by decide +kernel
theorem dX12_alike_162 : decode cX12_alike 162 = .ok (.iload 4, 2) := by decide +kernel
theorem dX12_alike_164 : decode cX12_alike 164 = .ok (.goto 5, 3) := by decide +kernel
theorem dX12_alike_167 : decode cX12_alike 167 = .ok (.iload 5, 2) := by decide +kernel
theorem dX12_alike_169 : decode cX12_alike 169 = .ok (.iload 6, 2) := by decide +kernel
theorem dX12_alike_171 : decode cX12_alike 171 = .ok (.idiv, 1) := by decide +kernel
theorem dX12_alike_172 : decode cX12_alike 172 = .ok (.ireturn, 1) := by decide +kernel
set_option maxRecDepth 20000 in
set_option maxHeartbeats 4000000 in
theorem L_X12_alike_35 (K : xK) (L : xL) : ∀ (n : Nat) (a0 : Nat) (a1 : Int32) (a2 : Int32) (a3 : Int32) (a4 : Int32) (a5 : Int32) (a6 : Int32) (h : xH), Sim K L cX12_alike RX12 "alike" 9 2 (fun q : Int32 × Int32 × Int32 × xH => q.2.2.2) (fun q pc' ls' st' h' => pc' = 114 ∧ ls' = [(0, .ref a0), (1, .int a1), (2, .int a2), (3, .int a3), (4, .int q.1), (5, .int q.2.1), (6, .int q.2.2.1)] ∧ st' = [] ∧ h' = q.2.2.2) 35 [(0, .ref a0), (1, .int a1), (2, .int a2), (3, .int a3), (4, .int a4), (5, .int a5), (6, .int a6)] [] h (f_X12_alike_L35 n a0 a1 a2 a3 a4 a5 a6 h) := by
  intro n
  induction n with
  | zero =>
    intro a0 a1 a2 a3 a4 a5 a6 h
    exact Sim.none
  | succ n ih =>
    intro a0 a1 a2 a3 a4 a5 a6 h
    unfold f_X12_alike_L35
    refine S_iload (pc := 35) 6 rfl dX12_alike_35 ?_
    refine S_bipush (pc := 37) dX12_alike_37 bi_33 ?_
    refine S_icmp_ge (pc := 39) (tgt := 114) dX12_alike_39 (by decide) ?_ ?_
    · refine S_sub [0, 1, 2, 3, 4, 5, 6] rfl ?_
      exact Sim.fin ⟨rfl, rfl, rfl, rfl⟩ rfl
    · refine S_iload (pc := 42) 4 rfl dX12_alike_42 ?_
      refine S_aload_n (pc := 44) 0 rfl dX12_alike_44 rfl ?_
      refine S_getR (pc := 45) fd_X12_now wd_821 dX12_alike_45 (fun v4 => ?_)
      refine S_bipush (pc := 48) dX12_alike_48 bi_33 ?_
      refine S_iload_n (pc := 50) 1 rfl dX12_alike_50 rfl ?_
      refine S_imul (pc := 51) dX12_alike_51 ?_
      refine S_iload (pc := 52) 6 rfl dX12_alike_52 ?_
      refine S_iadd (pc := 54) dX12_alike_54 ?_
      refine S_aI (pc := 55) dX12_alike_55 (fun v5 => ?_)
      refine S_aload_n (pc := 56) 0 rfl dX12_alike_56 rfl ?_
      refine S_getR (pc := 57) fd_X12_now wd_821 dX12_alike_57 (fun v6 => ?_)
      refine S_bipush (pc := 60) dX12_alike_60 bi_33 ?_
      refine S_iload_n (pc := 62) 2 rfl dX12_alike_62 rfl ?_
      refine S_imul (pc := 63) dX12_alike_63 ?_
      refine S_iload (pc := 64) 6 rfl dX12_alike_64 ?_
      refine S_iadd (pc := 66) dX12_alike_66 ?_
      refine S_aI (pc := 67) dX12_alike_67 (fun v7 => ?_)
      refine S_iand (pc := 68) dX12_alike_68 ?_
      refine S_call_i (pc := 69) (rest := [.int a4]) (fun q hq => R_S (av := [.int (v5 &&& v7)]) (M_X12_sortOf _ (v5 &&& v7) h hq) wd_1072 wd_1070 wd_1071 wd_50 hd_X12_sortOf ⟨Nat.le_of_ble_eq_true rfl, Nat.le_of_ble_eq_true rfl⟩ rfl (Nat.le_of_ble_eq_true rfl) dX12_alike_69) (fun _ h => List.mem_cons_of_mem _ (h)) (fun q8 => ?_)
      refine S_iadd (pc := 72) dX12_alike_72 ?_
      refine S_istore (pc := 73) dX12_alike_73 (Nat.le_of_ble_eq_true rfl) rfl ?_
      refine S_iload (pc := 75) 5 rfl dX12_alike_75 ?_
      refine S_aload_n (pc := 77) 1 rfl dX12_alike_77 rfl ?_
      refine S_getR (pc := 78) fd_X12_now wd_821 dX12_alike_78 (fun v9 => ?_)
      refine S_bipush (pc := 81) dX12_alike_81 bi_33 ?_
      refine S_iload_n (pc := 83) 2 rfl dX12_alike_83 rfl ?_
      refine S_imul (pc := 84) dX12_alike_84 ?_
      refine S_iload (pc := 85) 6 rfl dX12_alike_85 ?_
      refine S_iadd (pc := 87) dX12_alike_87 ?_
      refine S_aI (pc := 88) dX12_alike_88 (fun v10 => ?_)
      refine S_aload_n (pc := 89) 1 rfl dX12_alike_89 rfl ?_
      refine S_getR (pc := 90) fd_X12_now wd_821 dX12_alike_90 (fun v11 => ?_)
      refine S_bipush (pc := 93) dX12_alike_93 bi_33 ?_
      refine S_iload_n (pc := 95) 3 rfl dX12_alike_95 rfl ?_
      refine S_imul (pc := 96) dX12_alike_96 ?_
      refine S_iload (pc := 97) 6 rfl dX12_alike_97 ?_
      refine S_iadd (pc := 99) dX12_alike_99 ?_
      refine S_aI (pc := 100) dX12_alike_100 (fun v12 => ?_)
      refine S_ior (pc := 101) dX12_alike_101 ?_
      refine S_call_i (pc := 102) (rest := [.int a5]) (fun q hq => R_S (av := [.int (v10 ||| v12)]) (M_X12_sortOf _ (v10 ||| v12) q8.2 hq) wd_1072 wd_1070 wd_1071 wd_50 hd_X12_sortOf ⟨Nat.le_of_ble_eq_true rfl, Nat.le_of_ble_eq_true rfl⟩ rfl (Nat.le_of_ble_eq_true rfl) dX12_alike_102) (fun _ h => List.mem_cons_of_mem _ (h)) (fun q13 => ?_)
      refine S_iadd (pc := 105) dX12_alike_105 ?_
      refine S_istore (pc := 106) dX12_alike_106 (Nat.le_of_ble_eq_true rfl) rfl ?_
      refine S_iinc (pc := 108) (v := a6 + (1 : Int32)) 6 rfl dX12_alike_108 (x_inc ic_1) (Nat.le_of_ble_eq_true rfl) rfl ?_
      refine S_goto (pc := 111) (tgt := 35) dX12_alike_111 (by decide) ?_
      refine S_sub [3, 4, 5, 6, 2, 1, 0] rfl ?_
      exact ih a0 a1 a2 a3 (a4 + q8.1) (a5 + q13.1) (a6 + (1 : Int32)) q13.2
set_option maxRecDepth 20000 in
set_option maxHeartbeats 4000000 in
theorem L_X12_alike_135 (K : xK) (L : xL) : ∀ (n : Nat) (a3 : Int32) (a4 : Int32) (a5 : Int32) (a6 : Int32) (a7 : Int32) (h : xH), Sim K L cX12_alike RX12 "alike" 9 2 (fun q : Int32 × Int32 × xH => q.2.2) (fun q pc' ls' st' h' => pc' = 158 ∧ ls' = [(3, .int a3), (4, .int a4), (5, .int a5), (6, .int q.1), (7, .int q.2.1)] ∧ st' = [] ∧ h' = q.2.2) 135 [(3, .int a3), (4, .int a4), (5, .int a5), (6, .int a6), (7, .int a7)] [] h (f_X12_alike_L135 n a3 a4 a5 a6 a7 h) := by
  intro n
  induction n with
  | zero =>
    intro a3 a4 a5 a6 a7 h
    exact Sim.none
  | succ n ih =>
    intro a3 a4 a5 a6 a7 h
    unfold f_X12_alike_L135
    refine S_iload (pc := 135) 4 rfl dX12_alike_135 ?_
    refine S_if_eq (pc := 137) (tgt := 158) dX12_alike_137 (by decide) ?_ ?_
    · refine S_sub [0, 1, 2, 3, 4] rfl ?_
      exact Sim.fin ⟨rfl, rfl, rfl, rfl⟩ rfl
    · refine S_iload (pc := 140) 3 rfl dX12_alike_140 ?_
      refine S_iload (pc := 142) 4 rfl dX12_alike_142 ?_
      refine Sim.ite (fun _ => Sim.none) (fun hz16 => ?_)
      refine S_irem (pc := 144) hz16 dX12_alike_144 ?_
      refine S_istore (pc := 145) dX12_alike_145 (Nat.le_of_ble_eq_true rfl) rfl ?_
      refine S_iload (pc := 147) 5 rfl dX12_alike_147 ?_
      refine S_istore (pc := 149) dX12_alike_149 (Nat.le_of_ble_eq_true rfl) rfl ?_
      refine S_iload (pc := 151) 1 rfl dX12_alike_151 ?_
      refine S_istore (pc := 153) dX12_alike_153 (Nat.le_of_ble_eq_true rfl) rfl ?_
      refine S_goto (pc := 155) (tgt := 135) dX12_alike_155 (by decide) ?_
      refine S_sub [3, 4, 5, 1, 0] rfl ?_
      exact ih a3 a4 a5 a7 (a6 - a6 / a7 * a7) h
set_option maxRecDepth 20000 in
set_option maxHeartbeats 4000000 in
theorem W_X12_alike (K : xK) (L : xL) (a0 : Nat) (a1 : Int32) (a2 : Int32) (a3 : Int32) (h : xH) : Sim K L cX12_alike RX12 "alike" 9 2 (fun q : Int32 × xH => q.2) (xRi cX12_alike) 0 [(0, .ref a0), (1, .int a1), (2, .int a2), (3, .int a3)] [] h (f_X12_alike a0 a1 a2 a3 h) := by
  unfold f_X12_alike
  refine S_iload_n (pc := 0) 1 rfl dX12_alike_0 rfl ?_
  refine S_call_i (pc := 1) (rest := []) (fun q hq => R_S (av := [.int a1]) (M_X12_isVector _ a1 h hq) wd_947 wd_945 wd_946 wd_50 hd_X12_isVector ⟨Nat.le_of_ble_eq_true rfl, Nat.le_of_ble_eq_true rfl⟩ rfl (Nat.le_of_ble_eq_true rfl) dX12_alike_1) (fun _ h => absurd h List.not_mem_nil) (fun q1 => ?_)
  refine S_if_eq (pc := 4) (tgt := 23) dX12_alike_4 (by decide) ?_ ?_
  · refine S_ldc (pc := 23) wd_903 dX12_alike_23 ?_
    exact Sim.fin ⟨dX12_alike_25, rfl, rfl⟩ rfl
  · refine S_iload_n (pc := 7) 2 rfl dX12_alike_7 rfl ?_
    refine S_call_i (pc := 8) (rest := []) (fun q hq => R_S (av := [.int a2]) (M_X12_isVector _ a2 q1.2 hq) wd_947 wd_945 wd_946 wd_50 hd_X12_isVector ⟨Nat.le_of_ble_eq_true rfl, Nat.le_of_ble_eq_true rfl⟩ rfl (Nat.le_of_ble_eq_true rfl) dX12_alike_8) (fun _ h => absurd h List.not_mem_nil) (fun q2 => ?_)
    refine S_if_eq (pc := 11) (tgt := 23) dX12_alike_11 (by decide) ?_ ?_
    · refine S_ldc (pc := 23) wd_903 dX12_alike_23 ?_
      exact Sim.fin ⟨dX12_alike_25, rfl, rfl⟩ rfl
    · refine S_iload_n (pc := 14) 3 rfl dX12_alike_14 rfl ?_
      refine S_iconst (pc := 15) dX12_alike_15 ic_0 ?_
      refine S_iconst (pc := 16) dX12_alike_16 ic_1 ?_
      refine S_call_i (pc := 17) (rest := []) (fun q hq => R_S (av := [.int a3, .int (0 : Int32), .int (1 : Int32)]) (M_X12_in _ a3 (0 : Int32) (1 : Int32) q2.2 hq) wd_902 wd_900 wd_901 wd_50 hd_X12_in ⟨Nat.le_of_ble_eq_true rfl, Nat.le_of_ble_eq_true rfl⟩ rfl (Nat.le_of_ble_eq_true rfl) dX12_alike_17) (fun _ h => absurd h List.not_mem_nil) (fun q3 => ?_)
      refine S_if_ne (pc := 20) (tgt := 26) dX12_alike_20 (by decide) ?_ ?_
      · refine S_ldc (pc := 23) wd_903 dX12_alike_23 ?_
        exact Sim.fin ⟨dX12_alike_25, rfl, rfl⟩ rfl
      · refine S_iconst (pc := 26) dX12_alike_26 ic_0 ?_
        refine S_istore (pc := 27) dX12_alike_27 (Nat.le_of_ble_eq_true rfl) rfl ?_
        refine S_iconst (pc := 29) dX12_alike_29 ic_0 ?_
        refine S_istore (pc := 30) dX12_alike_30 (Nat.le_of_ble_eq_true rfl) rfl ?_
        refine S_iconst (pc := 32) dX12_alike_32 ic_1 ?_
        refine S_istore (pc := 33) dX12_alike_33 (Nat.le_of_ble_eq_true rfl) rfl ?_
        refine S_sub [3, 4, 5, 6, 2, 1, 0] rfl ?_
        refine Sim.bind (hs := fun q14 : Int32 × Int32 × Int32 × xH => q14.2.2.2) (px := 114) (lsx := fun q14 => [(0, .ref a0), (1, .int a1), (2, .int a2), (3, .int a3), (4, .int q14.1), (5, .int q14.2.1), (6, .int q14.2.2.1)]) (L_X12_alike_35 K L xN a0 a1 a2 a3 (0 : Int32) (0 : Int32) (1 : Int32) q3.2) (fun q14 => ?_)
        refine S_iload (pc := 114) 5 rfl dX12_alike_114 ?_
        refine Sim.cut (pc' := 125) (st' := [.int (if q14.2.1 = 0 then (1 : Int32) else q14.2.1)]) ?_ (fun kc => ?_)
        · refine S_istore (pc := 125) dX12_alike_125 (Nat.le_of_ble_eq_true rfl) rfl ?_
          refine S_iload (pc := 127) 5 rfl dX12_alike_127 ?_
          refine S_istore (pc := 129) dX12_alike_129 (Nat.le_of_ble_eq_true rfl) rfl ?_
          refine S_iload (pc := 131) 1 rfl dX12_alike_131 ?_
          refine S_istore (pc := 133) dX12_alike_133 (Nat.le_of_ble_eq_true rfl) rfl ?_
          refine S_sub [6, 7, 2, 1, 0] rfl ?_
          refine Sim.bind (hs := fun q17 : Int32 × Int32 × xH => q17.2.2) (px := 158) (lsx := fun q17 => [(3, .int a3), (4, .int q14.1), (5, .int (if q14.2.1 = 0 then (1 : Int32) else q14.2.1)), (6, .int q17.1), (7, .int q17.2.1)]) (L_X12_alike_135 K L xN a3 q14.1 (if q14.2.1 = 0 then (1 : Int32) else q14.2.1) q14.1 (if q14.2.1 = 0 then (1 : Int32) else q14.2.1) q14.2.2.2) (fun q17 => ?_)
          refine S_iload_n (pc := 158) 0 rfl dX12_alike_158 rfl ?_
          refine S_if_ne (pc := 159) (tgt := 167) dX12_alike_159 (by decide) ?_ ?_
          · refine S_iload (pc := 162) 1 rfl dX12_alike_162 ?_
            refine S_goto (pc := 164) (tgt := 169) dX12_alike_164 (by decide) ?_
            refine S_iload (pc := 169) 3 rfl dX12_alike_169 ?_
            refine Sim.ite (fun _ => Sim.none) (fun hz18 => ?_)
            refine S_idiv (pc := 171) hz18 dX12_alike_171 ?_
            exact Sim.fin ⟨dX12_alike_172, rfl, rfl⟩ rfl
          · refine S_iload (pc := 167) 2 rfl dX12_alike_167 ?_
            refine S_iload (pc := 169) 3 rfl dX12_alike_169 ?_
            refine Sim.ite (fun _ => Sim.none) (fun hz19 => ?_)
            refine S_idiv (pc := 171) hz19 dX12_alike_171 ?_
            exact Sim.fin ⟨dX12_alike_172, rfl, rfl⟩ rfl
        · refine D_if_ne (pc := 116) (tgt := 123) dX12_alike_116 (by decide) (fun c15 => ?_) (fun c15 => ?_)
          · refine S_iconst (pc := 119) dX12_alike_119 ic_1 ?_
            refine S_goto (pc := 120) (tgt := 125) dX12_alike_120 (by decide) ?_
            exact x_st (by rw [if_pos c15]) kc
          · refine S_iload (pc := 123) 5 rfl dX12_alike_123 ?_
            exact x_st (by rw [if_neg c15]) kc
theorem M_X12_alike (l : Launch) (a0 : Nat) (a1 : Int32) (a2 : Int32) (a3 : Int32) (h : xH) {q : Int32 × xH} (hq : f_X12_alike a0 a1 a2 a3 h = some q) : xM l yX12_alike cX12_alike 9 (some .int) 2 [.ref a0, .int a1, .int a2, .int a3] h (some (.int q.1)) q.2 := xM_i (by decide +kernel) (Nat.le_of_ble_eq_true rfl) (fun K L => W_X12_alike K L a0 a1 a2 a3 h) hq
theorem dX12_bit_0 : decode cX12_bit 0 = .ok (.aload_n 0, 1) := by decide +kernel
theorem dX12_bit_1 : decode cX12_bit 1 = .ok (.bipush 33, 2) := by decide +kernel
theorem dX12_bit_3 : decode cX12_bit 3 = .ok (.iload_n 1, 1) := by decide +kernel
theorem dX12_bit_4 : decode cX12_bit 4 = .ok (.imul, 1) := by decide +kernel
theorem dX12_bit_5 : decode cX12_bit 5 = .ok (.iconst 1, 1) := by decide +kernel
theorem dX12_bit_6 : decode cX12_bit 6 = .ok (.iadd, 1) := by decide +kernel
theorem dX12_bit_7 : decode cX12_bit 7 = .ok (.iload_n 2, 1) := by decide +kernel
theorem dX12_bit_8 : decode cX12_bit 8 = .ok (.bipush 15, 2) := by decide +kernel
theorem dX12_bit_10 : decode cX12_bit 10 = .ok (.idiv, 1) := by decide +kernel
theorem dX12_bit_11 : decode cX12_bit 11 = .ok (.iadd, 1) := by decide +kernel
theorem dX12_bit_12 : decode cX12_bit 12 = .ok (.iaload, 1) := by decide +kernel
theorem dX12_bit_13 : decode cX12_bit 13 = .ok (.iload_n 2, 1) := by decide +kernel
theorem dX12_bit_14 : decode cX12_bit 14 = .ok (.bipush 15, 2) := by decide +kernel
theorem dX12_bit_16 : decode cX12_bit 16 = .ok (.irem, 1) := by decide +kernel
theorem dX12_bit_17 : decode cX12_bit 17 = .ok (.ishr, 1) := by decide +kernel
theorem dX12_bit_18 : decode cX12_bit 18 = .ok (.iconst 1, 1) := by decide +kernel
theorem dX12_bit_19 : decode cX12_bit 19 = .ok (.iand, 1) := by decide +kernel
theorem dX12_bit_20 : decode cX12_bit 20 = .ok (.ireturn, 1) := by decide +kernel
set_option maxRecDepth 20000 in
set_option maxHeartbeats 4000000 in
theorem W_X12_bit (K : xK) (L : xL) (a0 : Nat) (a1 : Int32) (a2 : Int32) (h : xH) : Sim K L cX12_bit RX12 "bit" 3 0 (fun q : Int32 × xH => q.2) (xRi cX12_bit) 0 [(0, .ref a0), (1, .int a1), (2, .int a2)] [] h (f_X12_bit a0 a1 a2 h) := by
  unfold f_X12_bit
  refine S_aload_n (pc := 0) 0 rfl dX12_bit_0 rfl ?_
  refine S_bipush (pc := 1) dX12_bit_1 bi_33 ?_
  refine S_iload_n (pc := 3) 1 rfl dX12_bit_3 rfl ?_
  refine S_imul (pc := 4) dX12_bit_4 ?_
  refine S_iconst (pc := 5) dX12_bit_5 ic_1 ?_
  refine S_iadd (pc := 6) dX12_bit_6 ?_
  refine S_iload_n (pc := 7) 2 rfl dX12_bit_7 rfl ?_
  refine S_bipush (pc := 8) dX12_bit_8 bi_15 ?_
  refine S_idiv (pc := 10) (by decide) dX12_bit_10 ?_
  refine S_iadd (pc := 11) dX12_bit_11 ?_
  refine S_aI (pc := 12) dX12_bit_12 (fun v1 => ?_)
  refine S_iload_n (pc := 13) 2 rfl dX12_bit_13 rfl ?_
  refine S_bipush (pc := 14) dX12_bit_14 bi_15 ?_
  refine S_irem (pc := 16) (by decide) dX12_bit_16 ?_
  refine S_ishr (pc := 17) dX12_bit_17 ?_
  refine S_iconst (pc := 18) dX12_bit_18 ic_1 ?_
  refine S_iand (pc := 19) dX12_bit_19 ?_
  exact Sim.fin ⟨dX12_bit_20, rfl, rfl⟩ rfl
theorem M_X12_bit (l : Launch) (a0 : Nat) (a1 : Int32) (a2 : Int32) (h : xH) {q : Int32 × xH} (hq : f_X12_bit a0 a1 a2 h = some q) : xM l yX12_bit cX12_bit 3 (some .int) 0 [.ref a0, .int a1, .int a2] h (some (.int q.1)) q.2 := xM_i (by decide +kernel) (Nat.le_of_ble_eq_true rfl) (fun K L => W_X12_bit K L a0 a1 a2 h) hq
theorem dX12_onesAhead_0 : decode cX12_onesAhead 0 = .ok (.iconst 0, 1) := by decide +kernel
theorem dX12_onesAhead_1 : decode cX12_onesAhead 1 = .ok (.istore_n 3, 1) := by decide +kernel
theorem dX12_onesAhead_2 : decode cX12_onesAhead 2 = .ok (.iconst 0, 1) := by decide +kernel
theorem dX12_onesAhead_3 : decode cX12_onesAhead 3 = .ok (.istore 4, 2) := by decide +kernel
theorem dX12_onesAhead_5 : decode cX12_onesAhead 5 = .ok (.iload 4, 2) := by decide +kernel
theorem dX12_onesAhead_7 : decode cX12_onesAhead 7 = .ok (.iload_n 2, 1) := by decide +kernel
theorem dX12_onesAhead_8 : decode cX12_onesAhead 8 = .ok (.if_icmp .ge 19, 3) := by decide +kernel
theorem dX12_onesAhead_11 : decode cX12_onesAhead 11 = .ok (.iload_n 3, 1) := by decide +kernel
theorem dX12_onesAhead_12 : decode cX12_onesAhead 12 = .ok (.aload_n 0, 1) := by decide +kernel
theorem dX12_onesAhead_13 : decode cX12_onesAhead 13 = .ok (.iload_n 1, 1) := by decide +kernel
theorem dX12_onesAhead_14 : decode cX12_onesAhead 14 = .ok (.iload 4, 2) := by decide +kernel
theorem dX12_onesAhead_16 : decode cX12_onesAhead 16 = .ok (.invokestatic 163, 3) := by decide +kernel
theorem dX12_onesAhead_19 : decode cX12_onesAhead 19 = .ok (.iadd, 1) := by decide +kernel
theorem dX12_onesAhead_20 : decode cX12_onesAhead 20 = .ok (.istore_n 3, 1) := by decide +kernel
theorem dX12_onesAhead_21 : decode cX12_onesAhead 21 = .ok (.iinc 4 1, 3) := by decide +kernel
theorem dX12_onesAhead_24 : decode cX12_onesAhead 24 = .ok (.goto (-19), 3) := by decide +kernel
theorem dX12_onesAhead_27 : decode cX12_onesAhead 27 = .ok (.iload_n 3, 1) := by decide +kernel
theorem dX12_onesAhead_28 : decode cX12_onesAhead 28 = .ok (.ireturn, 1) := by decide +kernel
set_option maxRecDepth 20000 in
set_option maxHeartbeats 4000000 in
theorem L_X12_onesAhead_5 (K : xK) (L : xL) : ∀ (n : Nat) (a0 : Nat) (a1 : Int32) (a2 : Int32) (a3 : Int32) (a4 : Int32) (h : xH), Sim K L cX12_onesAhead RX12 "onesAhead" 5 1 (fun q : Int32 × Int32 × xH => q.2.2) (fun q pc' ls' st' h' => pc' = 27 ∧ ls' = [(0, .ref a0), (1, .int a1), (2, .int a2), (3, .int q.1), (4, .int q.2.1)] ∧ st' = [] ∧ h' = q.2.2) 5 [(0, .ref a0), (1, .int a1), (2, .int a2), (3, .int a3), (4, .int a4)] [] h (f_X12_onesAhead_L5 n a0 a1 a2 a3 a4 h) := by
  intro n
  induction n with
  | zero =>
    intro a0 a1 a2 a3 a4 h
    exact Sim.none
  | succ n ih =>
    intro a0 a1 a2 a3 a4 h
    unfold f_X12_onesAhead_L5
    refine S_iload (pc := 5) 4 rfl dX12_onesAhead_5 ?_
    refine S_iload_n (pc := 7) 2 rfl dX12_onesAhead_7 rfl ?_
    refine S_icmp_ge (pc := 8) (tgt := 27) dX12_onesAhead_8 (by decide) ?_ ?_
    · refine S_sub [0, 1, 2, 3, 4] rfl ?_
      exact Sim.fin ⟨rfl, rfl, rfl, rfl⟩ rfl
    · refine S_iload_n (pc := 11) 3 rfl dX12_onesAhead_11 rfl ?_
      refine S_aload_n (pc := 12) 0 rfl dX12_onesAhead_12 rfl ?_
      refine S_iload_n (pc := 13) 1 rfl dX12_onesAhead_13 rfl ?_
      refine S_iload (pc := 14) 4 rfl dX12_onesAhead_14 ?_
      refine S_call_i (pc := 16) (rest := [.int a3]) (fun q hq => R_S (av := [.ref a0, .int a1, .int a4]) (M_X12_bit _ a0 a1 a4 h hq) wd_1018 wd_1016 wd_1017 wd_50 hd_X12_bit ⟨Nat.le_of_ble_eq_true rfl, Nat.le_of_ble_eq_true rfl⟩ rfl (Nat.le_of_ble_eq_true rfl) dX12_onesAhead_16) (fun _ h => List.mem_cons_of_mem _ (List.mem_cons_of_mem _ (List.mem_cons_of_mem _ (h)))) (fun q1 => ?_)
      refine S_iadd (pc := 19) dX12_onesAhead_19 ?_
      refine S_istore_n (pc := 20) dX12_onesAhead_20 rfl (Nat.le_of_ble_eq_true rfl) rfl ?_
      refine S_iinc (pc := 21) (v := a4 + (1 : Int32)) 4 rfl dX12_onesAhead_21 (x_inc ic_1) (Nat.le_of_ble_eq_true rfl) rfl ?_
      refine S_goto (pc := 24) (tgt := 5) dX12_onesAhead_24 (by decide) ?_
      refine S_sub [2, 3, 4, 1, 0] rfl ?_
      exact ih a0 a1 a2 (a3 + q1.1) (a4 + (1 : Int32)) q1.2
set_option maxRecDepth 20000 in
set_option maxHeartbeats 4000000 in
theorem W_X12_onesAhead (K : xK) (L : xL) (a0 : Nat) (a1 : Int32) (a2 : Int32) (h : xH) : Sim K L cX12_onesAhead RX12 "onesAhead" 5 1 (fun q : Int32 × xH => q.2) (xRi cX12_onesAhead) 0 [(0, .ref a0), (1, .int a1), (2, .int a2)] [] h (f_X12_onesAhead a0 a1 a2 h) := by
  unfold f_X12_onesAhead
  refine S_iconst (pc := 0) dX12_onesAhead_0 ic_0 ?_
  refine S_istore_n (pc := 1) dX12_onesAhead_1 rfl (Nat.le_of_ble_eq_true rfl) rfl ?_
  refine S_iconst (pc := 2) dX12_onesAhead_2 ic_0 ?_
  refine S_istore (pc := 3) dX12_onesAhead_3 (Nat.le_of_ble_eq_true rfl) rfl ?_
  refine S_sub [2, 3, 4, 1, 0] rfl ?_
  refine Sim.bind (hs := fun q2 : Int32 × Int32 × xH => q2.2.2) (px := 27) (lsx := fun q2 => [(0, .ref a0), (1, .int a1), (2, .int a2), (3, .int q2.1), (4, .int q2.2.1)]) (L_X12_onesAhead_5 K L xN a0 a1 a2 (0 : Int32) (0 : Int32) h) (fun q2 => ?_)
  refine S_iload_n (pc := 27) 3 rfl dX12_onesAhead_27 rfl ?_
  exact Sim.fin ⟨dX12_onesAhead_28, rfl, rfl⟩ rfl
theorem M_X12_onesAhead (l : Launch) (a0 : Nat) (a1 : Int32) (a2 : Int32) (h : xH) {q : Int32 × xH} (hq : f_X12_onesAhead a0 a1 a2 h = some q) : xM l yX12_onesAhead cX12_onesAhead 5 (some .int) 1 [.ref a0, .int a1, .int a2] h (some (.int q.1)) q.2 := xM_i (by decide +kernel) (Nat.le_of_ble_eq_true rfl) (fun K L => W_X12_onesAhead K L a0 a1 a2 h) hq
theorem dX12_allOnes_0 : decode cX12_allOnes 0 = .ok (.aload_n 0, 1) := by decide +kernel
theorem dX12_allOnes_1 : decode cX12_allOnes 1 = .ok (.getfield 25, 3) := by decide +kernel
theorem dX12_allOnes_4 : decode cX12_allOnes 4 = .ok (.iload_n 1, 1) := by decide +kernel
theorem dX12_allOnes_5 : decode cX12_allOnes 5 = .ok (.aload_n 0, 1) := by decide +kernel
theorem dX12_allOnes_6 : decode cX12_allOnes 6 = .ok (.iload_n 1, 1) := by decide +kernel
theorem dX12_allOnes_7 : decode cX12_allOnes 7 = .ok (.invokevirtual 167, 3) := by decide +kernel
theorem dX12_allOnes_10 : decode cX12_allOnes 10 = .ok (.invokestatic 170, 3) := by decide +kernel
theorem dX12_allOnes_13 : decode cX12_allOnes 13 = .ok (.ireturn, 1) := by decide +kernel
set_option maxRecDepth 20000 in
set_option maxHeartbeats 4000000 in
theorem W_X12_allOnes (K : xK) (L : xL) (a0 : Nat) (a1 : Int32) (h : xH) : Sim K L cX12_allOnes RX12 "allOnes" 2 2 (fun q : Int32 × xH => q.2) (xRi cX12_allOnes) 0 [(0, .ref a0), (1, .int a1)] [] h (f_X12_allOnes a0 a1 h) := by
  unfold f_X12_allOnes
  refine S_aload_n (pc := 0) 0 rfl dX12_allOnes_0 rfl ?_
  refine S_getR (pc := 1) fd_X12_now wd_821 dX12_allOnes_1 (fun v1 => ?_)
  refine S_iload_n (pc := 4) 1 rfl dX12_allOnes_4 rfl ?_
  refine S_aload_n (pc := 5) 0 rfl dX12_allOnes_5 rfl ?_
  refine S_iload_n (pc := 6) 1 rfl dX12_allOnes_6 rfl ?_
  refine S_call_i (pc := 7) (rest := [.int a1, .ref v1]) (fun q hq => (x_if hq).elim (fun z => R_V (av := [.int a1]) (q := (RX12, TX12, 28)) (M_X12_bitsOf _ a0 a1 h z.2) z.1 rfl wd_1012 wd_1009 wd_1011 wd_50 wd_28 ⟨rfl, hd_X12_bitsOf⟩ ⟨Nat.le_of_ble_eq_true rfl, Nat.le_of_ble_eq_true rfl⟩ rfl (Nat.le_of_ble_eq_true rfl) dX12_allOnes_7) (fun hq => (by cases hq))) (fun _ h => List.mem_cons_of_mem _ (List.mem_cons_of_mem _ (h))) (fun q2 => ?_)
  refine S_call_i (pc := 10) (rest := []) (fun q hq => R_S (av := [.ref v1, .int a1, .int q2.1]) (M_X12_onesAhead _ v1 a1 q2.1 q2.2 hq) wd_1037 wd_1035 wd_1036 wd_50 hd_X12_onesAhead ⟨Nat.le_of_ble_eq_true rfl, Nat.le_of_ble_eq_true rfl⟩ rfl (Nat.le_of_ble_eq_true rfl) dX12_allOnes_10) (fun _ h => absurd h List.not_mem_nil) (fun q3 => ?_)
  exact Sim.fin ⟨dX12_allOnes_13, rfl, rfl⟩ rfl
theorem M_X12_allOnes (l : Launch) (a0 : Nat) (a1 : Int32) (h : xH) {q : Int32 × xH} (hq : f_X12_allOnes a0 a1 h = some q) : xM l yX12_allOnes cX12_allOnes 2 (some .int) 2 [.ref a0, .int a1] h (some (.int q.1)) q.2 := xM_i (by decide +kernel) (Nat.le_of_ble_eq_true rfl) (fun K L => W_X12_allOnes K L a0 a1 h) hq
theorem dX12_kindIn_0 : decode cX12_kindIn 0 = .ok (.aload_n 0, 1) := by decide +kernel
theorem dX12_kindIn_1 : decode cX12_kindIn 1 = .ok (.getfield 41, 3) := by decide +kernel
theorem dX12_kindIn_4 : decode cX12_kindIn 4 = .ok (.iload_n 1, 1) := by decide +kernel
theorem dX12_kindIn_5 : decode cX12_kindIn 5 = .ok (.iaload, 1) := by decide +kernel
theorem dX12_kindIn_6 : decode cX12_kindIn 6 = .ok (.ireturn, 1) := by decide +kernel
set_option maxRecDepth 20000 in
set_option maxHeartbeats 4000000 in
theorem W_X12_kindIn (K : xK) (L : xL) (a0 : Nat) (a1 : Int32) (h : xH) : Sim K L cX12_kindIn RX12 "kindIn" 2 0 (fun q : Int32 × xH => q.2) (xRi cX12_kindIn) 0 [(0, .ref a0), (1, .int a1)] [] h (f_X12_kindIn a0 a1 h) := by
  unfold f_X12_kindIn
  refine S_aload_n (pc := 0) 0 rfl dX12_kindIn_0 rfl ?_
  refine S_getR (pc := 1) fd_X12_kinds wd_828 dX12_kindIn_1 (fun v1 => ?_)
  refine S_iload_n (pc := 4) 1 rfl dX12_kindIn_4 rfl ?_
  refine S_aI (pc := 5) dX12_kindIn_5 (fun v2 => ?_)
  exact Sim.fin ⟨dX12_kindIn_6, rfl, rfl⟩ rfl
theorem M_X12_kindIn (l : Launch) (a0 : Nat) (a1 : Int32) (h : xH) {q : Int32 × xH} (hq : f_X12_kindIn a0 a1 h = some q) : xM l yX12_kindIn cX12_kindIn 2 (some .int) 0 [.ref a0, .int a1] h (some (.int q.1)) q.2 := xM_i (by decide +kernel) (Nat.le_of_ble_eq_true rfl) (fun K L => W_X12_kindIn K L a0 a1 h) hq
theorem dX12_traces_0 : decode cX12_traces 0 = .ok (.aload_n 0, 1) := by decide +kernel
theorem dX12_traces_1 : decode cX12_traces 1 = .ok (.getfield 233, 3) := by decide +kernel
theorem dX12_traces_4 : decode cX12_traces 4 = .ok (.bipush 16, 2) := by decide +kernel
theorem dX12_traces_6 : decode cX12_traces 6 = .ok (.if_icmp .ge 23, 3) := by decide +kernel
theorem dX12_traces_9 : decode cX12_traces 9 = .ok (.aload_n 0, 1) := by decide +kernel
theorem dX12_traces_10 : decode cX12_traces 10 = .ok (.getfield 56, 3) := by decide +kernel
theorem dX12_traces_13 : decode cX12_traces 13 = .ok (.aload_n 0, 1) := by decide +kernel
theorem dX12_traces_14 : decode cX12_traces 14 = .ok (.getfield 233, 3) := by decide +kernel
theorem dX12_traces_17 : decode cX12_traces 17 = .ok (.iload_n 1, 1) := by decide +kernel
theorem dX12_traces_18 : decode cX12_traces 18 = .ok (.iastore, 1) := by decide +kernel
theorem dX12_traces_19 : decode cX12_traces 19 = .ok (.aload_n 0, 1) := by decide +kernel
theorem dX12_traces_20 : decode cX12_traces 20 = .ok (.dup, 1) := by decide +kernel
theorem dX12_traces_21 : decode cX12_traces 21 = .ok (.getfield 233, 3) := by decide +kernel
theorem dX12_traces_24 : decode cX12_traces 24 = .ok (.iconst 1, 1) := by decide +kernel
theorem dX12_traces_25 : decode cX12_traces 25 = .ok (.iadd, 1) := by decide +kernel
theorem dX12_traces_26 : decode cX12_traces 26 = .ok (.putfield 233, 3) := by decide +kernel
theorem dX12_traces_29 : decode cX12_traces 29 = .ok (.return_, 1) := by decide +kernel
set_option maxRecDepth 20000 in
set_option maxHeartbeats 4000000 in
theorem W_X12_traces (K : xK) (L : xL) (a0 : Nat) (a1 : Int32) (h : xH) : Sim K L cX12_traces RX12 "traces" 2 0 (fun q : xH => q) (xRv cX12_traces) 0 [(0, .ref a0), (1, .int a1)] [] h (f_X12_traces a0 a1 h) := by
  unfold f_X12_traces
  refine S_aload_n (pc := 0) 0 rfl dX12_traces_0 rfl ?_
  refine S_getI (pc := 1) fd_X12_traced wd_835 dX12_traces_1 (fun v1 => ?_)
  refine S_bipush (pc := 4) dX12_traces_4 bi_16 ?_
  refine S_icmp_ge (pc := 6) (tgt := 29) dX12_traces_6 (by decide) ?_ ?_
  · exact Sim.fin ⟨dX12_traces_29, rfl, rfl⟩ rfl
  · refine S_aload_n (pc := 9) 0 rfl dX12_traces_9 rfl ?_
    refine S_getR (pc := 10) fd_X12_trace wd_834 dX12_traces_10 (fun v2 => ?_)
    refine S_aload_n (pc := 13) 0 rfl dX12_traces_13 rfl ?_
    refine S_getI (pc := 14) fd_X12_traced wd_835 dX12_traces_14 (fun v3 => ?_)
    refine S_iload_n (pc := 17) 1 rfl dX12_traces_17 rfl ?_
    refine S_uI (pc := 18) dX12_traces_18 (fun h4 => ?_)
    refine S_aload_n (pc := 19) 0 rfl dX12_traces_19 rfl ?_
    refine S_dup (pc := 20) rfl dX12_traces_20 ?_
    refine S_getI (pc := 21) fd_X12_traced wd_835 dX12_traces_21 (fun v5 => ?_)
    refine S_iconst (pc := 24) dX12_traces_24 ic_1 ?_
    refine S_iadd (pc := 25) dX12_traces_25 ?_
    refine S_putI (pc := 26) fd_X12_traced wd_835 rfl rfl dX12_traces_26 (fun h6 => ?_)
    exact Sim.fin ⟨dX12_traces_29, rfl, rfl⟩ rfl
theorem M_X12_traces (l : Launch) (a0 : Nat) (a1 : Int32) (h : xH) {q : xH} (hq : f_X12_traces a0 a1 h = some q) : xM l yX12_traces cX12_traces 2 none 0 [.ref a0, .int a1] h none q := xM_v (by decide +kernel) (Nat.le_of_ble_eq_true rfl) (fun K L => W_X12_traces K L a0 a1 h) hq
theorem dX12_alternateSize_0 : decode cX12_alternateSize 0 = .ok (.aload_n 0, 1) := by decide +kernel
theorem dX12_alternateSize_1 : decode cX12_alternateSize 1 = .ok (.iload_n 1, 1) := by decide +kernel
theorem dX12_alternateSize_2 : decode cX12_alternateSize 2 = .ok (.invokevirtual 230, 3) := by decide +kernel
theorem dX12_alternateSize_5 : decode cX12_alternateSize 5 = .ok (.iconst 5, 1) := by decide +kernel
theorem dX12_alternateSize_6 : decode cX12_alternateSize 6 = .ok (.if_icmp .ne 7, 3) := by decide +kernel
theorem dX12_alternateSize_9 : decode cX12_alternateSize 9 = .ok (.iconst 1, 1) := by decide +kernel
theorem dX12_alternateSize_10 : decode cX12_alternateSize 10 = .ok (.goto 4, 3) := by decide +kernel
theorem dX12_alternateSize_13 : decode cX12_alternateSize 13 = .ok (.iconst 0, 1) := by decide +kernel
theorem dX12_alternateSize_14 : decode cX12_alternateSize 14 = .ok (.istore_n 2, 1) := by decide +kernel
theorem dX12_alternateSize_15 : decode cX12_alternateSize 15 = .ok (.iload_n 2, 1) := by decide +kernel
theorem dX12_alternateSize_16 : decode cX12_alternateSize 16 = .ok (.ifCond .eq 9, 3) := by decide +kernel
theorem dX12_alternateSize_19 : decode cX12_alternateSize 19 = .ok (.aload_n 0, 1) := by decide +kernel
theorem dX12_alternateSize_20 : decode cX12_alternateSize 20 = .ok (.bipush 14, 2) := by decide +kernel
theorem dX12_alternateSize_22 : decode cX12_alternateSize 22 = .ok (.invokevirtual 236, 3) := by decide +kernel
theorem dX12_alternateSize_25 : decode cX12_alternateSize 25 = .ok (.aload_n 0, 1) := by decide +kernel
theorem dX12_alternateSize_26 : decode cX12_alternateSize 26 = .ok (.bipush 13, 2) := by decide +kernel
theorem dX12_alternateSize_28 : decode cX12_alternateSize 28 = .ok (.invokevirtual 236, 3) := by decide +kernel
theorem dX12_alternateSize_31 : decode cX12_alternateSize 31 = .ok (.aload_n 0, 1) := by decide +kernel
theorem dX12_alternateSize_32 : decode cX12_alternateSize 32 = .ok (.bipush 10, 2) := by decide +kernel
theorem dX12_alternateSize_34 : decode cX12_alternateSize 34 = .ok (.invokevirtual 236, 3) := by decide +kernel
theorem dX12_alternateSize_37 : decode cX12_alternateSize 37 = .ok (.aload_n 0, 1) := by decide +kernel
theorem dX12_alternateSize_38 : decode cX12_alternateSize 38 = .ok (.getfield 44, 3) := by decide +kernel
theorem dX12_alternateSize_41 : decode cX12_alternateSize 41 = .ok (.iload_n 1, 1) := by decide +kernel
theorem dX12_alternateSize_42 : decode cX12_alternateSize 42 = .ok (.iaload, 1) := by decide +kernel
theorem dX12_alternateSize_43 : decode cX12_alternateSize 43 = .ok (.bipush 100, 2) := by decide +kernel
theorem dX12_alternateSize_45 : decode cX12_alternateSize 45 = .ok (.isub, 1) := by decide +kernel
theorem dX12_alternateSize_46 : decode cX12_alternateSize 46 = .ok (.istore_n 3, 1) := by decide +kernel
theorem dX12_alternateSize_47 : decode cX12_alternateSize 47 = .ok (.iload_n 2, 1) := by decide +kernel
theorem dX12_alternateSize_48 : decode cX12_alternateSize 48 = .ok (.ifCond .eq 9, 3) := by decide +kernel
theorem dX12_alternateSize_51 : decode cX12_alternateSize 51 = .ok (.iconst 2, 1) := by decide +kernel
theorem dX12_alternateSize_52 : decode cX12_alternateSize 52 = .ok (.iload_n 3, 1) := by decide +kernel
theorem dX12_alternateSize_53 : decode cX12_alternateSize 53 = .ok (.imul, 1) := by decide +kernel
theorem dX12_alternateSize_54 : decode cX12_alternateSize 54 = .ok (.goto 4, 3) := by decide +kernel
theorem dX12_alternateSize_57 : decode cX12_alternateSize 57 = .ok (.iload_n 3, 1) := by decide +kernel
theorem dX12_alternateSize_58 : decode cX12_alternateSize 58 = .ok (.ireturn, 1) := by decide +kernel
set_option maxRecDepth 20000 in
set_option maxHeartbeats 4000000 in
theorem W_X12_alternateSize (K : xK) (L : xL) (a0 : Nat) (a1 : Int32) (h : xH) : Sim K L cX12_alternateSize RX12 "alternateSize" 4 1 (fun q : Int32 × xH => q.2) (xRi cX12_alternateSize) 0 [(0, .ref a0), (1, .int a1)] [] h (f_X12_alternateSize a0 a1 h) := by
  unfold f_X12_alternateSize
  refine S_aload_n (pc := 0) 0 rfl dX12_alternateSize_0 rfl ?_
  refine S_iload_n (pc := 1) 1 rfl dX12_alternateSize_1 rfl ?_
  refine S_call_i (pc := 2) (rest := []) (fun q hq => (x_if hq).elim (fun z => R_V (av := [.int a1]) (q := (RX12, TX12, 28)) (M_X12_kindIn _ a0 a1 h z.2) z.1 rfl wd_1184 wd_1181 wd_1183 wd_50 wd_36 ⟨rfl, hd_X12_kindIn⟩ ⟨Nat.le_of_ble_eq_true rfl, Nat.le_of_ble_eq_true rfl⟩ rfl (Nat.le_of_ble_eq_true rfl) dX12_alternateSize_2) (fun hq => (by cases hq))) (fun _ h => absurd h List.not_mem_nil) (fun q1 => ?_)
  refine S_iconst (pc := 5) dX12_alternateSize_5 ic_5 ?_
  refine Sim.cut (pc' := 14) (st' := [.int (if q1.1 = (5 : Int32) then (1 : Int32) else (0 : Int32))]) ?_ (fun kc => ?_)
  · refine S_istore_n (pc := 14) dX12_alternateSize_14 rfl (Nat.le_of_ble_eq_true rfl) rfl ?_
    refine S_iload_n (pc := 15) 0 rfl dX12_alternateSize_15 rfl ?_
    refine Sim.bindS (hs := fun q4 : xH => q4) (px := 25) (lsx := fun q4 => [(0, .ref a0), (1, .int a1), (2, .int (if q1.1 = (5 : Int32) then (1 : Int32) else (0 : Int32)))]) (stx := fun q4 => []) ?_ (fun q4 => ?_)
    · refine S_if_eq (pc := 16) (tgt := 25) dX12_alternateSize_16 (by decide) ?_ ?_
      · refine S_sub [1, 2, 0] rfl ?_
        exact Sim.fin ⟨rfl, rfl, rfl, rfl⟩ rfl
      · refine S_aload_n (pc := 19) 1 rfl dX12_alternateSize_19 rfl ?_
        refine S_bipush (pc := 20) dX12_alternateSize_20 bi_14 ?_
        refine S_call_v (pc := 22) (rest := []) (fun q hq => (x_if hq).elim (fun z => R_V (av := [.int (14 : Int32)]) (q := (RX12, TX12, 28)) (M_X12_traces _ a0 (14 : Int32) q1.2 z.2) z.1 rfl wd_1200 wd_1197 wd_1199 wd_50 wd_38 ⟨rfl, hd_X12_traces⟩ ⟨Nat.le_of_ble_eq_true rfl, Nat.le_of_ble_eq_true rfl⟩ rfl (Nat.le_of_ble_eq_true rfl) dX12_alternateSize_22) (fun hq => (by cases hq))) (fun _ h => absurd h List.not_mem_nil) (fun q3 => ?_)
        refine S_sub [1, 2, 0] rfl ?_
        exact Sim.fin ⟨rfl, rfl, rfl, rfl⟩ rfl
    · refine S_aload_n (pc := 25) 0 rfl dX12_alternateSize_25 rfl ?_
      refine S_bipush (pc := 26) dX12_alternateSize_26 bi_13 ?_
      refine S_call_v (pc := 28) (rest := []) (fun q hq => (x_if hq).elim (fun z => R_V (av := [.int (13 : Int32)]) (q := (RX12, TX12, 28)) (M_X12_traces _ a0 (13 : Int32) q4 z.2) z.1 rfl wd_1200 wd_1197 wd_1199 wd_50 wd_38 ⟨rfl, hd_X12_traces⟩ ⟨Nat.le_of_ble_eq_true rfl, Nat.le_of_ble_eq_true rfl⟩ rfl (Nat.le_of_ble_eq_true rfl) dX12_alternateSize_28) (fun hq => (by cases hq))) (fun _ h => absurd h List.not_mem_nil) (fun q5 => ?_)
      refine S_aload_n (pc := 31) 0 rfl dX12_alternateSize_31 rfl ?_
      refine S_bipush (pc := 32) dX12_alternateSize_32 bi_10 ?_
      refine S_call_v (pc := 34) (rest := []) (fun q hq => (x_if hq).elim (fun z => R_V (av := [.int (10 : Int32)]) (q := (RX12, TX12, 28)) (M_X12_traces _ a0 (10 : Int32) q5 z.2) z.1 rfl wd_1200 wd_1197 wd_1199 wd_50 wd_38 ⟨rfl, hd_X12_traces⟩ ⟨Nat.le_of_ble_eq_true rfl, Nat.le_of_ble_eq_true rfl⟩ rfl (Nat.le_of_ble_eq_true rfl) dX12_alternateSize_34) (fun hq => (by cases hq))) (fun _ h => absurd h List.not_mem_nil) (fun q6 => ?_)
      refine S_aload_n (pc := 37) 0 rfl dX12_alternateSize_37 rfl ?_
      refine S_getR (pc := 38) fd_X12_length wd_829 dX12_alternateSize_38 (fun v7 => ?_)
      refine S_iload_n (pc := 41) 1 rfl dX12_alternateSize_41 rfl ?_
      refine S_aI (pc := 42) dX12_alternateSize_42 (fun v8 => ?_)
      refine S_bipush (pc := 43) dX12_alternateSize_43 bi_100 ?_
      refine S_isub (pc := 45) dX12_alternateSize_45 ?_
      refine S_istore_n (pc := 46) dX12_alternateSize_46 rfl (Nat.le_of_ble_eq_true rfl) rfl ?_
      refine S_iload_n (pc := 47) 3 rfl dX12_alternateSize_47 rfl ?_
      refine S_if_eq (pc := 48) (tgt := 57) dX12_alternateSize_48 (by decide) ?_ ?_
      · refine S_iload_n (pc := 57) 0 rfl dX12_alternateSize_57 rfl ?_
        exact Sim.fin ⟨dX12_alternateSize_58, rfl, rfl⟩ rfl
      · refine S_iconst (pc := 51) dX12_alternateSize_51 ic_2 ?_
        refine S_iload_n (pc := 52) 0 rfl dX12_alternateSize_52 rfl ?_
        refine S_imul (pc := 53) dX12_alternateSize_53 ?_
        refine S_goto (pc := 54) (tgt := 58) dX12_alternateSize_54 (by decide) ?_
        exact Sim.fin ⟨dX12_alternateSize_58, rfl, rfl⟩ rfl
  · refine D_icmp_ne (pc := 6) (tgt := 13) dX12_alternateSize_6 (by decide) (fun c2 => ?_) (fun c2 => ?_)
    · refine S_iconst (pc := 9) dX12_alternateSize_9 ic_1 ?_
      refine S_goto (pc := 10) (tgt := 14) dX12_alternateSize_10 (by decide) ?_
      exact x_st (by rw [if_pos c2]) kc
    · refine S_iconst (pc := 13) dX12_alternateSize_13 ic_0 ?_
      exact x_st (by rw [if_neg c2]) kc
theorem M_X12_alternateSize (l : Launch) (a0 : Nat) (a1 : Int32) (h : xH) {q : Int32 × xH} (hq : f_X12_alternateSize a0 a1 h = some q) : xM l yX12_alternateSize cX12_alternateSize 4 (some .int) 1 [.ref a0, .int a1] h (some (.int q.1)) q.2 := xM_i (by decide +kernel) (Nat.le_of_ble_eq_true rfl) (fun K L => W_X12_alternateSize K L a0 a1 h) hq
theorem dX12_alternateMark_0 : decode cX12_alternateMark 0 = .ok (.aload_n 0, 1) := by decide +kernel
theorem dX12_alternateMark_1 : decode cX12_alternateMark 1 = .ok (.bipush 23, 2) := by decide +kernel
theorem dX12_alternateMark_3 : decode cX12_alternateMark 3 = .ok (.invokevirtual 236, 3) := by decide +kernel
theorem dX12_alternateMark_6 : decode cX12_alternateMark 6 = .ok (.aload_n 0, 1) := by decide +kernel
theorem dX12_alternateMark_7 : decode cX12_alternateMark 7 = .ok (.bipush 20, 2) := by decide +kernel
theorem dX12_alternateMark_9 : decode cX12_alternateMark 9 = .ok (.invokevirtual 236, 3) := by decide +kernel
theorem dX12_alternateMark_12 : decode cX12_alternateMark 12 = .ok (.iload_n 1, 1) := by decide +kernel
theorem dX12_alternateMark_13 : decode cX12_alternateMark 13 = .ok (.aload_n 0, 1) := by decide +kernel
theorem dX12_alternateMark_14 : decode cX12_alternateMark 14 = .ok (.iload_n 1, 1) := by decide +kernel
theorem dX12_alternateMark_15 : decode cX12_alternateMark 15 = .ok (.invokevirtual 246, 3) := by decide +kernel
theorem dX12_alternateMark_18 : decode cX12_alternateMark 18 = .ok (.isub, 1) := by decide +kernel
theorem dX12_alternateMark_19 : decode cX12_alternateMark 19 = .ok (.ireturn, 1) := by decide +kernel
set_option maxRecDepth 20000 in
set_option maxHeartbeats 4000000 in
theorem W_X12_alternateMark (K : xK) (L : xL) (a0 : Nat) (a1 : Int32) (h : xH) : Sim K L cX12_alternateMark RX12 "alternateMark" 2 2 (fun q : Int32 × xH => q.2) (xRi cX12_alternateMark) 0 [(0, .ref a0), (1, .int a1)] [] h (f_X12_alternateMark a0 a1 h) := by
  unfold f_X12_alternateMark
  refine S_aload_n (pc := 0) 0 rfl dX12_alternateMark_0 rfl ?_
  refine S_bipush (pc := 1) dX12_alternateMark_1 bi_23 ?_
  refine S_call_v (pc := 3) (rest := []) (fun q hq => (x_if hq).elim (fun z => R_V (av := [.int (23 : Int32)]) (q := (RX12, TX12, 28)) (M_X12_traces _ a0 (23 : Int32) h z.2) z.1 rfl wd_1200 wd_1197 wd_1199 wd_50 wd_38 ⟨rfl, hd_X12_traces⟩ ⟨Nat.le_of_ble_eq_true rfl, Nat.le_of_ble_eq_true rfl⟩ rfl (Nat.le_of_ble_eq_true rfl) dX12_alternateMark_3) (fun hq => (by cases hq))) (fun _ h => absurd h List.not_mem_nil) (fun q1 => ?_)
  refine S_aload_n (pc := 6) 0 rfl dX12_alternateMark_6 rfl ?_
  refine S_bipush (pc := 7) dX12_alternateMark_7 bi_20 ?_
  refine S_call_v (pc := 9) (rest := []) (fun q hq => (x_if hq).elim (fun z => R_V (av := [.int (20 : Int32)]) (q := (RX12, TX12, 28)) (M_X12_traces _ a0 (20 : Int32) q1 z.2) z.1 rfl wd_1200 wd_1197 wd_1199 wd_50 wd_38 ⟨rfl, hd_X12_traces⟩ ⟨Nat.le_of_ble_eq_true rfl, Nat.le_of_ble_eq_true rfl⟩ rfl (Nat.le_of_ble_eq_true rfl) dX12_alternateMark_9) (fun hq => (by cases hq))) (fun _ h => absurd h List.not_mem_nil) (fun q2 => ?_)
  refine S_iload_n (pc := 12) 1 rfl dX12_alternateMark_12 rfl ?_
  refine S_aload_n (pc := 13) 0 rfl dX12_alternateMark_13 rfl ?_
  refine S_iload_n (pc := 14) 1 rfl dX12_alternateMark_14 rfl ?_
  refine S_call_i (pc := 15) (rest := [.int a1]) (fun q hq => (x_if hq).elim (fun z => R_V (av := [.int a1]) (q := (RX12, TX12, 28)) (M_X12_alternateSize _ a0 a1 q2 z.2) z.1 rfl wd_1196 wd_1193 wd_1195 wd_50 wd_37 ⟨rfl, hd_X12_alternateSize⟩ ⟨Nat.le_of_ble_eq_true rfl, Nat.le_of_ble_eq_true rfl⟩ rfl (Nat.le_of_ble_eq_true rfl) dX12_alternateMark_15) (fun hq => (by cases hq))) (fun _ h => List.mem_cons_of_mem _ (List.mem_cons_of_mem _ (h))) (fun q3 => ?_)
  refine S_isub (pc := 18) dX12_alternateMark_18 ?_
  exact Sim.fin ⟨dX12_alternateMark_19, rfl, rfl⟩ rfl
theorem M_X12_alternateMark (l : Launch) (a0 : Nat) (a1 : Int32) (h : xH) {q : Int32 × xH} (hq : f_X12_alternateMark a0 a1 h = some q) : xM l yX12_alternateMark cX12_alternateMark 2 (some .int) 2 [.ref a0, .int a1] h (some (.int q.1)) q.2 := xM_i (by decide +kernel) (Nat.le_of_ble_eq_true rfl) (fun K L => W_X12_alternateMark K L a0 a1 h) hq
theorem dX12_found_0 : decode cX12_found 0 = .ok (.aload_n 0, 1) := by decide +kernel
theorem dX12_found_1 : decode cX12_found 1 = .ok (.iload_n 1, 1) := by decide +kernel
theorem dX12_found_2 : decode cX12_found 2 = .ok (.putfield 60, 3) := by decide +kernel
theorem dX12_found_5 : decode cX12_found 5 = .ok (.ldc 64, 2) := by decide +kernel
theorem dX12_found_7 : decode cX12_found 7 = .ok (.iload_n 1, 1) := by decide +kernel
theorem dX12_found_8 : decode cX12_found 8 = .ok (.isub, 1) := by decide +kernel
theorem dX12_found_9 : decode cX12_found 9 = .ok (.ireturn, 1) := by decide +kernel
set_option maxRecDepth 20000 in
set_option maxHeartbeats 4000000 in
theorem W_X12_found (K : xK) (L : xL) (a0 : Nat) (a1 : Int32) (h : xH) : Sim K L cX12_found RX12 "found" 2 0 (fun q : Int32 × xH => q.2) (xRi cX12_found) 0 [(0, .ref a0), (1, .int a1)] [] h (f_X12_found a0 a1 h) := by
  unfold f_X12_found
  refine S_aload_n (pc := 0) 0 rfl dX12_found_0 rfl ?_
  refine S_iload_n (pc := 1) 1 rfl dX12_found_1 rfl ?_
  refine S_putI (pc := 2) fd_X12_status wd_812 rfl rfl dX12_found_2 (fun h1 => ?_)
  refine S_ldc (pc := 5) wd_908 dX12_found_5 ?_
  refine S_iload_n (pc := 7) 1 rfl dX12_found_7 rfl ?_
  refine S_isub (pc := 8) dX12_found_8 ?_
  exact Sim.fin ⟨dX12_found_9, rfl, rfl⟩ rfl
theorem M_X12_found (l : Launch) (a0 : Nat) (a1 : Int32) (h : xH) {q : Int32 × xH} (hq : f_X12_found a0 a1 h = some q) : xM l yX12_found cX12_found 2 (some .int) 0 [.ref a0, .int a1] h (some (.int q.1)) q.2 := xM_i (by decide +kernel) (Nat.le_of_ble_eq_true rfl) (fun K L => W_X12_found K L a0 a1 h) hq
theorem dX12_isRun_0 : decode cX12_isRun 0 = .ok (.iload_n 1, 1) := by decide +kernel
theorem dX12_isRun_1 : decode cX12_isRun 1 = .ok (.iconst 0, 1) := by decide +kernel
theorem dX12_isRun_2 : decode cX12_isRun 2 = .ok (.aload_n 0, 1) := by decide +kernel
theorem dX12_isRun_3 : decode cX12_isRun 3 = .ok (.getfield 150, 3) := by decide +kernel
theorem dX12_isRun_6 : decode cX12_isRun 6 = .ok (.iconst 1, 1) := by decide +kernel
theorem dX12_isRun_7 : decode cX12_isRun 7 = .ok (.isub, 1) := by decide +kernel
theorem dX12_isRun_8 : decode cX12_isRun 8 = .ok (.invokestatic 65, 3) := by decide +kernel
theorem dX12_isRun_11 : decode cX12_isRun 11 = .ok (.ireturn, 1) := by decide +kernel
set_option maxRecDepth 20000 in
set_option maxHeartbeats 4000000 in
theorem W_X12_isRun (K : xK) (L : xL) (a0 : Nat) (a1 : Int32) (h : xH) : Sim K L cX12_isRun RX12 "isRun" 2 1 (fun q : Int32 × xH => q.2) (xRz cX12_isRun) 0 [(0, .ref a0), (1, .int a1)] [] h (f_X12_isRun a0 a1 h) := by
  unfold f_X12_isRun
  refine S_iload_n (pc := 0) 1 rfl dX12_isRun_0 rfl ?_
  refine S_iconst (pc := 1) dX12_isRun_1 ic_0 ?_
  refine S_aload_n (pc := 2) 0 rfl dX12_isRun_2 rfl ?_
  refine S_getI (pc := 3) fd_X12_runs wd_827 dX12_isRun_3 (fun v1 => ?_)
  refine S_iconst (pc := 6) dX12_isRun_6 ic_1 ?_
  refine S_isub (pc := 7) dX12_isRun_7 ?_
  refine S_call_i (pc := 8) (rest := []) (fun q hq => R_S (av := [.int a1, .int (0 : Int32), .int (v1 - (1 : Int32))]) (M_X12_in _ a1 (0 : Int32) (v1 - (1 : Int32)) h hq) wd_902 wd_900 wd_901 wd_50 hd_X12_in ⟨Nat.le_of_ble_eq_true rfl, Nat.le_of_ble_eq_true rfl⟩ rfl (Nat.le_of_ble_eq_true rfl) dX12_isRun_8) (fun _ h => absurd h List.not_mem_nil) (fun q2 => ?_)
  refine Sim.ite (fun hz3 => ?_) (fun _ => Sim.none)
  exact Sim.fin ⟨dX12_isRun_11, rfl, rfl, x_nar hz3⟩ rfl
theorem M_X12_isRun (l : Launch) (a0 : Nat) (a1 : Int32) (h : xH) {q : Int32 × xH} (hq : f_X12_isRun a0 a1 h = some q) : xM l yX12_isRun cX12_isRun 2 (some .boolean) 1 [.ref a0, .int a1] h (some (.int q.1)) q.2 := xM_z (by decide +kernel) (Nat.le_of_ble_eq_true rfl) (fun K L => W_X12_isRun K L a0 a1 h) hq
theorem dX12_well_0 : decode cX12_well 0 = .ok (.aload_n 0, 1) := by decide +kernel
theorem dX12_well_1 : decode cX12_well 1 = .ok (.iconst 0, 1) := by decide +kernel
theorem dX12_well_2 : decode cX12_well 2 = .ok (.putfield 60, 3) := by decide +kernel
theorem dX12_well_5 : decode cX12_well 5 = .ok (.iload_n 1, 1) := by decide +kernel
theorem dX12_well_6 : decode cX12_well 6 = .ok (.ireturn, 1) := by decide +kernel
set_option maxRecDepth 20000 in
set_option maxHeartbeats 4000000 in
theorem W_X12_well (K : xK) (L : xL) (a0 : Nat) (a1 : Int32) (h : xH) : Sim K L cX12_well RX12 "well" 2 0 (fun q : Int32 × xH => q.2) (xRi cX12_well) 0 [(0, .ref a0), (1, .int a1)] [] h (f_X12_well a0 a1 h) := by
  unfold f_X12_well
  refine S_aload_n (pc := 0) 0 rfl dX12_well_0 rfl ?_
  refine S_iconst (pc := 1) dX12_well_1 ic_0 ?_
  refine S_putI (pc := 2) fd_X12_status wd_812 rfl rfl dX12_well_2 (fun h1 => ?_)
  refine S_iload_n (pc := 5) 1 rfl dX12_well_5 rfl ?_
  exact Sim.fin ⟨dX12_well_6, rfl, rfl⟩ rfl
theorem M_X12_well (l : Launch) (a0 : Nat) (a1 : Int32) (h : xH) {q : Int32 × xH} (hq : f_X12_well a0 a1 h = some q) : xM l yX12_well cX12_well 2 (some .int) 0 [.ref a0, .int a1] h (some (.int q.1)) q.2 := xM_i (by decide +kernel) (Nat.le_of_ble_eq_true rfl) (fun K L => W_X12_well K L a0 a1 h) hq
theorem dX12_as_0 : decode cX12_as 0 = .ok (.aload_n 0, 1) := by decide +kernel
theorem dX12_as_1 : decode cX12_as 1 = .ok (.iload_n 1, 1) := by decide +kernel
theorem dX12_as_2 : decode cX12_as 2 = .ok (.invokevirtual 227, 3) := by decide +kernel
theorem dX12_as_5 : decode cX12_as 5 = .ok (.ifCond .eq 12, 3) := by decide +kernel
theorem dX12_as_8 : decode cX12_as 8 = .ok (.iload_n 2, 1) := by decide +kernel
theorem dX12_as_9 : decode cX12_as 9 = .ok (.iconst 0, 1) := by decide +kernel
theorem dX12_as_10 : decode cX12_as 10 = .ok (.iconst 5, 1) := by decide +kernel
theorem dX12_as_11 : decode cX12_as 11 = .ok (.invokestatic 65, 3) := by decide +kernel
theorem dX12_as_14 : decode cX12_as 14 = .ok (.ifCond .ne 6, 3) := by decide +kernel
theorem dX12_as_17 : decode cX12_as 17 = .ok (.ldc 73, 2) := by decide +kernel
theorem dX12_as_19 : decode cX12_as 19 = .ok (.ireturn, 1) := by decide +kernel
theorem dX12_as_20 : decode cX12_as 20 = .ok (.aload_n 0, 1) := by decide +kernel
theorem dX12_as_21 : decode cX12_as 21 = .ok (.iload_n 1, 1) := by decide +kernel
theorem dX12_as_22 : decode cX12_as 22 = .ok (.invokevirtual 230, 3) := by decide +kernel
theorem dX12_as_25 : decode cX12_as 25 = .ok (.istore_n 3, 1) := by decide +kernel
theorem dX12_as_26 : decode cX12_as 26 = .ok (.iload_n 2, 1) := by decide +kernel
theorem dX12_as_27 : decode cX12_as 27 = .ok (.ifCond .eq 28, 3) := by decide +kernel
theorem dX12_as_30 : decode cX12_as 30 = .ok (.iload_n 2, 1) := by decide +kernel
theorem dX12_as_31 : decode cX12_as 31 = .ok (.iload_n 3, 1) := by decide +kernel
theorem dX12_as_32 : decode cX12_as 32 = .ok (.if_icmp .eq 23, 3) := by decide +kernel
theorem dX12_as_35 : decode cX12_as 35 = .ok (.iload_n 2, 1) := by decide +kernel
theorem dX12_as_36 : decode cX12_as 36 = .ok (.iconst 1, 1) := by decide +kernel
theorem dX12_as_37 : decode cX12_as 37 = .ok (.if_icmp .ne 8, 3) := by decide +kernel
theorem dX12_as_40 : decode cX12_as 40 = .ok (.iload_n 3, 1) := by decide +kernel
theorem dX12_as_41 : decode cX12_as 41 = .ok (.iconst 4, 1) := by decide +kernel
theorem dX12_as_42 : decode cX12_as 42 = .ok (.if_icmp .lt 13, 3) := by decide +kernel
theorem dX12_as_45 : decode cX12_as 45 = .ok (.iload_n 2, 1) := by decide +kernel
theorem dX12_as_46 : decode cX12_as 46 = .ok (.iconst 4, 1) := by decide +kernel
theorem dX12_as_47 : decode cX12_as 47 = .ok (.if_icmp .ne 12, 3) := by decide +kernel
theorem dX12_as_50 : decode cX12_as 50 = .ok (.iload_n 3, 1) := by decide +kernel
theorem dX12_as_51 : decode cX12_as 51 = .ok (.iconst 5, 1) := by decide +kernel
theorem dX12_as_52 : decode cX12_as 52 = .ok (.if_icmp .ne 7, 3) := by decide +kernel
theorem dX12_as_55 : decode cX12_as 55 = .ok (.iconst 1, 1) := by decide +kernel
theorem dX12_as_56 : decode cX12_as 56 = .ok (.goto 4, 3) := by decide +kernel
theorem dX12_as_59 : decode cX12_as 59 = .ok (.iconst 0, 1) := by decide +kernel
theorem dX12_as_60 : decode cX12_as 60 = .ok (.istore 4, 2) := by decide +kernel
theorem dX12_as_62 : decode cX12_as 62 = .ok (.iload 4, 2) := by decide +kernel
theorem dX12_as_64 : decode cX12_as 64 = .ok (.ifCond .eq 11, 3) := by decide +kernel
theorem dX12_as_67 : decode cX12_as 67 = .ok (.aload_n 0, 1) := by decide +kernel
theorem dX12_as_68 : decode cX12_as 68 = .ok (.iload_n 1, 1) := by decide +kernel
theorem dX12_as_69 : decode cX12_as 69 = .ok (.invokevirtual 78, 3) := by decide +kernel
theorem dX12_as_72 : decode cX12_as 72 = .ok (.goto 8, 3) := by decide +kernel
theorem dX12_as_75 : decode cX12_as 75 = .ok (.aload_n 0, 1) := by decide +kernel
theorem dX12_as_76 : decode cX12_as 76 = .ok (.iconst 3, 1) := by decide +kernel
theorem dX12_as_77 : decode cX12_as 77 = .ok (.invokevirtual 74, 3) := by decide +kernel
theorem dX12_as_80 : decode cX12_as 80 = .ok (.ireturn, 1) := by decide +kernel
set_option maxRecDepth 20000 in
set_option maxHeartbeats 4000000 in
theorem W_X12_as (K : xK) (L : xL) (a0 : Nat) (a1 : Int32) (a2 : Int32) (h : xH) : Sim K L cX12_as RX12 "as" 5 2 (fun q : Int32 × xH => q.2) (xRi cX12_as) 0 [(0, .ref a0), (1, .int a1), (2, .int a2)] [] h (f_X12_as a0 a1 a2 h) := by
  unfold f_X12_as
  refine S_aload_n (pc := 0) 0 rfl dX12_as_0 rfl ?_
  refine S_iload_n (pc := 1) 1 rfl dX12_as_1 rfl ?_
  refine S_call_i (pc := 2) (rest := []) (fun q hq => (x_if hq).elim (fun z => R_V (av := [.int a1]) (q := (RX12, TX12, 28)) (M_X12_isRun _ a0 a1 h z.2) z.1 rfl wd_1180 wd_1177 wd_1179 wd_50 wd_35 ⟨rfl, hd_X12_isRun⟩ ⟨Nat.le_of_ble_eq_true rfl, Nat.le_of_ble_eq_true rfl⟩ rfl (Nat.le_of_ble_eq_true rfl) dX12_as_2) (fun hq => (by cases hq))) (fun _ h => absurd h List.not_mem_nil) (fun q1 => ?_)
  refine S_if_eq (pc := 5) (tgt := 17) dX12_as_5 (by decide) ?_ ?_
  · refine S_ldc (pc := 17) wd_903 dX12_as_17 ?_
    exact Sim.fin ⟨dX12_as_19, rfl, rfl⟩ rfl
  · refine S_iload_n (pc := 8) 2 rfl dX12_as_8 rfl ?_
    refine S_iconst (pc := 9) dX12_as_9 ic_0 ?_
    refine S_iconst (pc := 10) dX12_as_10 ic_5 ?_
    refine S_call_i (pc := 11) (rest := []) (fun q hq => R_S (av := [.int a2, .int (0 : Int32), .int (5 : Int32)]) (M_X12_in _ a2 (0 : Int32) (5 : Int32) q1.2 hq) wd_902 wd_900 wd_901 wd_50 hd_X12_in ⟨Nat.le_of_ble_eq_true rfl, Nat.le_of_ble_eq_true rfl⟩ rfl (Nat.le_of_ble_eq_true rfl) dX12_as_11) (fun _ h => absurd h List.not_mem_nil) (fun q2 => ?_)
    refine S_if_ne (pc := 14) (tgt := 20) dX12_as_14 (by decide) ?_ ?_
    · refine S_ldc (pc := 17) wd_903 dX12_as_17 ?_
      exact Sim.fin ⟨dX12_as_19, rfl, rfl⟩ rfl
    · refine S_aload_n (pc := 20) 0 rfl dX12_as_20 rfl ?_
      refine S_iload_n (pc := 21) 1 rfl dX12_as_21 rfl ?_
      refine S_call_i (pc := 22) (rest := []) (fun q hq => (x_if hq).elim (fun z => R_V (av := [.int a1]) (q := (RX12, TX12, 28)) (M_X12_kindIn _ a0 a1 q2.2 z.2) z.1 rfl wd_1184 wd_1181 wd_1183 wd_50 wd_36 ⟨rfl, hd_X12_kindIn⟩ ⟨Nat.le_of_ble_eq_true rfl, Nat.le_of_ble_eq_true rfl⟩ rfl (Nat.le_of_ble_eq_true rfl) dX12_as_22) (fun hq => (by cases hq))) (fun _ h => absurd h List.not_mem_nil) (fun q3 => ?_)
      refine S_istore_n (pc := 25) dX12_as_25 rfl (Nat.le_of_ble_eq_true rfl) rfl ?_
      refine S_iload_n (pc := 26) 3 rfl dX12_as_26 rfl ?_
      refine Sim.cut (pc' := 60) (st' := [.int (if a2 = 0 then (1 : Int32) else (if a2 = q3.1 then (1 : Int32) else (if a2 = (1 : Int32) then (if q3.1 < (4 : Int32) then (1 : Int32) else (if a2 = (4 : Int32) then (if q3.1 = (5 : Int32) then (1 : Int32) else (0 : Int32)) else (0 : Int32))) else (if a2 = (4 : Int32) then (if q3.1 = (5 : Int32) then (1 : Int32) else (0 : Int32)) else (0 : Int32)))))]) ?_ (fun kc => ?_)
      · refine S_istore (pc := 60) dX12_as_60 (Nat.le_of_ble_eq_true rfl) rfl ?_
        refine S_iload (pc := 62) 0 rfl dX12_as_62 ?_
        refine S_if_eq (pc := 64) (tgt := 75) dX12_as_64 (by decide) ?_ ?_
        · refine S_aload_n (pc := 75) 2 rfl dX12_as_75 rfl ?_
          refine S_iconst (pc := 76) dX12_as_76 ic_3 ?_
          refine S_call_i (pc := 77) (rest := []) (fun q hq => (x_if hq).elim (fun z => R_V (av := [.int (3 : Int32)]) (q := (RX12, TX12, 28)) (M_X12_found _ a0 (3 : Int32) q3.2 z.2) z.1 rfl wd_907 wd_904 wd_906 wd_50 wd_14 ⟨rfl, hd_X12_found⟩ ⟨Nat.le_of_ble_eq_true rfl, Nat.le_of_ble_eq_true rfl⟩ rfl (Nat.le_of_ble_eq_true rfl) dX12_as_77) (fun hq => (by cases hq))) (fun _ h => absurd h List.not_mem_nil) (fun q12 => ?_)
          exact Sim.fin ⟨dX12_as_80, rfl, rfl⟩ rfl
        · refine S_aload_n (pc := 67) 2 rfl dX12_as_67 rfl ?_
          refine S_iload_n (pc := 68) 3 rfl dX12_as_68 rfl ?_
          refine S_call_i (pc := 69) (rest := []) (fun q hq => (x_if hq).elim (fun z => R_V (av := [.int a1]) (q := (RX12, TX12, 28)) (M_X12_well _ a0 a1 q3.2 z.2) z.1 rfl wd_912 wd_909 wd_911 wd_50 wd_15 ⟨rfl, hd_X12_well⟩ ⟨Nat.le_of_ble_eq_true rfl, Nat.le_of_ble_eq_true rfl⟩ rfl (Nat.le_of_ble_eq_true rfl) dX12_as_69) (fun hq => (by cases hq))) (fun _ h => absurd h List.not_mem_nil) (fun q13 => ?_)
          refine S_goto (pc := 72) (tgt := 80) dX12_as_72 (by decide) ?_
          exact Sim.fin ⟨dX12_as_80, rfl, rfl⟩ rfl
      · refine D_if_eq (pc := 27) (tgt := 55) dX12_as_27 (by decide) (fun c4 => ?_) (fun c4 => ?_)
        · refine S_iconst (pc := 55) dX12_as_55 ic_1 ?_
          refine S_goto (pc := 56) (tgt := 60) dX12_as_56 (by decide) ?_
          exact x_st (by rw [if_pos c4]) kc
        · refine S_iload_n (pc := 30) 3 rfl dX12_as_30 rfl ?_
          refine S_iload_n (pc := 31) 0 rfl dX12_as_31 rfl ?_
          refine D_icmp_eq (pc := 32) (tgt := 55) dX12_as_32 (by decide) (fun c5 => ?_) (fun c5 => ?_)
          · refine S_iconst (pc := 55) dX12_as_55 ic_1 ?_
            refine S_goto (pc := 56) (tgt := 60) dX12_as_56 (by decide) ?_
            exact x_st (by rw [if_neg c4, if_pos c5]) kc
          · refine S_iload_n (pc := 35) 3 rfl dX12_as_35 rfl ?_
            refine S_iconst (pc := 36) dX12_as_36 ic_1 ?_
            refine D_icmp_ne (pc := 37) (tgt := 45) dX12_as_37 (by decide) (fun c6 => ?_) (fun c6 => ?_)
            · refine S_iload_n (pc := 40) 0 rfl dX12_as_40 rfl ?_
              refine S_iconst (pc := 41) dX12_as_41 ic_4 ?_
              refine D_icmp_lt (pc := 42) (tgt := 55) dX12_as_42 (by decide) (fun c7 => ?_) (fun c7 => ?_)
              · refine S_iconst (pc := 55) dX12_as_55 ic_1 ?_
                refine S_goto (pc := 56) (tgt := 60) dX12_as_56 (by decide) ?_
                exact x_st (by rw [if_neg c4, if_neg c5, if_pos c6, if_pos c7]) kc
              · refine S_iload_n (pc := 45) 3 rfl dX12_as_45 rfl ?_
                refine S_iconst (pc := 46) dX12_as_46 ic_4 ?_
                refine D_icmp_ne (pc := 47) (tgt := 59) dX12_as_47 (by decide) (fun c8 => ?_) (fun c8 => ?_)
                · refine S_iload_n (pc := 50) 0 rfl dX12_as_50 rfl ?_
                  refine S_iconst (pc := 51) dX12_as_51 ic_5 ?_
                  refine D_icmp_ne (pc := 52) (tgt := 59) dX12_as_52 (by decide) (fun c9 => ?_) (fun c9 => ?_)
                  · refine S_iconst (pc := 55) dX12_as_55 ic_1 ?_
                    refine S_goto (pc := 56) (tgt := 60) dX12_as_56 (by decide) ?_
                    exact x_st (by rw [if_neg c4, if_neg c5, if_pos c6, if_neg c7, if_pos c8, if_pos c9]) kc
                  · refine S_iconst (pc := 59) dX12_as_59 ic_0 ?_
                    exact x_st (by rw [if_neg c4, if_neg c5, if_pos c6, if_neg c7, if_pos c8, if_neg c9]) kc
                · refine S_iconst (pc := 59) dX12_as_59 ic_0 ?_
                  exact x_st (by rw [if_neg c4, if_neg c5, if_pos c6, if_neg c7, if_neg c8]) kc
            · refine S_iload_n (pc := 45) 3 rfl dX12_as_45 rfl ?_
              refine S_iconst (pc := 46) dX12_as_46 ic_4 ?_
              refine D_icmp_ne (pc := 47) (tgt := 59) dX12_as_47 (by decide) (fun c10 => ?_) (fun c10 => ?_)
              · refine S_iload_n (pc := 50) 0 rfl dX12_as_50 rfl ?_
                refine S_iconst (pc := 51) dX12_as_51 ic_5 ?_
                refine D_icmp_ne (pc := 52) (tgt := 59) dX12_as_52 (by decide) (fun c11 => ?_) (fun c11 => ?_)
                · refine S_iconst (pc := 55) dX12_as_55 ic_1 ?_
                  refine S_goto (pc := 56) (tgt := 60) dX12_as_56 (by decide) ?_
                  exact x_st (by rw [if_neg c4, if_neg c5, if_neg c6, if_pos c10, if_pos c11]) kc
                · refine S_iconst (pc := 59) dX12_as_59 ic_0 ?_
                  exact x_st (by rw [if_neg c4, if_neg c5, if_neg c6, if_pos c10, if_neg c11]) kc
              · refine S_iconst (pc := 59) dX12_as_59 ic_0 ?_
                exact x_st (by rw [if_neg c4, if_neg c5, if_neg c6, if_neg c10]) kc
theorem M_X12_as (l : Launch) (a0 : Nat) (a1 : Int32) (a2 : Int32) (h : xH) {q : Int32 × xH} (hq : f_X12_as a0 a1 a2 h = some q) : xM l yX12_as cX12_as 5 (some .int) 2 [.ref a0, .int a1, .int a2] h (some (.int q.1)) q.2 := xM_i (by decide +kernel) (Nat.le_of_ble_eq_true rfl) (fun K L => W_X12_as K L a0 a1 a2 h) hq
theorem dX12_bitOf_0 : decode cX12_bitOf 0 = .ok (.iload_n 0, 1) := by decide +kernel
theorem dX12_bitOf_1 : decode cX12_bitOf 1 = .ok (.tableswitch 53 1 4 #[31, 33, 35, 47], 31) := by decide +kernel
theorem dX12_bitOf_32 : decode cX12_bitOf 32 = .ok (.iconst 0, 1) := by decide +kernel
theorem dX12_bitOf_33 : decode cX12_bitOf 33 = .ok (.ireturn, 1) := by decide +kernel
theorem dX12_bitOf_34 : decode cX12_bitOf 34 = .ok (.iconst 1, 1) := by decide +kernel
theorem dX12_bitOf_35 : decode cX12_bitOf 35 = .ok (.ireturn, 1) := by decide +kernel
theorem dX12_bitOf_36 : decode cX12_bitOf 36 = .ok (.iload_n 1, 1) := by decide +kernel
theorem dX12_bitOf_37 : decode cX12_bitOf 37 = .ok (.iconst 3, 1) := by decide +kernel
theorem dX12_bitOf_38 : decode cX12_bitOf 38 = .ok (.irem, 1) := by decide +kernel
theorem dX12_bitOf_39 : decode cX12_bitOf 39 = .ok (.ifCond .ne 7, 3) := by decide +kernel
theorem dX12_bitOf_42 : decode cX12_bitOf 42 = .ok (.iconst 1, 1) := by decide +kernel
theorem dX12_bitOf_43 : decode cX12_bitOf 43 = .ok (.goto 4, 3) := by decide +kernel
theorem dX12_bitOf_46 : decode cX12_bitOf 46 = .ok (.iconst 0, 1) := by decide +kernel
theorem dX12_bitOf_47 : decode cX12_bitOf 47 = .ok (.ireturn, 1) := by decide +kernel
theorem dX12_bitOf_48 : decode cX12_bitOf 48 = .ok (.iconst 1, 1) := by decide +kernel
theorem dX12_bitOf_49 : decode cX12_bitOf 49 = .ok (.iload_n 1, 1) := by decide +kernel
theorem dX12_bitOf_50 : decode cX12_bitOf 50 = .ok (.iconst 2, 1) := by decide +kernel
theorem dX12_bitOf_51 : decode cX12_bitOf 51 = .ok (.irem, 1) := by decide +kernel
theorem dX12_bitOf_52 : decode cX12_bitOf 52 = .ok (.isub, 1) := by decide +kernel
theorem dX12_bitOf_53 : decode cX12_bitOf 53 = .ok (.ireturn, 1) := by decide +kernel
theorem dX12_bitOf_54 : decode cX12_bitOf 54 = .ok (.iconst 1, 1) := by decide +kernel
theorem dX12_bitOf_55 : decode cX12_bitOf 55 = .ok (.iload_n 1, 1) := by decide +kernel
theorem dX12_bitOf_56 : decode cX12_bitOf 56 = .ok (.iconst 4, 1) := by decide +kernel
theorem dX12_bitOf_57 : decode cX12_bitOf 57 = .ok (.idiv, 1) := by decide +kernel
theorem dX12_bitOf_58 : decode cX12_bitOf 58 = .ok (.iconst 2, 1) := by decide +kernel
theorem dX12_bitOf_59 : decode cX12_bitOf 59 = .ok (.irem, 1) := by decide +kernel
theorem dX12_bitOf_60 : decode cX12_bitOf 60 = .ok (.isub, 1) := by decide +kernel
theorem dX12_bitOf_61 : decode cX12_bitOf 61 = .ok (.ireturn, 1) := by decide +kernel
set_option maxRecDepth 20000 in
set_option maxHeartbeats 4000000 in
theorem W_X12_bitOf (K : xK) (L : xL) (a0 : Int32) (a1 : Int32) (h : xH) : Sim K L cX12_bitOf RX12 "bitOf" 2 0 (fun q : Int32 × xH => q.2) (xRi cX12_bitOf) 0 [(0, .int a0), (1, .int a1)] [] h (f_X12_bitOf a0 a1 h) := by
  unfold f_X12_bitOf
  refine S_iload_n (pc := 0) 0 rfl dX12_bitOf_0 rfl ?_
  refine S_tabIn (pc := 1) (v := 1) (tgt := 32) dX12_bitOf_1 (by decide) (by decide) rfl (by decide) ?_ (fun hs1 => ?_)
  · refine S_iconst (pc := 32) dX12_bitOf_32 ic_0 ?_
    exact Sim.fin ⟨dX12_bitOf_33, rfl, rfl⟩ rfl
  refine S_tabIn (pc := 1) (v := 2) (tgt := 34) dX12_bitOf_1 (by decide) (by decide) rfl (by decide) ?_ (fun hs2 => ?_)
  · refine S_iconst (pc := 34) dX12_bitOf_34 ic_1 ?_
    exact Sim.fin ⟨dX12_bitOf_35, rfl, rfl⟩ rfl
  refine S_tabIn (pc := 1) (v := 3) (tgt := 36) dX12_bitOf_1 (by decide) (by decide) rfl (by decide) ?_ (fun hs3 => ?_)
  · refine S_iload_n (pc := 36) 1 rfl dX12_bitOf_36 rfl ?_
    refine S_iconst (pc := 37) dX12_bitOf_37 ic_3 ?_
    refine S_irem (pc := 38) (by decide) dX12_bitOf_38 ?_
    refine S_if_ne (pc := 39) (tgt := 46) dX12_bitOf_39 (by decide) ?_ ?_
    · refine S_iconst (pc := 42) dX12_bitOf_42 ic_1 ?_
      refine S_goto (pc := 43) (tgt := 47) dX12_bitOf_43 (by decide) ?_
      exact Sim.fin ⟨dX12_bitOf_47, rfl, rfl⟩ rfl
    · refine S_iconst (pc := 46) dX12_bitOf_46 ic_0 ?_
      exact Sim.fin ⟨dX12_bitOf_47, rfl, rfl⟩ rfl
  refine S_tabIn (pc := 1) (v := 4) (tgt := 48) dX12_bitOf_1 (by decide) (by decide) rfl (by decide) ?_ (fun hs4 => ?_)
  · refine S_iconst (pc := 48) dX12_bitOf_48 ic_1 ?_
    refine S_iload_n (pc := 49) 1 rfl dX12_bitOf_49 rfl ?_
    refine S_iconst (pc := 50) dX12_bitOf_50 ic_2 ?_
    refine S_irem (pc := 51) (by decide) dX12_bitOf_51 ?_
    refine S_isub (pc := 52) dX12_bitOf_52 ?_
    exact Sim.fin ⟨dX12_bitOf_53, rfl, rfl⟩ rfl
  refine S_tabOut (pc := 1) (tgt := 54) dX12_bitOf_1 (by have := lv_neT hs1 (show (1 : Int32).toInt = 1 from by decide); have := lv_neT hs2 (show (2 : Int32).toInt = 2 from by decide); have := lv_neT hs3 (show (3 : Int32).toInt = 3 from by decide); have := lv_neT hs4 (show (4 : Int32).toInt = 4 from by decide); omega) (by decide) ?_
  refine S_iconst (pc := 54) dX12_bitOf_54 ic_1 ?_
  refine S_iload_n (pc := 55) 1 rfl dX12_bitOf_55 rfl ?_
  refine S_iconst (pc := 56) dX12_bitOf_56 ic_4 ?_
  refine S_idiv (pc := 57) (by decide) dX12_bitOf_57 ?_
  refine S_iconst (pc := 58) dX12_bitOf_58 ic_2 ?_
  refine S_irem (pc := 59) (by decide) dX12_bitOf_59 ?_
  refine S_isub (pc := 60) dX12_bitOf_60 ?_
  exact Sim.fin ⟨dX12_bitOf_61, rfl, rfl⟩ rfl
theorem M_X12_bitOf (l : Launch) (a0 : Int32) (a1 : Int32) (h : xH) {q : Int32 × xH} (hq : f_X12_bitOf a0 a1 h = some q) : xM l yX12_bitOf cX12_bitOf 2 (some .int) 0 [.int a0, .int a1] h (some (.int q.1)) q.2 := xM_i (by decide +kernel) (Nat.le_of_ble_eq_true rfl) (fun K L => W_X12_bitOf K L a0 a1 h) hq
theorem dX12_onesOf_0 : decode cX12_onesOf 0 = .ok (.iconst 0, 1) := by decide +kernel
theorem dX12_onesOf_1 : decode cX12_onesOf 1 = .ok (.istore_n 2, 1) := by decide +kernel
theorem dX12_onesOf_2 : decode cX12_onesOf 2 = .ok (.iconst 0, 1) := by decide +kernel
theorem dX12_onesOf_3 : decode cX12_onesOf 3 = .ok (.istore_n 3, 1) := by decide +kernel
theorem dX12_onesOf_4 : decode cX12_onesOf 4 = .ok (.iload_n 3, 1) := by decide +kernel
theorem dX12_onesOf_5 : decode cX12_onesOf 5 = .ok (.aload_n 0, 1) := by decide +kernel
theorem dX12_onesOf_6 : decode cX12_onesOf 6 = .ok (.getfield 44, 3) := by decide +kernel
theorem dX12_onesOf_9 : decode cX12_onesOf 9 = .ok (.iload_n 1, 1) := by decide +kernel
theorem dX12_onesOf_10 : decode cX12_onesOf 10 = .ok (.iaload, 1) := by decide +kernel
theorem dX12_onesOf_11 : decode cX12_onesOf 11 = .ok (.if_icmp .ge 22, 3) := by decide +kernel
theorem dX12_onesOf_14 : decode cX12_onesOf 14 = .ok (.iload_n 2, 1) := by decide +kernel
theorem dX12_onesOf_15 : decode cX12_onesOf 15 = .ok (.aload_n 0, 1) := by decide +kernel
theorem dX12_onesOf_16 : decode cX12_onesOf 16 = .ok (.getfield 41, 3) := by decide +kernel
theorem dX12_onesOf_19 : decode cX12_onesOf 19 = .ok (.iload_n 1, 1) := by decide +kernel
theorem dX12_onesOf_20 : decode cX12_onesOf 20 = .ok (.iaload, 1) := by decide +kernel
theorem dX12_onesOf_21 : decode cX12_onesOf 21 = .ok (.iload_n 3, 1) := by decide +kernel
theorem dX12_onesOf_22 : decode cX12_onesOf 22 = .ok (.invokestatic 153, 3) := by decide +kernel
theorem dX12_onesOf_25 : decode cX12_onesOf 25 = .ok (.iadd, 1) := by decide +kernel
theorem dX12_onesOf_26 : decode cX12_onesOf 26 = .ok (.istore_n 2, 1) := by decide +kernel
theorem dX12_onesOf_27 : decode cX12_onesOf 27 = .ok (.iinc 3 1, 3) := by decide +kernel
theorem dX12_onesOf_30 : decode cX12_onesOf 30 = .ok (.goto (-26), 3) := by decide +kernel
theorem dX12_onesOf_33 : decode cX12_onesOf 33 = .ok (.iload_n 2, 1) := by decide +kernel
theorem dX12_onesOf_34 : decode cX12_onesOf 34 = .ok (.ireturn, 1) := by decide +kernel
set_option maxRecDepth 20000 in
set_option maxHeartbeats 4000000 in
theorem L_X12_onesOf_4 (K : xK) (L : xL) : ∀ (n : Nat) (a0 : Nat) (a1 : Int32) (a2 : Int32) (a3 : Int32) (h : xH), Sim K L cX12_onesOf RX12 "onesOf" 4 1 (fun q : Int32 × Int32 × xH => q.2.2) (fun q pc' ls' st' h' => pc' = 33 ∧ ls' = [(0, .ref a0), (1, .int a1), (2, .int q.1), (3, .int q.2.1)] ∧ st' = [] ∧ h' = q.2.2) 4 [(0, .ref a0), (1, .int a1), (2, .int a2), (3, .int a3)] [] h (f_X12_onesOf_L4 n a0 a1 a2 a3 h) := by
  intro n
  induction n with
  | zero =>
    intro a0 a1 a2 a3 h
    exact Sim.none
  | succ n ih =>
    intro a0 a1 a2 a3 h
    unfold f_X12_onesOf_L4
    refine S_iload_n (pc := 4) 3 rfl dX12_onesOf_4 rfl ?_
    refine S_aload_n (pc := 5) 0 rfl dX12_onesOf_5 rfl ?_
    refine S_getR (pc := 6) fd_X12_length wd_829 dX12_onesOf_6 (fun v1 => ?_)
    refine S_iload_n (pc := 9) 1 rfl dX12_onesOf_9 rfl ?_
    refine S_aI (pc := 10) dX12_onesOf_10 (fun v2 => ?_)
    refine S_icmp_ge (pc := 11) (tgt := 33) dX12_onesOf_11 (by decide) ?_ ?_
    · refine S_sub [0, 1, 2, 3] rfl ?_
      exact Sim.fin ⟨rfl, rfl, rfl, rfl⟩ rfl
    · refine S_iload_n (pc := 14) 2 rfl dX12_onesOf_14 rfl ?_
      refine S_aload_n (pc := 15) 0 rfl dX12_onesOf_15 rfl ?_
      refine S_getR (pc := 16) fd_X12_kinds wd_828 dX12_onesOf_16 (fun v3 => ?_)
      refine S_iload_n (pc := 19) 1 rfl dX12_onesOf_19 rfl ?_
      refine S_aI (pc := 20) dX12_onesOf_20 (fun v4 => ?_)
      refine S_iload_n (pc := 21) 3 rfl dX12_onesOf_21 rfl ?_
      refine S_call_i (pc := 22) (rest := [.int a2]) (fun q hq => R_S (av := [.int v4, .int a3]) (M_X12_bitOf _ v4 a3 h hq) wd_989 wd_987 wd_988 wd_50 hd_X12_bitOf ⟨Nat.le_of_ble_eq_true rfl, Nat.le_of_ble_eq_true rfl⟩ rfl (Nat.le_of_ble_eq_true rfl) dX12_onesOf_22) (fun _ h => List.mem_cons_of_mem _ (List.mem_cons_of_mem _ (h))) (fun q5 => ?_)
      refine S_iadd (pc := 25) dX12_onesOf_25 ?_
      refine S_istore_n (pc := 26) dX12_onesOf_26 rfl (Nat.le_of_ble_eq_true rfl) rfl ?_
      refine S_iinc (pc := 27) (v := a3 + (1 : Int32)) 3 rfl dX12_onesOf_27 (x_inc ic_1) (Nat.le_of_ble_eq_true rfl) rfl ?_
      refine S_goto (pc := 30) (tgt := 4) dX12_onesOf_30 (by decide) ?_
      refine S_sub [2, 3, 1, 0] rfl ?_
      exact ih a0 a1 (a2 + q5.1) (a3 + (1 : Int32)) q5.2
set_option maxRecDepth 20000 in
set_option maxHeartbeats 4000000 in
theorem W_X12_onesOf (K : xK) (L : xL) (a0 : Nat) (a1 : Int32) (h : xH) : Sim K L cX12_onesOf RX12 "onesOf" 4 1 (fun q : Int32 × xH => q.2) (xRi cX12_onesOf) 0 [(0, .ref a0), (1, .int a1)] [] h (f_X12_onesOf a0 a1 h) := by
  unfold f_X12_onesOf
  refine S_iconst (pc := 0) dX12_onesOf_0 ic_0 ?_
  refine S_istore_n (pc := 1) dX12_onesOf_1 rfl (Nat.le_of_ble_eq_true rfl) rfl ?_
  refine S_iconst (pc := 2) dX12_onesOf_2 ic_0 ?_
  refine S_istore_n (pc := 3) dX12_onesOf_3 rfl (Nat.le_of_ble_eq_true rfl) rfl ?_
  refine S_sub [2, 3, 1, 0] rfl ?_
  refine Sim.bind (hs := fun q6 : Int32 × Int32 × xH => q6.2.2) (px := 33) (lsx := fun q6 => [(0, .ref a0), (1, .int a1), (2, .int q6.1), (3, .int q6.2.1)]) (L_X12_onesOf_4 K L xN a0 a1 (0 : Int32) (0 : Int32) h) (fun q6 => ?_)
  refine S_iload_n (pc := 33) 2 rfl dX12_onesOf_33 rfl ?_
  exact Sim.fin ⟨dX12_onesOf_34, rfl, rfl⟩ rfl
theorem M_X12_onesOf (l : Launch) (a0 : Nat) (a1 : Int32) (h : xH) {q : Int32 × xH} (hq : f_X12_onesOf a0 a1 h = some q) : xM l yX12_onesOf cX12_onesOf 4 (some .int) 1 [.ref a0, .int a1] h (some (.int q.1)) q.2 := xM_i (by decide +kernel) (Nat.le_of_ble_eq_true rfl) (fun K L => W_X12_onesOf K L a0 a1 h) hq
theorem dX12_zerosMark_0 : decode cX12_zerosMark 0 = .ok (.aload_n 0, 1) := by decide +kernel
theorem dX12_zerosMark_1 : decode cX12_zerosMark 1 = .ok (.iload_n 1, 1) := by decide +kernel
theorem dX12_zerosMark_2 : decode cX12_zerosMark 2 = .ok (.invokevirtual 230, 3) := by decide +kernel
theorem dX12_zerosMark_5 : decode cX12_zerosMark 5 = .ok (.istore_n 2, 1) := by decide +kernel
theorem dX12_zerosMark_6 : decode cX12_zerosMark 6 = .ok (.iload_n 2, 1) := by decide +kernel
theorem dX12_zerosMark_7 : decode cX12_zerosMark 7 = .ok (.iconst 1, 1) := by decide +kernel
theorem dX12_zerosMark_8 : decode cX12_zerosMark 8 = .ok (.if_icmp .eq 19, 3) := by decide +kernel
theorem dX12_zerosMark_11 : decode cX12_zerosMark 11 = .ok (.aload_n 0, 1) := by decide +kernel
theorem dX12_zerosMark_12 : decode cX12_zerosMark 12 = .ok (.iload_n 2, 1) := by decide +kernel
theorem dX12_zerosMark_13 : decode cX12_zerosMark 13 = .ok (.iconst 2, 1) := by decide +kernel
theorem dX12_zerosMark_14 : decode cX12_zerosMark 14 = .ok (.if_icmp .ne 8, 3) := by decide +kernel
theorem dX12_zerosMark_17 : decode cX12_zerosMark 17 = .ok (.bipush 24, 2) := by decide +kernel
theorem dX12_zerosMark_19 : decode cX12_zerosMark 19 = .ok (.goto 5, 3) := by decide +kernel
theorem dX12_zerosMark_22 : decode cX12_zerosMark 22 = .ok (.bipush 22, 2) := by decide +kernel
theorem dX12_zerosMark_24 : decode cX12_zerosMark 24 = .ok (.invokevirtual 236, 3) := by decide +kernel
theorem dX12_zerosMark_27 : decode cX12_zerosMark 27 = .ok (.aload_n 0, 1) := by decide +kernel
theorem dX12_zerosMark_28 : decode cX12_zerosMark 28 = .ok (.bipush 21, 2) := by decide +kernel
theorem dX12_zerosMark_30 : decode cX12_zerosMark 30 = .ok (.invokevirtual 236, 3) := by decide +kernel
theorem dX12_zerosMark_33 : decode cX12_zerosMark 33 = .ok (.aload_n 0, 1) := by decide +kernel
theorem dX12_zerosMark_34 : decode cX12_zerosMark 34 = .ok (.bipush 20, 2) := by decide +kernel
theorem dX12_zerosMark_36 : decode cX12_zerosMark 36 = .ok (.invokevirtual 236, 3) := by decide +kernel
theorem dX12_zerosMark_39 : decode cX12_zerosMark 39 = .ok (.iload_n 1, 1) := by decide +kernel
theorem dX12_zerosMark_40 : decode cX12_zerosMark 40 = .ok (.aload_n 0, 1) := by decide +kernel
theorem dX12_zerosMark_41 : decode cX12_zerosMark 41 = .ok (.iload_n 1, 1) := by decide +kernel
theorem dX12_zerosMark_42 : decode cX12_zerosMark 42 = .ok (.invokevirtual 240, 3) := by decide +kernel
theorem dX12_zerosMark_45 : decode cX12_zerosMark 45 = .ok (.iadd, 1) := by decide +kernel
theorem dX12_zerosMark_46 : decode cX12_zerosMark 46 = .ok (.istore_n 3, 1) := by decide +kernel
theorem dX12_zerosMark_47 : decode cX12_zerosMark 47 = .ok (.iload_n 2, 1) := by decide +kernel
theorem dX12_zerosMark_48 : decode cX12_zerosMark 48 = .ok (.iconst 2, 1) := by decide +kernel
theorem dX12_zerosMark_49 : decode cX12_zerosMark 49 = .ok (.if_icmp .ne 9, 3) := by decide +kernel
theorem dX12_zerosMark_52 : decode cX12_zerosMark 52 = .ok (.iconst 2, 1) := by decide +kernel
theorem dX12_zerosMark_53 : decode cX12_zerosMark 53 = .ok (.iload_n 3, 1) := by decide +kernel
theorem dX12_zerosMark_54 : decode cX12_zerosMark 54 = .ok (.imul, 1) := by decide +kernel
theorem dX12_zerosMark_55 : decode cX12_zerosMark 55 = .ok (.goto 17, 3) := by decide +kernel
theorem dX12_zerosMark_58 : decode cX12_zerosMark 58 = .ok (.iload_n 2, 1) := by decide +kernel
theorem dX12_zerosMark_59 : decode cX12_zerosMark 59 = .ok (.iconst 3, 1) := by decide +kernel
theorem dX12_zerosMark_60 : decode cX12_zerosMark 60 = .ok (.if_icmp .ne 11, 3) := by decide +kernel
theorem dX12_zerosMark_63 : decode cX12_zerosMark 63 = .ok (.iload_n 3, 1) := by decide +kernel
theorem dX12_zerosMark_64 : decode cX12_zerosMark 64 = .ok (.sipush 1000, 3) := by decide +kernel
theorem dX12_zerosMark_67 : decode cX12_zerosMark 67 = .ok (.isub, 1) := by decide +kernel
theorem dX12_zerosMark_68 : decode cX12_zerosMark 68 = .ok (.goto 4, 3) := by decide +kernel
theorem dX12_zerosMark_71 : decode cX12_zerosMark 71 = .ok (.iload_n 3, 1) := by decide +kernel
theorem dX12_zerosMark_72 : decode cX12_zerosMark 72 = .ok (.ireturn, 1) := by decide +kernel
set_option maxRecDepth 20000 in
set_option maxHeartbeats 4000000 in
theorem W_X12_zerosMark (K : xK) (L : xL) (a0 : Nat) (a1 : Int32) (h : xH) : Sim K L cX12_zerosMark RX12 "zerosMark" 4 2 (fun q : Int32 × xH => q.2) (xRi cX12_zerosMark) 0 [(0, .ref a0), (1, .int a1)] [] h (f_X12_zerosMark a0 a1 h) := by
  unfold f_X12_zerosMark
  refine S_aload_n (pc := 0) 0 rfl dX12_zerosMark_0 rfl ?_
  refine S_iload_n (pc := 1) 1 rfl dX12_zerosMark_1 rfl ?_
  refine S_call_i (pc := 2) (rest := []) (fun q hq => (x_if hq).elim (fun z => R_V (av := [.int a1]) (q := (RX12, TX12, 28)) (M_X12_kindIn _ a0 a1 h z.2) z.1 rfl wd_1184 wd_1181 wd_1183 wd_50 wd_36 ⟨rfl, hd_X12_kindIn⟩ ⟨Nat.le_of_ble_eq_true rfl, Nat.le_of_ble_eq_true rfl⟩ rfl (Nat.le_of_ble_eq_true rfl) dX12_zerosMark_2) (fun hq => (by cases hq))) (fun _ h => absurd h List.not_mem_nil) (fun q1 => ?_)
  refine S_istore_n (pc := 5) dX12_zerosMark_5 rfl (Nat.le_of_ble_eq_true rfl) rfl ?_
  refine S_iload_n (pc := 6) 0 rfl dX12_zerosMark_6 rfl ?_
  refine S_iconst (pc := 7) dX12_zerosMark_7 ic_1 ?_
  refine Sim.bindS (hs := fun q4 : xH => q4) (px := 27) (lsx := fun q4 => [(0, .ref a0), (1, .int a1), (2, .int q1.1)]) (stx := fun q4 => []) ?_ (fun q4 => ?_)
  · refine S_icmp_eq (pc := 8) (tgt := 27) dX12_zerosMark_8 (by decide) ?_ ?_
    · refine S_sub [1, 2, 0] rfl ?_
      exact Sim.fin ⟨rfl, rfl, rfl, rfl⟩ rfl
    · refine S_aload_n (pc := 11) 1 rfl dX12_zerosMark_11 rfl ?_
      refine S_iload_n (pc := 12) 0 rfl dX12_zerosMark_12 rfl ?_
      refine S_iconst (pc := 13) dX12_zerosMark_13 ic_2 ?_
      refine S_icmp_ne (pc := 14) (tgt := 22) dX12_zerosMark_14 (by decide) ?_ ?_
      · refine S_bipush (pc := 17) dX12_zerosMark_17 bi_24 ?_
        refine S_goto (pc := 19) (tgt := 24) dX12_zerosMark_19 (by decide) ?_
        refine S_call_v (pc := 24) (rest := []) (fun q hq => (x_if hq).elim (fun z => R_V (av := [.int (24 : Int32)]) (q := (RX12, TX12, 28)) (M_X12_traces _ a0 (24 : Int32) q1.2 z.2) z.1 rfl wd_1200 wd_1197 wd_1199 wd_50 wd_38 ⟨rfl, hd_X12_traces⟩ ⟨Nat.le_of_ble_eq_true rfl, Nat.le_of_ble_eq_true rfl⟩ rfl (Nat.le_of_ble_eq_true rfl) dX12_zerosMark_24) (fun hq => (by cases hq))) (fun _ h => absurd h List.not_mem_nil) (fun q2 => ?_)
        refine S_sub [1, 2, 0] rfl ?_
        exact Sim.fin ⟨rfl, rfl, rfl, rfl⟩ rfl
      · refine S_bipush (pc := 22) dX12_zerosMark_22 bi_22 ?_
        refine S_call_v (pc := 24) (rest := []) (fun q hq => (x_if hq).elim (fun z => R_V (av := [.int (22 : Int32)]) (q := (RX12, TX12, 28)) (M_X12_traces _ a0 (22 : Int32) q1.2 z.2) z.1 rfl wd_1200 wd_1197 wd_1199 wd_50 wd_38 ⟨rfl, hd_X12_traces⟩ ⟨Nat.le_of_ble_eq_true rfl, Nat.le_of_ble_eq_true rfl⟩ rfl (Nat.le_of_ble_eq_true rfl) dX12_zerosMark_24) (fun hq => (by cases hq))) (fun _ h => absurd h List.not_mem_nil) (fun q3 => ?_)
        refine S_sub [1, 2, 0] rfl ?_
        exact Sim.fin ⟨rfl, rfl, rfl, rfl⟩ rfl
  · refine S_aload_n (pc := 27) 0 rfl dX12_zerosMark_27 rfl ?_
    refine S_bipush (pc := 28) dX12_zerosMark_28 bi_21 ?_
    refine S_call_v (pc := 30) (rest := []) (fun q hq => (x_if hq).elim (fun z => R_V (av := [.int (21 : Int32)]) (q := (RX12, TX12, 28)) (M_X12_traces _ a0 (21 : Int32) q4 z.2) z.1 rfl wd_1200 wd_1197 wd_1199 wd_50 wd_38 ⟨rfl, hd_X12_traces⟩ ⟨Nat.le_of_ble_eq_true rfl, Nat.le_of_ble_eq_true rfl⟩ rfl (Nat.le_of_ble_eq_true rfl) dX12_zerosMark_30) (fun hq => (by cases hq))) (fun _ h => absurd h List.not_mem_nil) (fun q5 => ?_)
    refine S_aload_n (pc := 33) 0 rfl dX12_zerosMark_33 rfl ?_
    refine S_bipush (pc := 34) dX12_zerosMark_34 bi_20 ?_
    refine S_call_v (pc := 36) (rest := []) (fun q hq => (x_if hq).elim (fun z => R_V (av := [.int (20 : Int32)]) (q := (RX12, TX12, 28)) (M_X12_traces _ a0 (20 : Int32) q5 z.2) z.1 rfl wd_1200 wd_1197 wd_1199 wd_50 wd_38 ⟨rfl, hd_X12_traces⟩ ⟨Nat.le_of_ble_eq_true rfl, Nat.le_of_ble_eq_true rfl⟩ rfl (Nat.le_of_ble_eq_true rfl) dX12_zerosMark_36) (fun hq => (by cases hq))) (fun _ h => absurd h List.not_mem_nil) (fun q6 => ?_)
    refine S_iload_n (pc := 39) 1 rfl dX12_zerosMark_39 rfl ?_
    refine S_aload_n (pc := 40) 0 rfl dX12_zerosMark_40 rfl ?_
    refine S_iload_n (pc := 41) 1 rfl dX12_zerosMark_41 rfl ?_
    refine S_call_i (pc := 42) (rest := [.int a1]) (fun q hq => (x_if hq).elim (fun z => R_V (av := [.int a1]) (q := (RX12, TX12, 28)) (M_X12_onesOf _ a0 a1 q6 z.2) z.1 rfl wd_1212 wd_1209 wd_1211 wd_50 wd_41 ⟨rfl, hd_X12_onesOf⟩ ⟨Nat.le_of_ble_eq_true rfl, Nat.le_of_ble_eq_true rfl⟩ rfl (Nat.le_of_ble_eq_true rfl) dX12_zerosMark_42) (fun hq => (by cases hq))) (fun _ h => List.mem_cons_of_mem _ (List.mem_cons_of_mem _ (h))) (fun q7 => ?_)
    refine S_iadd (pc := 45) dX12_zerosMark_45 ?_
    refine S_istore_n (pc := 46) dX12_zerosMark_46 rfl (Nat.le_of_ble_eq_true rfl) rfl ?_
    refine S_iload_n (pc := 47) 3 rfl dX12_zerosMark_47 rfl ?_
    refine S_iconst (pc := 48) dX12_zerosMark_48 ic_2 ?_
    refine S_icmp_ne (pc := 49) (tgt := 58) dX12_zerosMark_49 (by decide) ?_ ?_
    · refine S_iconst (pc := 52) dX12_zerosMark_52 ic_2 ?_
      refine S_iload_n (pc := 53) 0 rfl dX12_zerosMark_53 rfl ?_
      refine S_imul (pc := 54) dX12_zerosMark_54 ?_
      refine S_goto (pc := 55) (tgt := 72) dX12_zerosMark_55 (by decide) ?_
      exact Sim.fin ⟨dX12_zerosMark_72, rfl, rfl⟩ rfl
    · refine S_iload_n (pc := 58) 3 rfl dX12_zerosMark_58 rfl ?_
      refine S_iconst (pc := 59) dX12_zerosMark_59 ic_3 ?_
      refine S_icmp_ne (pc := 60) (tgt := 71) dX12_zerosMark_60 (by decide) ?_ ?_
      · refine S_iload_n (pc := 63) 0 rfl dX12_zerosMark_63 rfl ?_
        refine S_sipush (pc := 64) dX12_zerosMark_64 si_1000 ?_
        refine S_isub (pc := 67) dX12_zerosMark_67 ?_
        refine S_goto (pc := 68) (tgt := 72) dX12_zerosMark_68 (by decide) ?_
        exact Sim.fin ⟨dX12_zerosMark_72, rfl, rfl⟩ rfl
      · refine S_iload_n (pc := 71) 0 rfl dX12_zerosMark_71 rfl ?_
        exact Sim.fin ⟨dX12_zerosMark_72, rfl, rfl⟩ rfl
theorem M_X12_zerosMark (l : Launch) (a0 : Nat) (a1 : Int32) (h : xH) {q : Int32 × xH} (hq : f_X12_zerosMark a0 a1 h = some q) : xM l yX12_zerosMark cX12_zerosMark 4 (some .int) 2 [.ref a0, .int a1] h (some (.int q.1)) q.2 := xM_i (by decide +kernel) (Nat.le_of_ble_eq_true rfl) (fun K L => W_X12_zerosMark K L a0 a1 h) hq
theorem dX12_zerosSize_0 : decode cX12_zerosSize 0 = .ok (.aload_n 0, 1) := by decide +kernel
theorem dX12_zerosSize_1 : decode cX12_zerosSize 1 = .ok (.iload_n 1, 1) := by decide +kernel
theorem dX12_zerosSize_2 : decode cX12_zerosSize 2 = .ok (.invokevirtual 230, 3) := by decide +kernel
theorem dX12_zerosSize_5 : decode cX12_zerosSize 5 = .ok (.iconst 2, 1) := by decide +kernel
theorem dX12_zerosSize_6 : decode cX12_zerosSize 6 = .ok (.if_icmp .ne 7, 3) := by decide +kernel
theorem dX12_zerosSize_9 : decode cX12_zerosSize 9 = .ok (.iconst 1, 1) := by decide +kernel
theorem dX12_zerosSize_10 : decode cX12_zerosSize 10 = .ok (.goto 4, 3) := by decide +kernel
theorem dX12_zerosSize_13 : decode cX12_zerosSize 13 = .ok (.iconst 0, 1) := by decide +kernel
theorem dX12_zerosSize_14 : decode cX12_zerosSize 14 = .ok (.istore_n 2, 1) := by decide +kernel
theorem dX12_zerosSize_15 : decode cX12_zerosSize 15 = .ok (.iload_n 2, 1) := by decide +kernel
theorem dX12_zerosSize_16 : decode cX12_zerosSize 16 = .ok (.ifCond .eq 9, 3) := by decide +kernel
theorem dX12_zerosSize_19 : decode cX12_zerosSize 19 = .ok (.aload_n 0, 1) := by decide +kernel
theorem dX12_zerosSize_20 : decode cX12_zerosSize 20 = .ok (.bipush 12, 2) := by decide +kernel
theorem dX12_zerosSize_22 : decode cX12_zerosSize 22 = .ok (.invokevirtual 236, 3) := by decide +kernel
theorem dX12_zerosSize_25 : decode cX12_zerosSize 25 = .ok (.aload_n 0, 1) := by decide +kernel
theorem dX12_zerosSize_26 : decode cX12_zerosSize 26 = .ok (.bipush 11, 2) := by decide +kernel
theorem dX12_zerosSize_28 : decode cX12_zerosSize 28 = .ok (.invokevirtual 236, 3) := by decide +kernel
theorem dX12_zerosSize_31 : decode cX12_zerosSize 31 = .ok (.aload_n 0, 1) := by decide +kernel
theorem dX12_zerosSize_32 : decode cX12_zerosSize 32 = .ok (.bipush 10, 2) := by decide +kernel
theorem dX12_zerosSize_34 : decode cX12_zerosSize 34 = .ok (.invokevirtual 236, 3) := by decide +kernel
theorem dX12_zerosSize_37 : decode cX12_zerosSize 37 = .ok (.aload_n 0, 1) := by decide +kernel
theorem dX12_zerosSize_38 : decode cX12_zerosSize 38 = .ok (.getfield 44, 3) := by decide +kernel
theorem dX12_zerosSize_41 : decode cX12_zerosSize 41 = .ok (.iload_n 1, 1) := by decide +kernel
theorem dX12_zerosSize_42 : decode cX12_zerosSize 42 = .ok (.iaload, 1) := by decide +kernel
theorem dX12_zerosSize_43 : decode cX12_zerosSize 43 = .ok (.aload_n 0, 1) := by decide +kernel
theorem dX12_zerosSize_44 : decode cX12_zerosSize 44 = .ok (.iload_n 1, 1) := by decide +kernel
theorem dX12_zerosSize_45 : decode cX12_zerosSize 45 = .ok (.invokevirtual 243, 3) := by decide +kernel
theorem dX12_zerosSize_48 : decode cX12_zerosSize 48 = .ok (.iadd, 1) := by decide +kernel
theorem dX12_zerosSize_49 : decode cX12_zerosSize 49 = .ok (.istore_n 3, 1) := by decide +kernel
theorem dX12_zerosSize_50 : decode cX12_zerosSize 50 = .ok (.iload_n 2, 1) := by decide +kernel
theorem dX12_zerosSize_51 : decode cX12_zerosSize 51 = .ok (.ifCond .eq 8, 3) := by decide +kernel
theorem dX12_zerosSize_54 : decode cX12_zerosSize 54 = .ok (.iload_n 3, 1) := by decide +kernel
theorem dX12_zerosSize_55 : decode cX12_zerosSize 55 = .ok (.ineg, 1) := by decide +kernel
theorem dX12_zerosSize_56 : decode cX12_zerosSize 56 = .ok (.goto 4, 3) := by decide +kernel
theorem dX12_zerosSize_59 : decode cX12_zerosSize 59 = .ok (.iload_n 3, 1) := by decide +kernel
theorem dX12_zerosSize_60 : decode cX12_zerosSize 60 = .ok (.ireturn, 1) := by decide +kernel
set_option maxRecDepth 20000 in
set_option maxHeartbeats 4000000 in
theorem W_X12_zerosSize (K : xK) (L : xL) (a0 : Nat) (a1 : Int32) (h : xH) : Sim K L cX12_zerosSize RX12 "zerosSize" 4 3 (fun q : Int32 × xH => q.2) (xRi cX12_zerosSize) 0 [(0, .ref a0), (1, .int a1)] [] h (f_X12_zerosSize a0 a1 h) := by
  unfold f_X12_zerosSize
  refine S_aload_n (pc := 0) 0 rfl dX12_zerosSize_0 rfl ?_
  refine S_iload_n (pc := 1) 1 rfl dX12_zerosSize_1 rfl ?_
  refine S_call_i (pc := 2) (rest := []) (fun q hq => (x_if hq).elim (fun z => R_V (av := [.int a1]) (q := (RX12, TX12, 28)) (M_X12_kindIn _ a0 a1 h z.2) z.1 rfl wd_1184 wd_1181 wd_1183 wd_50 wd_36 ⟨rfl, hd_X12_kindIn⟩ ⟨Nat.le_of_ble_eq_true rfl, Nat.le_of_ble_eq_true rfl⟩ rfl (Nat.le_of_ble_eq_true rfl) dX12_zerosSize_2) (fun hq => (by cases hq))) (fun _ h => absurd h List.not_mem_nil) (fun q1 => ?_)
  refine S_iconst (pc := 5) dX12_zerosSize_5 ic_2 ?_
  refine Sim.cut (pc' := 14) (st' := [.int (if q1.1 = (2 : Int32) then (1 : Int32) else (0 : Int32))]) ?_ (fun kc => ?_)
  · refine S_istore_n (pc := 14) dX12_zerosSize_14 rfl (Nat.le_of_ble_eq_true rfl) rfl ?_
    refine S_iload_n (pc := 15) 0 rfl dX12_zerosSize_15 rfl ?_
    refine Sim.bindS (hs := fun q4 : xH => q4) (px := 25) (lsx := fun q4 => [(0, .ref a0), (1, .int a1), (2, .int (if q1.1 = (2 : Int32) then (1 : Int32) else (0 : Int32)))]) (stx := fun q4 => []) ?_ (fun q4 => ?_)
    · refine S_if_eq (pc := 16) (tgt := 25) dX12_zerosSize_16 (by decide) ?_ ?_
      · refine S_sub [1, 2, 0] rfl ?_
        exact Sim.fin ⟨rfl, rfl, rfl, rfl⟩ rfl
      · refine S_aload_n (pc := 19) 1 rfl dX12_zerosSize_19 rfl ?_
        refine S_bipush (pc := 20) dX12_zerosSize_20 bi_12 ?_
        refine S_call_v (pc := 22) (rest := []) (fun q hq => (x_if hq).elim (fun z => R_V (av := [.int (12 : Int32)]) (q := (RX12, TX12, 28)) (M_X12_traces _ a0 (12 : Int32) q1.2 z.2) z.1 rfl wd_1200 wd_1197 wd_1199 wd_50 wd_38 ⟨rfl, hd_X12_traces⟩ ⟨Nat.le_of_ble_eq_true rfl, Nat.le_of_ble_eq_true rfl⟩ rfl (Nat.le_of_ble_eq_true rfl) dX12_zerosSize_22) (fun hq => (by cases hq))) (fun _ h => absurd h List.not_mem_nil) (fun q3 => ?_)
        refine S_sub [1, 2, 0] rfl ?_
        exact Sim.fin ⟨rfl, rfl, rfl, rfl⟩ rfl
    · refine S_aload_n (pc := 25) 0 rfl dX12_zerosSize_25 rfl ?_
      refine S_bipush (pc := 26) dX12_zerosSize_26 bi_11 ?_
      refine S_call_v (pc := 28) (rest := []) (fun q hq => (x_if hq).elim (fun z => R_V (av := [.int (11 : Int32)]) (q := (RX12, TX12, 28)) (M_X12_traces _ a0 (11 : Int32) q4 z.2) z.1 rfl wd_1200 wd_1197 wd_1199 wd_50 wd_38 ⟨rfl, hd_X12_traces⟩ ⟨Nat.le_of_ble_eq_true rfl, Nat.le_of_ble_eq_true rfl⟩ rfl (Nat.le_of_ble_eq_true rfl) dX12_zerosSize_28) (fun hq => (by cases hq))) (fun _ h => absurd h List.not_mem_nil) (fun q5 => ?_)
      refine S_aload_n (pc := 31) 0 rfl dX12_zerosSize_31 rfl ?_
      refine S_bipush (pc := 32) dX12_zerosSize_32 bi_10 ?_
      refine S_call_v (pc := 34) (rest := []) (fun q hq => (x_if hq).elim (fun z => R_V (av := [.int (10 : Int32)]) (q := (RX12, TX12, 28)) (M_X12_traces _ a0 (10 : Int32) q5 z.2) z.1 rfl wd_1200 wd_1197 wd_1199 wd_50 wd_38 ⟨rfl, hd_X12_traces⟩ ⟨Nat.le_of_ble_eq_true rfl, Nat.le_of_ble_eq_true rfl⟩ rfl (Nat.le_of_ble_eq_true rfl) dX12_zerosSize_34) (fun hq => (by cases hq))) (fun _ h => absurd h List.not_mem_nil) (fun q6 => ?_)
      refine S_aload_n (pc := 37) 0 rfl dX12_zerosSize_37 rfl ?_
      refine S_getR (pc := 38) fd_X12_length wd_829 dX12_zerosSize_38 (fun v7 => ?_)
      refine S_iload_n (pc := 41) 1 rfl dX12_zerosSize_41 rfl ?_
      refine S_aI (pc := 42) dX12_zerosSize_42 (fun v8 => ?_)
      refine S_aload_n (pc := 43) 0 rfl dX12_zerosSize_43 rfl ?_
      refine S_iload_n (pc := 44) 1 rfl dX12_zerosSize_44 rfl ?_
      refine S_call_i (pc := 45) (rest := [.int v8]) (fun q hq => (x_if hq).elim (fun z => R_V (av := [.int a1]) (q := (RX12, TX12, 28)) (M_X12_zerosMark _ a0 a1 q6 z.2) z.1 rfl wd_1208 wd_1205 wd_1207 wd_50 wd_40 ⟨rfl, hd_X12_zerosMark⟩ ⟨Nat.le_of_ble_eq_true rfl, Nat.le_of_ble_eq_true rfl⟩ rfl (Nat.le_of_ble_eq_true rfl) dX12_zerosSize_45) (fun hq => (by cases hq))) (fun _ h => List.mem_cons_of_mem _ (List.mem_cons_of_mem _ (h))) (fun q9 => ?_)
      refine S_iadd (pc := 48) dX12_zerosSize_48 ?_
      refine S_istore_n (pc := 49) dX12_zerosSize_49 rfl (Nat.le_of_ble_eq_true rfl) rfl ?_
      refine S_iload_n (pc := 50) 3 rfl dX12_zerosSize_50 rfl ?_
      refine S_if_eq (pc := 51) (tgt := 59) dX12_zerosSize_51 (by decide) ?_ ?_
      · refine S_iload_n (pc := 59) 0 rfl dX12_zerosSize_59 rfl ?_
        exact Sim.fin ⟨dX12_zerosSize_60, rfl, rfl⟩ rfl
      · refine S_iload_n (pc := 54) 0 rfl dX12_zerosSize_54 rfl ?_
        refine S_ineg (pc := 55) dX12_zerosSize_55 ?_
        refine S_goto (pc := 56) (tgt := 60) dX12_zerosSize_56 (by decide) ?_
        exact Sim.fin ⟨dX12_zerosSize_60, rfl, rfl⟩ rfl
  · refine D_icmp_ne (pc := 6) (tgt := 13) dX12_zerosSize_6 (by decide) (fun c2 => ?_) (fun c2 => ?_)
    · refine S_iconst (pc := 9) dX12_zerosSize_9 ic_1 ?_
      refine S_goto (pc := 10) (tgt := 14) dX12_zerosSize_10 (by decide) ?_
      exact x_st (by rw [if_pos c2]) kc
    · refine S_iconst (pc := 13) dX12_zerosSize_13 ic_0 ?_
      exact x_st (by rw [if_neg c2]) kc
theorem M_X12_zerosSize (l : Launch) (a0 : Nat) (a1 : Int32) (h : xH) {q : Int32 × xH} (hq : f_X12_zerosSize a0 a1 h = some q) : xM l yX12_zerosSize cX12_zerosSize 4 (some .int) 3 [.ref a0, .int a1] h (some (.int q.1)) q.2 := xM_i (by decide +kernel) (Nat.le_of_ble_eq_true rfl) (fun K L => W_X12_zerosSize K L a0 a1 h) hq
theorem dX12_ask_0 : decode cX12_ask 0 = .ok (.aload_n 0, 1) := by decide +kernel
theorem dX12_ask_1 : decode cX12_ask 1 = .ok (.iload_n 1, 1) := by decide +kernel
theorem dX12_ask_2 : decode cX12_ask 2 = .ok (.invokevirtual 227, 3) := by decide +kernel
theorem dX12_ask_5 : decode cX12_ask 5 = .ok (.ifCond .eq 12, 3) := by decide +kernel
theorem dX12_ask_8 : decode cX12_ask 8 = .ok (.iload_n 2, 1) := by decide +kernel
theorem dX12_ask_9 : decode cX12_ask 9 = .ok (.iconst 0, 1) := by decide +kernel
theorem dX12_ask_10 : decode cX12_ask 10 = .ok (.iconst 1, 1) := by decide +kernel
theorem dX12_ask_11 : decode cX12_ask 11 = .ok (.invokestatic 65, 3) := by decide +kernel
theorem dX12_ask_14 : decode cX12_ask 14 = .ok (.ifCond .ne 6, 3) := by decide +kernel
theorem dX12_ask_17 : decode cX12_ask 17 = .ok (.ldc 73, 2) := by decide +kernel
theorem dX12_ask_19 : decode cX12_ask 19 = .ok (.ireturn, 1) := by decide +kernel
theorem dX12_ask_20 : decode cX12_ask 20 = .ok (.aload_n 0, 1) := by decide +kernel
theorem dX12_ask_21 : decode cX12_ask 21 = .ok (.iconst 0, 1) := by decide +kernel
theorem dX12_ask_22 : decode cX12_ask 22 = .ok (.putfield 233, 3) := by decide +kernel
theorem dX12_ask_25 : decode cX12_ask 25 = .ok (.aload_n 0, 1) := by decide +kernel
theorem dX12_ask_26 : decode cX12_ask 26 = .ok (.iload_n 1, 1) := by decide +kernel
theorem dX12_ask_27 : decode cX12_ask 27 = .ok (.invokevirtual 230, 3) := by decide +kernel
theorem dX12_ask_30 : decode cX12_ask 30 = .ok (.iconst 4, 1) := by decide +kernel
theorem dX12_ask_31 : decode cX12_ask 31 = .ok (.if_icmp .lt 7, 3) := by decide +kernel
theorem dX12_ask_34 : decode cX12_ask 34 = .ok (.iconst 1, 1) := by decide +kernel
theorem dX12_ask_35 : decode cX12_ask 35 = .ok (.goto 4, 3) := by decide +kernel
theorem dX12_ask_38 : decode cX12_ask 38 = .ok (.iconst 0, 1) := by decide +kernel
theorem dX12_ask_39 : decode cX12_ask 39 = .ok (.istore_n 3, 1) := by decide +kernel
theorem dX12_ask_40 : decode cX12_ask 40 = .ok (.iload_n 2, 1) := by decide +kernel
theorem dX12_ask_41 : decode cX12_ask 41 = .ok (.ifCond .ne 21, 3) := by decide +kernel
theorem dX12_ask_44 : decode cX12_ask 44 = .ok (.iload_n 3, 1) := by decide +kernel
theorem dX12_ask_45 : decode cX12_ask 45 = .ok (.ifCond .eq 11, 3) := by decide +kernel
theorem dX12_ask_48 : decode cX12_ask 48 = .ok (.aload_n 0, 1) := by decide +kernel
theorem dX12_ask_49 : decode cX12_ask 49 = .ok (.iload_n 1, 1) := by decide +kernel
theorem dX12_ask_50 : decode cX12_ask 50 = .ok (.invokevirtual 246, 3) := by decide +kernel
theorem dX12_ask_53 : decode cX12_ask 53 = .ok (.goto 8, 3) := by decide +kernel
theorem dX12_ask_56 : decode cX12_ask 56 = .ok (.aload_n 0, 1) := by decide +kernel
theorem dX12_ask_57 : decode cX12_ask 57 = .ok (.iload_n 1, 1) := by decide +kernel
theorem dX12_ask_58 : decode cX12_ask 58 = .ok (.invokevirtual 249, 3) := by decide +kernel
theorem dX12_ask_61 : decode cX12_ask 61 = .ok (.ireturn, 1) := by decide +kernel
theorem dX12_ask_62 : decode cX12_ask 62 = .ok (.iload_n 3, 1) := by decide +kernel
theorem dX12_ask_63 : decode cX12_ask 63 = .ok (.ifCond .eq 11, 3) := by decide +kernel
theorem dX12_ask_66 : decode cX12_ask 66 = .ok (.aload_n 0, 1) := by decide +kernel
theorem dX12_ask_67 : decode cX12_ask 67 = .ok (.iload_n 1, 1) := by decide +kernel
theorem dX12_ask_68 : decode cX12_ask 68 = .ok (.invokevirtual 252, 3) := by decide +kernel
theorem dX12_ask_71 : decode cX12_ask 71 = .ok (.goto 8, 3) := by decide +kernel
theorem dX12_ask_74 : decode cX12_ask 74 = .ok (.aload_n 0, 1) := by decide +kernel
theorem dX12_ask_75 : decode cX12_ask 75 = .ok (.iload_n 1, 1) := by decide +kernel
theorem dX12_ask_76 : decode cX12_ask 76 = .ok (.invokevirtual 243, 3) := by decide +kernel
theorem dX12_ask_79 : decode cX12_ask 79 = .ok (.ireturn, 1) := by decide +kernel
set_option maxRecDepth 20000 in
set_option maxHeartbeats 4000000 in
theorem W_X12_ask (K : xK) (L : xL) (a0 : Nat) (a1 : Int32) (a2 : Int32) (h : xH) : Sim K L cX12_ask RX12 "ask" 4 4 (fun q : Int32 × xH => q.2) (xRi cX12_ask) 0 [(0, .ref a0), (1, .int a1), (2, .int a2)] [] h (f_X12_ask a0 a1 a2 h) := by
  unfold f_X12_ask
  refine S_aload_n (pc := 0) 0 rfl dX12_ask_0 rfl ?_
  refine S_iload_n (pc := 1) 1 rfl dX12_ask_1 rfl ?_
  refine S_call_i (pc := 2) (rest := []) (fun q hq => (x_if hq).elim (fun z => R_V (av := [.int a1]) (q := (RX12, TX12, 28)) (M_X12_isRun _ a0 a1 h z.2) z.1 rfl wd_1180 wd_1177 wd_1179 wd_50 wd_35 ⟨rfl, hd_X12_isRun⟩ ⟨Nat.le_of_ble_eq_true rfl, Nat.le_of_ble_eq_true rfl⟩ rfl (Nat.le_of_ble_eq_true rfl) dX12_ask_2) (fun hq => (by cases hq))) (fun _ h => absurd h List.not_mem_nil) (fun q1 => ?_)
  refine S_if_eq (pc := 5) (tgt := 17) dX12_ask_5 (by decide) ?_ ?_
  · refine S_ldc (pc := 17) wd_903 dX12_ask_17 ?_
    exact Sim.fin ⟨dX12_ask_19, rfl, rfl⟩ rfl
  · refine S_iload_n (pc := 8) 2 rfl dX12_ask_8 rfl ?_
    refine S_iconst (pc := 9) dX12_ask_9 ic_0 ?_
    refine S_iconst (pc := 10) dX12_ask_10 ic_1 ?_
    refine S_call_i (pc := 11) (rest := []) (fun q hq => R_S (av := [.int a2, .int (0 : Int32), .int (1 : Int32)]) (M_X12_in _ a2 (0 : Int32) (1 : Int32) q1.2 hq) wd_902 wd_900 wd_901 wd_50 hd_X12_in ⟨Nat.le_of_ble_eq_true rfl, Nat.le_of_ble_eq_true rfl⟩ rfl (Nat.le_of_ble_eq_true rfl) dX12_ask_11) (fun _ h => absurd h List.not_mem_nil) (fun q2 => ?_)
    refine S_if_ne (pc := 14) (tgt := 20) dX12_ask_14 (by decide) ?_ ?_
    · refine S_ldc (pc := 17) wd_903 dX12_ask_17 ?_
      exact Sim.fin ⟨dX12_ask_19, rfl, rfl⟩ rfl
    · refine S_aload_n (pc := 20) 0 rfl dX12_ask_20 rfl ?_
      refine S_iconst (pc := 21) dX12_ask_21 ic_0 ?_
      refine S_putI (pc := 22) fd_X12_traced wd_835 rfl rfl dX12_ask_22 (fun h3 => ?_)
      refine S_aload_n (pc := 25) 0 rfl dX12_ask_25 rfl ?_
      refine S_iload_n (pc := 26) 1 rfl dX12_ask_26 rfl ?_
      refine S_call_i (pc := 27) (rest := []) (fun q hq => (x_if hq).elim (fun z => R_V (av := [.int a1]) (q := (RX12, TX12, 28)) (M_X12_kindIn _ a0 a1 h3 z.2) z.1 rfl wd_1184 wd_1181 wd_1183 wd_50 wd_36 ⟨rfl, hd_X12_kindIn⟩ ⟨Nat.le_of_ble_eq_true rfl, Nat.le_of_ble_eq_true rfl⟩ rfl (Nat.le_of_ble_eq_true rfl) dX12_ask_27) (fun hq => (by cases hq))) (fun _ h => absurd h List.not_mem_nil) (fun q4 => ?_)
      refine S_iconst (pc := 30) dX12_ask_30 ic_4 ?_
      refine Sim.cut (pc' := 39) (st' := [.int (if q4.1 < (4 : Int32) then (0 : Int32) else (1 : Int32))]) ?_ (fun kc => ?_)
      · refine S_istore_n (pc := 39) dX12_ask_39 rfl (Nat.le_of_ble_eq_true rfl) rfl ?_
        refine S_iload_n (pc := 40) 3 rfl dX12_ask_40 rfl ?_
        refine S_if_ne (pc := 41) (tgt := 62) dX12_ask_41 (by decide) ?_ ?_
        · refine S_iload_n (pc := 44) 0 rfl dX12_ask_44 rfl ?_
          refine S_if_eq (pc := 45) (tgt := 56) dX12_ask_45 (by decide) ?_ ?_
          · refine S_aload_n (pc := 56) 1 rfl dX12_ask_56 rfl ?_
            refine S_iload_n (pc := 57) 2 rfl dX12_ask_57 rfl ?_
            refine S_call_i (pc := 58) (rest := []) (fun q hq => (x_if hq).elim (fun z => R_V (av := [.int a1]) (q := (RX12, TX12, 28)) (M_X12_zerosSize _ a0 a1 q4.2 z.2) z.1 rfl wd_1204 wd_1201 wd_1203 wd_50 wd_39 ⟨rfl, hd_X12_zerosSize⟩ ⟨Nat.le_of_ble_eq_true rfl, Nat.le_of_ble_eq_true rfl⟩ rfl (Nat.le_of_ble_eq_true rfl) dX12_ask_58) (fun hq => (by cases hq))) (fun _ h => absurd h List.not_mem_nil) (fun q6 => ?_)
            exact Sim.fin ⟨dX12_ask_61, rfl, rfl⟩ rfl
          · refine S_aload_n (pc := 48) 1 rfl dX12_ask_48 rfl ?_
            refine S_iload_n (pc := 49) 2 rfl dX12_ask_49 rfl ?_
            refine S_call_i (pc := 50) (rest := []) (fun q hq => (x_if hq).elim (fun z => R_V (av := [.int a1]) (q := (RX12, TX12, 28)) (M_X12_alternateSize _ a0 a1 q4.2 z.2) z.1 rfl wd_1196 wd_1193 wd_1195 wd_50 wd_37 ⟨rfl, hd_X12_alternateSize⟩ ⟨Nat.le_of_ble_eq_true rfl, Nat.le_of_ble_eq_true rfl⟩ rfl (Nat.le_of_ble_eq_true rfl) dX12_ask_50) (fun hq => (by cases hq))) (fun _ h => absurd h List.not_mem_nil) (fun q7 => ?_)
            refine S_goto (pc := 53) (tgt := 61) dX12_ask_53 (by decide) ?_
            exact Sim.fin ⟨dX12_ask_61, rfl, rfl⟩ rfl
        · refine S_iload_n (pc := 62) 0 rfl dX12_ask_62 rfl ?_
          refine S_if_eq (pc := 63) (tgt := 74) dX12_ask_63 (by decide) ?_ ?_
          · refine S_aload_n (pc := 74) 1 rfl dX12_ask_74 rfl ?_
            refine S_iload_n (pc := 75) 2 rfl dX12_ask_75 rfl ?_
            refine S_call_i (pc := 76) (rest := []) (fun q hq => (x_if hq).elim (fun z => R_V (av := [.int a1]) (q := (RX12, TX12, 28)) (M_X12_zerosMark _ a0 a1 q4.2 z.2) z.1 rfl wd_1208 wd_1205 wd_1207 wd_50 wd_40 ⟨rfl, hd_X12_zerosMark⟩ ⟨Nat.le_of_ble_eq_true rfl, Nat.le_of_ble_eq_true rfl⟩ rfl (Nat.le_of_ble_eq_true rfl) dX12_ask_76) (fun hq => (by cases hq))) (fun _ h => absurd h List.not_mem_nil) (fun q8 => ?_)
            exact Sim.fin ⟨dX12_ask_79, rfl, rfl⟩ rfl
          · refine S_aload_n (pc := 66) 1 rfl dX12_ask_66 rfl ?_
            refine S_iload_n (pc := 67) 2 rfl dX12_ask_67 rfl ?_
            refine S_call_i (pc := 68) (rest := []) (fun q hq => (x_if hq).elim (fun z => R_V (av := [.int a1]) (q := (RX12, TX12, 28)) (M_X12_alternateMark _ a0 a1 q4.2 z.2) z.1 rfl wd_1216 wd_1213 wd_1215 wd_50 wd_42 ⟨rfl, hd_X12_alternateMark⟩ ⟨Nat.le_of_ble_eq_true rfl, Nat.le_of_ble_eq_true rfl⟩ rfl (Nat.le_of_ble_eq_true rfl) dX12_ask_68) (fun hq => (by cases hq))) (fun _ h => absurd h List.not_mem_nil) (fun q9 => ?_)
            refine S_goto (pc := 71) (tgt := 79) dX12_ask_71 (by decide) ?_
            exact Sim.fin ⟨dX12_ask_79, rfl, rfl⟩ rfl
      · refine D_icmp_lt (pc := 31) (tgt := 38) dX12_ask_31 (by decide) (fun c5 => ?_) (fun c5 => ?_)
        · refine S_iconst (pc := 38) dX12_ask_38 ic_0 ?_
          exact x_st (by rw [if_pos c5]) kc
        · refine S_iconst (pc := 34) dX12_ask_34 ic_1 ?_
          refine S_goto (pc := 35) (tgt := 39) dX12_ask_35 (by decide) ?_
          exact x_st (by rw [if_neg c5]) kc
theorem M_X12_ask (l : Launch) (a0 : Nat) (a1 : Int32) (a2 : Int32) (h : xH) {q : Int32 × xH} (hq : f_X12_ask a0 a1 a2 h = some q) : xM l yX12_ask cX12_ask 4 (some .int) 4 [.ref a0, .int a1, .int a2] h (some (.int q.1)) q.2 := xM_i (by decide +kernel) (Nat.le_of_ble_eq_true rfl) (fun K L => W_X12_ask K L a0 a1 a2 h) hq
theorem dX12_widthOf_0 : decode cX12_widthOf 0 = .ok (.iconst 0, 1) := by decide +kernel
theorem dX12_widthOf_1 : decode cX12_widthOf 1 = .ok (.istore_n 2, 1) := by decide +kernel
theorem dX12_widthOf_2 : decode cX12_widthOf 2 = .ok (.iconst 1, 1) := by decide +kernel
theorem dX12_widthOf_3 : decode cX12_widthOf 3 = .ok (.iload_n 2, 1) := by decide +kernel
theorem dX12_widthOf_4 : decode cX12_widthOf 4 = .ok (.ishl, 1) := by decide +kernel
theorem dX12_widthOf_5 : decode cX12_widthOf 5 = .ok (.aload_n 0, 1) := by decide +kernel
theorem dX12_widthOf_6 : decode cX12_widthOf 6 = .ok (.getfield 53, 3) := by decide +kernel
theorem dX12_widthOf_9 : decode cX12_widthOf 9 = .ok (.sipush 240, 3) := by decide +kernel
theorem dX12_widthOf_12 : decode cX12_widthOf 12 = .ok (.iload_n 1, 1) := by decide +kernel
theorem dX12_widthOf_13 : decode cX12_widthOf 13 = .ok (.iadd, 1) := by decide +kernel
theorem dX12_widthOf_14 : decode cX12_widthOf 14 = .ok (.iaload, 1) := by decide +kernel
theorem dX12_widthOf_15 : decode cX12_widthOf 15 = .ok (.if_icmp .ge 9, 3) := by decide +kernel
theorem dX12_widthOf_18 : decode cX12_widthOf 18 = .ok (.iinc 2 1, 3) := by decide +kernel
theorem dX12_widthOf_21 : decode cX12_widthOf 21 = .ok (.goto (-19), 3) := by decide +kernel
theorem dX12_widthOf_24 : decode cX12_widthOf 24 = .ok (.iload_n 2, 1) := by decide +kernel
theorem dX12_widthOf_25 : decode cX12_widthOf 25 = .ok (.ireturn, 1) := by decide +kernel
set_option maxRecDepth 20000 in
set_option maxHeartbeats 4000000 in
theorem L_X12_widthOf_2 (K : xK) (L : xL) : ∀ (n : Nat) (a0 : Nat) (a1 : Int32) (a2 : Int32) (h : xH), Sim K L cX12_widthOf RX12 "widthOf" 3 0 (fun q : Int32 × xH => q.2) (fun q pc' ls' st' h' => pc' = 24 ∧ ls' = [(0, .ref a0), (1, .int a1), (2, .int q.1)] ∧ st' = [] ∧ h' = q.2) 2 [(0, .ref a0), (1, .int a1), (2, .int a2)] [] h (f_X12_widthOf_L2 n a0 a1 a2 h) := by
  intro n
  induction n with
  | zero =>
    intro a0 a1 a2 h
    exact Sim.none
  | succ n ih =>
    intro a0 a1 a2 h
    unfold f_X12_widthOf_L2
    refine S_iconst (pc := 2) dX12_widthOf_2 ic_1 ?_
    refine S_iload_n (pc := 3) 2 rfl dX12_widthOf_3 rfl ?_
    refine S_ishl (pc := 4) dX12_widthOf_4 ?_
    refine S_aload_n (pc := 5) 0 rfl dX12_widthOf_5 rfl ?_
    refine S_getR (pc := 6) fd_X12_chosen wd_833 dX12_widthOf_6 (fun v1 => ?_)
    refine S_sipush (pc := 9) dX12_widthOf_9 si_240 ?_
    refine S_iload_n (pc := 12) 1 rfl dX12_widthOf_12 rfl ?_
    refine S_iadd (pc := 13) dX12_widthOf_13 ?_
    refine S_aI (pc := 14) dX12_widthOf_14 (fun v2 => ?_)
    refine S_icmp_ge (pc := 15) (tgt := 24) dX12_widthOf_15 (by decide) ?_ ?_
    · refine S_sub [0, 1, 2] rfl ?_
      exact Sim.fin ⟨rfl, rfl, rfl, rfl⟩ rfl
    · refine S_iinc (pc := 18) (v := a2 + (1 : Int32)) 2 rfl dX12_widthOf_18 (x_inc ic_1) (Nat.le_of_ble_eq_true rfl) rfl ?_
      refine S_goto (pc := 21) (tgt := 2) dX12_widthOf_21 (by decide) ?_
      refine S_sub [1, 2, 0] rfl ?_
      exact ih a0 a1 (a2 + (1 : Int32)) h
set_option maxRecDepth 20000 in
set_option maxHeartbeats 4000000 in
theorem W_X12_widthOf (K : xK) (L : xL) (a0 : Nat) (a1 : Int32) (h : xH) : Sim K L cX12_widthOf RX12 "widthOf" 3 0 (fun q : Int32 × xH => q.2) (xRi cX12_widthOf) 0 [(0, .ref a0), (1, .int a1)] [] h (f_X12_widthOf a0 a1 h) := by
  unfold f_X12_widthOf
  refine S_iconst (pc := 0) dX12_widthOf_0 ic_0 ?_
  refine S_istore_n (pc := 1) dX12_widthOf_1 rfl (Nat.le_of_ble_eq_true rfl) rfl ?_
  refine S_sub [1, 2, 0] rfl ?_
  refine Sim.bind (hs := fun q3 : Int32 × xH => q3.2) (px := 24) (lsx := fun q3 => [(0, .ref a0), (1, .int a1), (2, .int q3.1)]) (L_X12_widthOf_2 K L xN a0 a1 (0 : Int32) h) (fun q3 => ?_)
  refine S_iload_n (pc := 24) 2 rfl dX12_widthOf_24 rfl ?_
  exact Sim.fin ⟨dX12_widthOf_25, rfl, rfl⟩ rfl
theorem M_X12_widthOf (l : Launch) (a0 : Nat) (a1 : Int32) (h : xH) {q : Int32 × xH} (hq : f_X12_widthOf a0 a1 h = some q) : xM l yX12_widthOf cX12_widthOf 3 (some .int) 0 [.ref a0, .int a1] h (some (.int q.1)) q.2 := xM_i (by decide +kernel) (Nat.le_of_ble_eq_true rfl) (fun K L => W_X12_widthOf K L a0 a1 h) hq
theorem dX12_begins_0 : decode cX12_begins 0 = .ok (.iconst 0, 1) := by decide +kernel
theorem dX12_begins_1 : decode cX12_begins 1 = .ok (.istore 4, 2) := by decide +kernel
theorem dX12_begins_3 : decode cX12_begins 3 = .ok (.iconst 0, 1) := by decide +kernel
theorem dX12_begins_4 : decode cX12_begins 4 = .ok (.istore 5, 2) := by decide +kernel
theorem dX12_begins_6 : decode cX12_begins 6 = .ok (.iload 5, 2) := by decide +kernel
theorem dX12_begins_8 : decode cX12_begins 8 = .ok (.iload_n 3, 1) := by decide +kernel
theorem dX12_begins_9 : decode cX12_begins 9 = .ok (.if_icmp .ge 32, 3) := by decide +kernel
theorem dX12_begins_12 : decode cX12_begins 12 = .ok (.iload 4, 2) := by decide +kernel
theorem dX12_begins_14 : decode cX12_begins 14 = .ok (.aload_n 0, 1) := by decide +kernel
theorem dX12_begins_15 : decode cX12_begins 15 = .ok (.aload_n 1, 1) := by decide +kernel
theorem dX12_begins_16 : decode cX12_begins 16 = .ok (.bipush 33, 2) := by decide +kernel
theorem dX12_begins_18 : decode cX12_begins 18 = .ok (.iload_n 2, 1) := by decide +kernel
theorem dX12_begins_19 : decode cX12_begins 19 = .ok (.imul, 1) := by decide +kernel
theorem dX12_begins_20 : decode cX12_begins 20 = .ok (.iconst 1, 1) := by decide +kernel
theorem dX12_begins_21 : decode cX12_begins 21 = .ok (.iadd, 1) := by decide +kernel
theorem dX12_begins_22 : decode cX12_begins 22 = .ok (.iload 5, 2) := by decide +kernel
theorem dX12_begins_24 : decode cX12_begins 24 = .ok (.iadd, 1) := by decide +kernel
theorem dX12_begins_25 : decode cX12_begins 25 = .ok (.iaload, 1) := by decide +kernel
theorem dX12_begins_26 : decode cX12_begins 26 = .ok (.invokestatic 191, 3) := by decide +kernel
theorem dX12_begins_29 : decode cX12_begins 29 = .ok (.invokevirtual 194, 3) := by decide +kernel
theorem dX12_begins_32 : decode cX12_begins 32 = .ok (.iadd, 1) := by decide +kernel
theorem dX12_begins_33 : decode cX12_begins 33 = .ok (.istore 4, 2) := by decide +kernel
theorem dX12_begins_35 : decode cX12_begins 35 = .ok (.iinc 5 1, 3) := by decide +kernel
theorem dX12_begins_38 : decode cX12_begins 38 = .ok (.goto (-32), 3) := by decide +kernel
theorem dX12_begins_41 : decode cX12_begins 41 = .ok (.iload 4, 2) := by decide +kernel
theorem dX12_begins_43 : decode cX12_begins 43 = .ok (.ireturn, 1) := by decide +kernel
set_option maxRecDepth 20000 in
set_option maxHeartbeats 4000000 in
theorem L_X12_begins_6 (K : xK) (L : xL) : ∀ (n : Nat) (a0 : Nat) (a1 : Nat) (a2 : Int32) (a3 : Int32) (a4 : Int32) (a5 : Int32) (h : xH), Sim K L cX12_begins RX12 "begins" 6 1 (fun q : Int32 × Int32 × xH => q.2.2) (fun q pc' ls' st' h' => pc' = 41 ∧ ls' = [(0, .ref a0), (1, .ref a1), (2, .int a2), (3, .int a3), (4, .int q.1), (5, .int q.2.1)] ∧ st' = [] ∧ h' = q.2.2) 6 [(0, .ref a0), (1, .ref a1), (2, .int a2), (3, .int a3), (4, .int a4), (5, .int a5)] [] h (f_X12_begins_L6 n a0 a1 a2 a3 a4 a5 h) := by
  intro n
  induction n with
  | zero =>
    intro a0 a1 a2 a3 a4 a5 h
    exact Sim.none
  | succ n ih =>
    intro a0 a1 a2 a3 a4 a5 h
    unfold f_X12_begins_L6
    refine S_iload (pc := 6) 5 rfl dX12_begins_6 ?_
    refine S_iload_n (pc := 8) 3 rfl dX12_begins_8 rfl ?_
    refine S_icmp_ge (pc := 9) (tgt := 41) dX12_begins_9 (by decide) ?_ ?_
    · refine S_sub [0, 1, 2, 3, 4, 5] rfl ?_
      exact Sim.fin ⟨rfl, rfl, rfl, rfl⟩ rfl
    · refine S_iload (pc := 12) 4 rfl dX12_begins_12 ?_
      refine S_aload_n (pc := 14) 0 rfl dX12_begins_14 rfl ?_
      refine S_aload_n (pc := 15) 1 rfl dX12_begins_15 rfl ?_
      refine S_bipush (pc := 16) dX12_begins_16 bi_33 ?_
      refine S_iload_n (pc := 18) 2 rfl dX12_begins_18 rfl ?_
      refine S_imul (pc := 19) dX12_begins_19 ?_
      refine S_iconst (pc := 20) dX12_begins_20 ic_1 ?_
      refine S_iadd (pc := 21) dX12_begins_21 ?_
      refine S_iload (pc := 22) 5 rfl dX12_begins_22 ?_
      refine S_iadd (pc := 24) dX12_begins_24 ?_
      refine S_aI (pc := 25) dX12_begins_25 (fun v1 => ?_)
      refine S_call_i (pc := 26) (rest := [.ref a0, .int a4]) (fun q hq => R_S (av := [.int v1]) (M_X12_sortOf _ v1 h hq) wd_1072 wd_1070 wd_1071 wd_50 hd_X12_sortOf ⟨Nat.le_of_ble_eq_true rfl, Nat.le_of_ble_eq_true rfl⟩ rfl (Nat.le_of_ble_eq_true rfl) dX12_begins_26) (fun _ h => List.mem_cons_of_mem _ (h)) (fun q2 => ?_)
      refine S_call_i (pc := 29) (rest := [.int a4]) (fun q hq => (x_if hq).elim (fun z => R_V (av := [.int q2.1]) (q := (RX12, TX12, 28)) (M_X12_widthOf _ a0 q2.1 q2.2 z.2) z.1 rfl wd_1080 wd_1077 wd_1079 wd_50 wd_31 ⟨rfl, hd_X12_widthOf⟩ ⟨Nat.le_of_ble_eq_true rfl, Nat.le_of_ble_eq_true rfl⟩ rfl (Nat.le_of_ble_eq_true rfl) dX12_begins_29) (fun hq => (by cases hq))) (fun _ h => List.mem_cons_of_mem _ (List.mem_cons_of_mem _ (h))) (fun q3 => ?_)
      refine S_iadd (pc := 32) dX12_begins_32 ?_
      refine S_istore (pc := 33) dX12_begins_33 (Nat.le_of_ble_eq_true rfl) rfl ?_
      refine S_iinc (pc := 35) (v := a5 + (1 : Int32)) 5 rfl dX12_begins_35 (x_inc ic_1) (Nat.le_of_ble_eq_true rfl) rfl ?_
      refine S_goto (pc := 38) (tgt := 6) dX12_begins_38 (by decide) ?_
      refine S_sub [2, 3, 4, 5, 1, 0] rfl ?_
      exact ih a0 a1 a2 a3 (a4 + q3.1) (a5 + (1 : Int32)) q3.2
set_option maxRecDepth 20000 in
set_option maxHeartbeats 4000000 in
theorem W_X12_begins (K : xK) (L : xL) (a0 : Nat) (a1 : Nat) (a2 : Int32) (a3 : Int32) (h : xH) : Sim K L cX12_begins RX12 "begins" 6 1 (fun q : Int32 × xH => q.2) (xRi cX12_begins) 0 [(0, .ref a0), (1, .ref a1), (2, .int a2), (3, .int a3)] [] h (f_X12_begins a0 a1 a2 a3 h) := by
  unfold f_X12_begins
  refine S_iconst (pc := 0) dX12_begins_0 ic_0 ?_
  refine S_istore (pc := 1) dX12_begins_1 (Nat.le_of_ble_eq_true rfl) rfl ?_
  refine S_iconst (pc := 3) dX12_begins_3 ic_0 ?_
  refine S_istore (pc := 4) dX12_begins_4 (Nat.le_of_ble_eq_true rfl) rfl ?_
  refine S_sub [2, 3, 4, 5, 1, 0] rfl ?_
  refine Sim.bind (hs := fun q4 : Int32 × Int32 × xH => q4.2.2) (px := 41) (lsx := fun q4 => [(0, .ref a0), (1, .ref a1), (2, .int a2), (3, .int a3), (4, .int q4.1), (5, .int q4.2.1)]) (L_X12_begins_6 K L xN a0 a1 a2 a3 (0 : Int32) (0 : Int32) h) (fun q4 => ?_)
  refine S_iload (pc := 41) 4 rfl dX12_begins_41 ?_
  exact Sim.fin ⟨dX12_begins_43, rfl, rfl⟩ rfl
theorem M_X12_begins (l : Launch) (a0 : Nat) (a1 : Nat) (a2 : Int32) (a3 : Int32) (h : xH) {q : Int32 × xH} (hq : f_X12_begins a0 a1 a2 a3 h = some q) : xM l yX12_begins cX12_begins 6 (some .int) 1 [.ref a0, .ref a1, .int a2, .int a3] h (some (.int q.1)) q.2 := xM_i (by decide +kernel) (Nat.le_of_ble_eq_true rfl) (fun K L => W_X12_begins K L a0 a1 a2 a3 h) hq
theorem dX12_bits_0 : decode cX12_bits 0 = .ok (.iload_n 1, 1) := by decide +kernel
theorem dX12_bits_1 : decode cX12_bits 1 = .ok (.invokestatic 130, 3) := by decide +kernel
theorem dX12_bits_4 : decode cX12_bits 4 = .ok (.ifCond .eq 11, 3) := by decide +kernel
theorem dX12_bits_7 : decode cX12_bits 7 = .ok (.aload_n 0, 1) := by decide +kernel
theorem dX12_bits_8 : decode cX12_bits 8 = .ok (.iload_n 1, 1) := by decide +kernel
theorem dX12_bits_9 : decode cX12_bits 9 = .ok (.invokevirtual 167, 3) := by decide +kernel
theorem dX12_bits_12 : decode cX12_bits 12 = .ok (.goto 5, 3) := by decide +kernel
theorem dX12_bits_15 : decode cX12_bits 15 = .ok (.ldc 73, 2) := by decide +kernel
theorem dX12_bits_17 : decode cX12_bits 17 = .ok (.ireturn, 1) := by decide +kernel
set_option maxRecDepth 20000 in
set_option maxHeartbeats 4000000 in
theorem W_X12_bits (K : xK) (L : xL) (a0 : Nat) (a1 : Int32) (h : xH) : Sim K L cX12_bits RX12 "bits" 2 2 (fun q : Int32 × xH => q.2) (xRi cX12_bits) 0 [(0, .ref a0), (1, .int a1)] [] h (f_X12_bits a0 a1 h) := by
  unfold f_X12_bits
  refine S_iload_n (pc := 0) 1 rfl dX12_bits_0 rfl ?_
  refine S_call_i (pc := 1) (rest := []) (fun q hq => R_S (av := [.int a1]) (M_X12_isVector _ a1 h hq) wd_947 wd_945 wd_946 wd_50 hd_X12_isVector ⟨Nat.le_of_ble_eq_true rfl, Nat.le_of_ble_eq_true rfl⟩ rfl (Nat.le_of_ble_eq_true rfl) dX12_bits_1) (fun _ h => absurd h List.not_mem_nil) (fun q1 => ?_)
  refine S_if_eq (pc := 4) (tgt := 15) dX12_bits_4 (by decide) ?_ ?_
  · refine S_ldc (pc := 15) wd_903 dX12_bits_15 ?_
    exact Sim.fin ⟨dX12_bits_17, rfl, rfl⟩ rfl
  · refine S_aload_n (pc := 7) 0 rfl dX12_bits_7 rfl ?_
    refine S_iload_n (pc := 8) 1 rfl dX12_bits_8 rfl ?_
    refine S_call_i (pc := 9) (rest := []) (fun q hq => (x_if hq).elim (fun z => R_V (av := [.int a1]) (q := (RX12, TX12, 28)) (M_X12_bitsOf _ a0 a1 q1.2 z.2) z.1 rfl wd_1012 wd_1009 wd_1011 wd_50 wd_28 ⟨rfl, hd_X12_bitsOf⟩ ⟨Nat.le_of_ble_eq_true rfl, Nat.le_of_ble_eq_true rfl⟩ rfl (Nat.le_of_ble_eq_true rfl) dX12_bits_9) (fun hq => (by cases hq))) (fun _ h => absurd h List.not_mem_nil) (fun q2 => ?_)
    refine S_goto (pc := 12) (tgt := 17) dX12_bits_12 (by decide) ?_
    exact Sim.fin ⟨dX12_bits_17, rfl, rfl⟩ rfl
theorem M_X12_bits (l : Launch) (a0 : Nat) (a1 : Int32) (h : xH) {q : Int32 × xH} (hq : f_X12_bits a0 a1 h = some q) : xM l yX12_bits cX12_bits 2 (some .int) 2 [.ref a0, .int a1] h (some (.int q.1)) q.2 := xM_i (by decide +kernel) (Nat.le_of_ble_eq_true rfl) (fun K L => W_X12_bits K L a0 a1 h) hq
theorem dX12_blocks_0 : decode cX12_blocks 0 = .ok (.aload_n 0, 1) := by decide +kernel
theorem dX12_blocks_1 : decode cX12_blocks 1 = .ok (.bipush 33, 2) := by decide +kernel
theorem dX12_blocks_3 : decode cX12_blocks 3 = .ok (.iload_n 1, 1) := by decide +kernel
theorem dX12_blocks_4 : decode cX12_blocks 4 = .ok (.imul, 1) := by decide +kernel
theorem dX12_blocks_5 : decode cX12_blocks 5 = .ok (.iaload, 1) := by decide +kernel
theorem dX12_blocks_6 : decode cX12_blocks 6 = .ok (.bipush 15, 2) := by decide +kernel
theorem dX12_blocks_8 : decode cX12_blocks 8 = .ok (.iadd, 1) := by decide +kernel
theorem dX12_blocks_9 : decode cX12_blocks 9 = .ok (.iconst 1, 1) := by decide +kernel
theorem dX12_blocks_10 : decode cX12_blocks 10 = .ok (.isub, 1) := by decide +kernel
theorem dX12_blocks_11 : decode cX12_blocks 11 = .ok (.bipush 15, 2) := by decide +kernel
theorem dX12_blocks_13 : decode cX12_blocks 13 = .ok (.idiv, 1) := by decide +kernel
theorem dX12_blocks_14 : decode cX12_blocks 14 = .ok (.ireturn, 1) := by decide +kernel
set_option maxRecDepth 20000 in
set_option maxHeartbeats 4000000 in
theorem W_X12_blocks (K : xK) (L : xL) (a0 : Nat) (a1 : Int32) (h : xH) : Sim K L cX12_blocks RX12 "blocks" 2 0 (fun q : Int32 × xH => q.2) (xRi cX12_blocks) 0 [(0, .ref a0), (1, .int a1)] [] h (f_X12_blocks a0 a1 h) := by
  unfold f_X12_blocks
  refine S_aload_n (pc := 0) 0 rfl dX12_blocks_0 rfl ?_
  refine S_bipush (pc := 1) dX12_blocks_1 bi_33 ?_
  refine S_iload_n (pc := 3) 1 rfl dX12_blocks_3 rfl ?_
  refine S_imul (pc := 4) dX12_blocks_4 ?_
  refine S_aI (pc := 5) dX12_blocks_5 (fun v1 => ?_)
  refine S_bipush (pc := 6) dX12_blocks_6 bi_15 ?_
  refine S_iadd (pc := 8) dX12_blocks_8 ?_
  refine S_iconst (pc := 9) dX12_blocks_9 ic_1 ?_
  refine S_isub (pc := 10) dX12_blocks_10 ?_
  refine S_bipush (pc := 11) dX12_blocks_11 bi_15 ?_
  refine S_idiv (pc := 13) (by decide) dX12_blocks_13 ?_
  exact Sim.fin ⟨dX12_blocks_14, rfl, rfl⟩ rfl
theorem M_X12_blocks (l : Launch) (a0 : Nat) (a1 : Int32) (h : xH) {q : Int32 × xH} (hq : f_X12_blocks a0 a1 h = some q) : xM l yX12_blocks cX12_blocks 2 (some .int) 0 [.ref a0, .int a1] h (some (.int q.1)) q.2 := xM_i (by decide +kernel) (Nat.le_of_ble_eq_true rfl) (fun K L => W_X12_blocks K L a0 a1 h) hq
theorem dX12_offsetOf_0 : decode cX12_offsetOf 0 = .ok (.iload_n 1, 1) := by decide +kernel
theorem dX12_offsetOf_1 : decode cX12_offsetOf 1 = .ok (.invokestatic 191, 3) := by decide +kernel
theorem dX12_offsetOf_4 : decode cX12_offsetOf 4 = .ok (.istore_n 2, 1) := by decide +kernel
theorem dX12_offsetOf_5 : decode cX12_offsetOf 5 = .ok (.iconst 0, 1) := by decide +kernel
theorem dX12_offsetOf_6 : decode cX12_offsetOf 6 = .ok (.istore_n 3, 1) := by decide +kernel
theorem dX12_offsetOf_7 : decode cX12_offsetOf 7 = .ok (.bipush 14, 2) := by decide +kernel
theorem dX12_offsetOf_9 : decode cX12_offsetOf 9 = .ok (.istore 4, 2) := by decide +kernel
theorem dX12_offsetOf_11 : decode cX12_offsetOf 11 = .ok (.iload 4, 2) := by decide +kernel
theorem dX12_offsetOf_13 : decode cX12_offsetOf 13 = .ok (.ifCond .lt 37, 3) := by decide +kernel
theorem dX12_offsetOf_16 : decode cX12_offsetOf 16 = .ok (.iload_n 1, 1) := by decide +kernel
theorem dX12_offsetOf_17 : decode cX12_offsetOf 17 = .ok (.iload 4, 2) := by decide +kernel
theorem dX12_offsetOf_19 : decode cX12_offsetOf 19 = .ok (.ishr, 1) := by decide +kernel
theorem dX12_offsetOf_20 : decode cX12_offsetOf 20 = .ok (.iconst 1, 1) := by decide +kernel
theorem dX12_offsetOf_21 : decode cX12_offsetOf 21 = .ok (.iand, 1) := by decide +kernel
theorem dX12_offsetOf_22 : decode cX12_offsetOf 22 = .ok (.iconst 1, 1) := by decide +kernel
theorem dX12_offsetOf_23 : decode cX12_offsetOf 23 = .ok (.if_icmp .ne 21, 3) := by decide +kernel
theorem dX12_offsetOf_26 : decode cX12_offsetOf 26 = .ok (.iload_n 3, 1) := by decide +kernel
theorem dX12_offsetOf_27 : decode cX12_offsetOf 27 = .ok (.aload_n 0, 1) := by decide +kernel
theorem dX12_offsetOf_28 : decode cX12_offsetOf 28 = .ok (.getfield 53, 3) := by decide +kernel
theorem dX12_offsetOf_31 : decode cX12_offsetOf 31 = .ok (.bipush 16, 2) := by decide +kernel
theorem dX12_offsetOf_33 : decode cX12_offsetOf 33 = .ok (.iload 4, 2) := by decide +kernel
theorem dX12_offsetOf_35 : decode cX12_offsetOf 35 = .ok (.imul, 1) := by decide +kernel
theorem dX12_offsetOf_36 : decode cX12_offsetOf 36 = .ok (.iload_n 2, 1) := by decide +kernel
theorem dX12_offsetOf_37 : decode cX12_offsetOf 37 = .ok (.iadd, 1) := by decide +kernel
theorem dX12_offsetOf_38 : decode cX12_offsetOf 38 = .ok (.iaload, 1) := by decide +kernel
theorem dX12_offsetOf_39 : decode cX12_offsetOf 39 = .ok (.iadd, 1) := by decide +kernel
theorem dX12_offsetOf_40 : decode cX12_offsetOf 40 = .ok (.istore_n 3, 1) := by decide +kernel
theorem dX12_offsetOf_41 : decode cX12_offsetOf 41 = .ok (.iinc 2 (-1), 3) := by decide +kernel
theorem dX12_offsetOf_44 : decode cX12_offsetOf 44 = .ok (.iinc 4 (-1), 3) := by decide +kernel
theorem dX12_offsetOf_47 : decode cX12_offsetOf 47 = .ok (.goto (-36), 3) := by decide +kernel
theorem dX12_offsetOf_50 : decode cX12_offsetOf 50 = .ok (.iload_n 3, 1) := by decide +kernel
theorem dX12_offsetOf_51 : decode cX12_offsetOf 51 = .ok (.ireturn, 1) := by decide +kernel
set_option maxRecDepth 20000 in
set_option maxHeartbeats 4000000 in
theorem L_X12_offsetOf_11 (K : xK) (L : xL) : ∀ (n : Nat) (a0 : Nat) (a1 : Int32) (a2 : Int32) (a3 : Int32) (a4 : Int32) (h : xH), Sim K L cX12_offsetOf RX12 "offsetOf" 5 1 (fun q : Int32 × Int32 × Int32 × xH => q.2.2.2) (fun q pc' ls' st' h' => pc' = 50 ∧ ls' = [(0, .ref a0), (1, .int a1), (2, .int q.1), (3, .int q.2.1), (4, .int q.2.2.1)] ∧ st' = [] ∧ h' = q.2.2.2) 11 [(0, .ref a0), (1, .int a1), (2, .int a2), (3, .int a3), (4, .int a4)] [] h (f_X12_offsetOf_L11 n a0 a1 a2 a3 a4 h) := by
  intro n
  induction n with
  | zero =>
    intro a0 a1 a2 a3 a4 h
    exact Sim.none
  | succ n ih =>
    intro a0 a1 a2 a3 a4 h
    unfold f_X12_offsetOf_L11
    refine S_iload (pc := 11) 4 rfl dX12_offsetOf_11 ?_
    refine S_if_lt (pc := 13) (tgt := 50) dX12_offsetOf_13 (by decide) ?_ ?_
    · refine S_sub [0, 1, 2, 3, 4] rfl ?_
      exact Sim.fin ⟨rfl, rfl, rfl, rfl⟩ rfl
    · refine S_iload_n (pc := 16) 1 rfl dX12_offsetOf_16 rfl ?_
      refine S_iload (pc := 17) 4 rfl dX12_offsetOf_17 ?_
      refine S_ishr (pc := 19) dX12_offsetOf_19 ?_
      refine S_iconst (pc := 20) dX12_offsetOf_20 ic_1 ?_
      refine S_iand (pc := 21) dX12_offsetOf_21 ?_
      refine S_iconst (pc := 22) dX12_offsetOf_22 ic_1 ?_
      refine S_icmp_ne (pc := 23) (tgt := 44) dX12_offsetOf_23 (by decide) ?_ ?_
      · refine S_iload_n (pc := 26) 3 rfl dX12_offsetOf_26 rfl ?_
        refine S_aload_n (pc := 27) 0 rfl dX12_offsetOf_27 rfl ?_
        refine S_getR (pc := 28) fd_X12_chosen wd_833 dX12_offsetOf_28 (fun v2 => ?_)
        refine S_bipush (pc := 31) dX12_offsetOf_31 bi_16 ?_
        refine S_iload (pc := 33) 4 rfl dX12_offsetOf_33 ?_
        refine S_imul (pc := 35) dX12_offsetOf_35 ?_
        refine S_iload_n (pc := 36) 2 rfl dX12_offsetOf_36 rfl ?_
        refine S_iadd (pc := 37) dX12_offsetOf_37 ?_
        refine S_aI (pc := 38) dX12_offsetOf_38 (fun v3 => ?_)
        refine S_iadd (pc := 39) dX12_offsetOf_39 ?_
        refine S_istore_n (pc := 40) dX12_offsetOf_40 rfl (Nat.le_of_ble_eq_true rfl) rfl ?_
        refine S_iinc (pc := 41) (v := a2 + (-1 : Int32)) 3 rfl dX12_offsetOf_41 (x_inc ic_m1) (Nat.le_of_ble_eq_true rfl) rfl ?_
        refine S_iinc (pc := 44) (v := a4 + (-1 : Int32)) 4 rfl dX12_offsetOf_44 (x_inc ic_m1) (Nat.le_of_ble_eq_true rfl) rfl ?_
        refine S_goto (pc := 47) (tgt := 11) dX12_offsetOf_47 (by decide) ?_
        refine S_sub [3, 4, 1, 2, 0] rfl ?_
        exact ih a0 a1 (a2 + (-1 : Int32)) (a3 + v3) (a4 + (-1 : Int32)) h
      · refine S_iinc (pc := 44) (v := a4 + (-1 : Int32)) 4 rfl dX12_offsetOf_44 (x_inc ic_m1) (Nat.le_of_ble_eq_true rfl) rfl ?_
        refine S_goto (pc := 47) (tgt := 11) dX12_offsetOf_47 (by decide) ?_
        refine S_sub [1, 2, 3, 4, 0] rfl ?_
        exact ih a0 a1 a2 a3 (a4 + (-1 : Int32)) h
set_option maxRecDepth 20000 in
set_option maxHeartbeats 4000000 in
theorem W_X12_offsetOf (K : xK) (L : xL) (a0 : Nat) (a1 : Int32) (h : xH) : Sim K L cX12_offsetOf RX12 "offsetOf" 5 1 (fun q : Int32 × xH => q.2) (xRi cX12_offsetOf) 0 [(0, .ref a0), (1, .int a1)] [] h (f_X12_offsetOf a0 a1 h) := by
  unfold f_X12_offsetOf
  refine S_iload_n (pc := 0) 1 rfl dX12_offsetOf_0 rfl ?_
  refine S_call_i (pc := 1) (rest := []) (fun q hq => R_S (av := [.int a1]) (M_X12_sortOf _ a1 h hq) wd_1072 wd_1070 wd_1071 wd_50 hd_X12_sortOf ⟨Nat.le_of_ble_eq_true rfl, Nat.le_of_ble_eq_true rfl⟩ rfl (Nat.le_of_ble_eq_true rfl) dX12_offsetOf_1) (fun _ h => absurd h List.not_mem_nil) (fun q1 => ?_)
  refine S_istore_n (pc := 4) dX12_offsetOf_4 rfl (Nat.le_of_ble_eq_true rfl) rfl ?_
  refine S_iconst (pc := 5) dX12_offsetOf_5 ic_0 ?_
  refine S_istore_n (pc := 6) dX12_offsetOf_6 rfl (Nat.le_of_ble_eq_true rfl) rfl ?_
  refine S_bipush (pc := 7) dX12_offsetOf_7 bi_14 ?_
  refine S_istore (pc := 9) dX12_offsetOf_9 (Nat.le_of_ble_eq_true rfl) rfl ?_
  refine S_sub [3, 4, 2, 1, 0] rfl ?_
  refine Sim.bind (hs := fun q4 : Int32 × Int32 × Int32 × xH => q4.2.2.2) (px := 50) (lsx := fun q4 => [(0, .ref a0), (1, .int a1), (2, .int q4.1), (3, .int q4.2.1), (4, .int q4.2.2.1)]) (L_X12_offsetOf_11 K L xN a0 a1 q1.1 (0 : Int32) (14 : Int32) q1.2) (fun q4 => ?_)
  refine S_iload_n (pc := 50) 3 rfl dX12_offsetOf_50 rfl ?_
  exact Sim.fin ⟨dX12_offsetOf_51, rfl, rfl⟩ rfl
theorem M_X12_offsetOf (l : Launch) (a0 : Nat) (a1 : Int32) (h : xH) {q : Int32 × xH} (hq : f_X12_offsetOf a0 a1 h = some q) : xM l yX12_offsetOf cX12_offsetOf 5 (some .int) 1 [.ref a0, .int a1] h (some (.int q.1)) q.2 := xM_i (by decide +kernel) (Nat.le_of_ble_eq_true rfl) (fun K L => W_X12_offsetOf K L a0 a1 h) hq
theorem dX12_block_0 : decode cX12_block 0 = .ok (.iload_n 1, 1) := by decide +kernel
theorem dX12_block_1 : decode cX12_block 1 = .ok (.invokestatic 130, 3) := by decide +kernel
theorem dX12_block_4 : decode cX12_block 4 = .ok (.ifCond .eq 21, 3) := by decide +kernel
theorem dX12_block_7 : decode cX12_block 7 = .ok (.iload_n 2, 1) := by decide +kernel
theorem dX12_block_8 : decode cX12_block 8 = .ok (.iconst 0, 1) := by decide +kernel
theorem dX12_block_9 : decode cX12_block 9 = .ok (.aload_n 0, 1) := by decide +kernel
theorem dX12_block_10 : decode cX12_block 10 = .ok (.getfield 25, 3) := by decide +kernel
theorem dX12_block_13 : decode cX12_block 13 = .ok (.iload_n 1, 1) := by decide +kernel
theorem dX12_block_14 : decode cX12_block 14 = .ok (.invokestatic 197, 3) := by decide +kernel
theorem dX12_block_17 : decode cX12_block 17 = .ok (.iconst 1, 1) := by decide +kernel
theorem dX12_block_18 : decode cX12_block 18 = .ok (.isub, 1) := by decide +kernel
theorem dX12_block_19 : decode cX12_block 19 = .ok (.invokestatic 65, 3) := by decide +kernel
theorem dX12_block_22 : decode cX12_block 22 = .ok (.ifCond .ne 6, 3) := by decide +kernel
theorem dX12_block_25 : decode cX12_block 25 = .ok (.ldc 73, 2) := by decide +kernel
theorem dX12_block_27 : decode cX12_block 27 = .ok (.ireturn, 1) := by decide +kernel
theorem dX12_block_28 : decode cX12_block 28 = .ok (.aload_n 0, 1) := by decide +kernel
theorem dX12_block_29 : decode cX12_block 29 = .ok (.getfield 25, 3) := by decide +kernel
theorem dX12_block_32 : decode cX12_block 32 = .ok (.bipush 33, 2) := by decide +kernel
theorem dX12_block_34 : decode cX12_block 34 = .ok (.iload_n 1, 1) := by decide +kernel
theorem dX12_block_35 : decode cX12_block 35 = .ok (.imul, 1) := by decide +kernel
theorem dX12_block_36 : decode cX12_block 36 = .ok (.iconst 1, 1) := by decide +kernel
theorem dX12_block_37 : decode cX12_block 37 = .ok (.iadd, 1) := by decide +kernel
theorem dX12_block_38 : decode cX12_block 38 = .ok (.iload_n 2, 1) := by decide +kernel
theorem dX12_block_39 : decode cX12_block 39 = .ok (.iadd, 1) := by decide +kernel
theorem dX12_block_40 : decode cX12_block 40 = .ok (.iaload, 1) := by decide +kernel
theorem dX12_block_41 : decode cX12_block 41 = .ok (.istore 4, 2) := by decide +kernel
theorem dX12_block_43 : decode cX12_block 43 = .ok (.iload_n 3, 1) := by decide +kernel
theorem dX12_block_44 : decode cX12_block 44 = .ok (.tableswitch 73 0 4 #[36, 42, 49, 59, 62], 36) := by decide +kernel
theorem dX12_block_80 : decode cX12_block 80 = .ok (.iload 4, 2) := by decide +kernel
theorem dX12_block_82 : decode cX12_block 82 = .ok (.invokestatic 191, 3) := by decide +kernel
theorem dX12_block_85 : decode cX12_block 85 = .ok (.ireturn, 1) := by decide +kernel
theorem dX12_block_86 : decode cX12_block 86 = .ok (.aload_n 0, 1) := by decide +kernel
theorem dX12_block_87 : decode cX12_block 87 = .ok (.iload 4, 2) := by decide +kernel
theorem dX12_block_89 : decode cX12_block 89 = .ok (.invokevirtual 201, 3) := by decide +kernel
theorem dX12_block_92 : decode cX12_block 92 = .ok (.ireturn, 1) := by decide +kernel
theorem dX12_block_93 : decode cX12_block 93 = .ok (.aload_n 0, 1) := by decide +kernel
theorem dX12_block_94 : decode cX12_block 94 = .ok (.iload 4, 2) := by decide +kernel
theorem dX12_block_96 : decode cX12_block 96 = .ok (.invokestatic 191, 3) := by decide +kernel
theorem dX12_block_99 : decode cX12_block 99 = .ok (.invokevirtual 194, 3) := by decide +kernel
theorem dX12_block_102 : decode cX12_block 102 = .ok (.ireturn, 1) := by decide +kernel
theorem dX12_block_103 : decode cX12_block 103 = .ok (.iload 4, 2) := by decide +kernel
theorem dX12_block_105 : decode cX12_block 105 = .ok (.ireturn, 1) := by decide +kernel
theorem dX12_block_106 : decode cX12_block 106 = .ok (.aload_n 0, 1) := by decide +kernel
theorem dX12_block_107 : decode cX12_block 107 = .ok (.aload_n 0, 1) := by decide +kernel
theorem dX12_block_108 : decode cX12_block 108 = .ok (.getfield 25, 3) := by decide +kernel
theorem dX12_block_111 : decode cX12_block 111 = .ok (.iload_n 1, 1) := by decide +kernel
theorem dX12_block_112 : decode cX12_block 112 = .ok (.iload_n 2, 1) := by decide +kernel
theorem dX12_block_113 : decode cX12_block 113 = .ok (.invokevirtual 204, 3) := by decide +kernel
theorem dX12_block_116 : decode cX12_block 116 = .ok (.ireturn, 1) := by decide +kernel
theorem dX12_block_117 : decode cX12_block 117 = .ok (.ldc 73, 2) := by decide +kernel
theorem dX12_block_119 : decode cX12_block 119 = .ok (.ireturn, 1) := by decide +kernel
set_option maxRecDepth 20000 in
set_option maxHeartbeats 4000000 in
theorem W_X12_block (K : xK) (L : xL) (a0 : Nat) (a1 : Int32) (a2 : Int32) (a3 : Int32) (h : xH) : Sim K L cX12_block RX12 "block" 5 2 (fun q : Int32 × xH => q.2) (xRi cX12_block) 0 [(0, .ref a0), (1, .int a1), (2, .int a2), (3, .int a3)] [] h (f_X12_block a0 a1 a2 a3 h) := by
  unfold f_X12_block
  refine S_iload_n (pc := 0) 1 rfl dX12_block_0 rfl ?_
  refine S_call_i (pc := 1) (rest := []) (fun q hq => R_S (av := [.int a1]) (M_X12_isVector _ a1 h hq) wd_947 wd_945 wd_946 wd_50 hd_X12_isVector ⟨Nat.le_of_ble_eq_true rfl, Nat.le_of_ble_eq_true rfl⟩ rfl (Nat.le_of_ble_eq_true rfl) dX12_block_1) (fun _ h => absurd h List.not_mem_nil) (fun q1 => ?_)
  refine S_if_eq (pc := 4) (tgt := 25) dX12_block_4 (by decide) ?_ ?_
  · refine S_ldc (pc := 25) wd_903 dX12_block_25 ?_
    exact Sim.fin ⟨dX12_block_27, rfl, rfl⟩ rfl
  · refine S_iload_n (pc := 7) 2 rfl dX12_block_7 rfl ?_
    refine S_iconst (pc := 8) dX12_block_8 ic_0 ?_
    refine S_aload_n (pc := 9) 0 rfl dX12_block_9 rfl ?_
    refine S_getR (pc := 10) fd_X12_now wd_821 dX12_block_10 (fun v2 => ?_)
    refine S_iload_n (pc := 13) 1 rfl dX12_block_13 rfl ?_
    refine S_call_i (pc := 14) (rest := [.int (0 : Int32), .int a2]) (fun q hq => R_S (av := [.ref v2, .int a1]) (M_X12_blocks _ v2 a1 q1.2 hq) wd_1069 wd_1067 wd_1068 wd_50 hd_X12_blocks ⟨Nat.le_of_ble_eq_true rfl, Nat.le_of_ble_eq_true rfl⟩ rfl (Nat.le_of_ble_eq_true rfl) dX12_block_14) (fun _ h => List.mem_cons_of_mem _ (List.mem_cons_of_mem _ (h))) (fun q3 => ?_)
    refine S_iconst (pc := 17) dX12_block_17 ic_1 ?_
    refine S_isub (pc := 18) dX12_block_18 ?_
    refine S_call_i (pc := 19) (rest := []) (fun q hq => R_S (av := [.int a2, .int (0 : Int32), .int (q3.1 - (1 : Int32))]) (M_X12_in _ a2 (0 : Int32) (q3.1 - (1 : Int32)) q3.2 hq) wd_902 wd_900 wd_901 wd_50 hd_X12_in ⟨Nat.le_of_ble_eq_true rfl, Nat.le_of_ble_eq_true rfl⟩ rfl (Nat.le_of_ble_eq_true rfl) dX12_block_19) (fun _ h => absurd h List.not_mem_nil) (fun q4 => ?_)
    refine S_if_ne (pc := 22) (tgt := 28) dX12_block_22 (by decide) ?_ ?_
    · refine S_ldc (pc := 25) wd_903 dX12_block_25 ?_
      exact Sim.fin ⟨dX12_block_27, rfl, rfl⟩ rfl
    · refine S_aload_n (pc := 28) 0 rfl dX12_block_28 rfl ?_
      refine S_getR (pc := 29) fd_X12_now wd_821 dX12_block_29 (fun v5 => ?_)
      refine S_bipush (pc := 32) dX12_block_32 bi_33 ?_
      refine S_iload_n (pc := 34) 1 rfl dX12_block_34 rfl ?_
      refine S_imul (pc := 35) dX12_block_35 ?_
      refine S_iconst (pc := 36) dX12_block_36 ic_1 ?_
      refine S_iadd (pc := 37) dX12_block_37 ?_
      refine S_iload_n (pc := 38) 2 rfl dX12_block_38 rfl ?_
      refine S_iadd (pc := 39) dX12_block_39 ?_
      refine S_aI (pc := 40) dX12_block_40 (fun v6 => ?_)
      refine S_istore (pc := 41) dX12_block_41 (Nat.le_of_ble_eq_true rfl) rfl ?_
      refine S_iload_n (pc := 43) 4 rfl dX12_block_43 rfl ?_
      refine S_tabIn (pc := 44) (v := 0) (tgt := 80) dX12_block_44 (by decide) (by decide) rfl (by decide) ?_ (fun hs8 => ?_)
      · refine S_iload (pc := 80) 0 rfl dX12_block_80 ?_
        refine S_call_i (pc := 82) (rest := []) (fun q hq => R_S (av := [.int v6]) (M_X12_sortOf _ v6 q4.2 hq) wd_1072 wd_1070 wd_1071 wd_50 hd_X12_sortOf ⟨Nat.le_of_ble_eq_true rfl, Nat.le_of_ble_eq_true rfl⟩ rfl (Nat.le_of_ble_eq_true rfl) dX12_block_82) (fun _ h => absurd h List.not_mem_nil) (fun q7 => ?_)
        exact Sim.fin ⟨dX12_block_85, rfl, rfl⟩ rfl
      refine S_tabIn (pc := 44) (v := 1) (tgt := 86) dX12_block_44 (by decide) (by decide) rfl (by decide) ?_ (fun hs10 => ?_)
      · refine S_aload_n (pc := 86) 1 rfl dX12_block_86 rfl ?_
        refine S_iload (pc := 87) 0 rfl dX12_block_87 ?_
        refine S_call_i (pc := 89) (rest := []) (fun q hq => (x_if hq).elim (fun z => R_V (av := [.int v6]) (q := (RX12, TX12, 28)) (M_X12_offsetOf _ a0 v6 q4.2 z.2) z.1 rfl wd_1076 wd_1073 wd_1075 wd_50 wd_30 ⟨rfl, hd_X12_offsetOf⟩ ⟨Nat.le_of_ble_eq_true rfl, Nat.le_of_ble_eq_true rfl⟩ rfl (Nat.le_of_ble_eq_true rfl) dX12_block_89) (fun hq => (by cases hq))) (fun _ h => absurd h List.not_mem_nil) (fun q9 => ?_)
        exact Sim.fin ⟨dX12_block_92, rfl, rfl⟩ rfl
      refine S_tabIn (pc := 44) (v := 2) (tgt := 93) dX12_block_44 (by decide) (by decide) rfl (by decide) ?_ (fun hs13 => ?_)
      · refine S_aload_n (pc := 93) 1 rfl dX12_block_93 rfl ?_
        refine S_iload (pc := 94) 0 rfl dX12_block_94 ?_
        refine S_call_i (pc := 96) (rest := [.ref a0]) (fun q hq => R_S (av := [.int v6]) (M_X12_sortOf _ v6 q4.2 hq) wd_1072 wd_1070 wd_1071 wd_50 hd_X12_sortOf ⟨Nat.le_of_ble_eq_true rfl, Nat.le_of_ble_eq_true rfl⟩ rfl (Nat.le_of_ble_eq_true rfl) dX12_block_96) (fun _ h => List.mem_cons_of_mem _ (h)) (fun q11 => ?_)
        refine S_call_i (pc := 99) (rest := []) (fun q hq => (x_if hq).elim (fun z => R_V (av := [.int q11.1]) (q := (RX12, TX12, 28)) (M_X12_widthOf _ a0 q11.1 q11.2 z.2) z.1 rfl wd_1080 wd_1077 wd_1079 wd_50 wd_31 ⟨rfl, hd_X12_widthOf⟩ ⟨Nat.le_of_ble_eq_true rfl, Nat.le_of_ble_eq_true rfl⟩ rfl (Nat.le_of_ble_eq_true rfl) dX12_block_99) (fun hq => (by cases hq))) (fun _ h => absurd h List.not_mem_nil) (fun q12 => ?_)
        exact Sim.fin ⟨dX12_block_102, rfl, rfl⟩ rfl
      refine S_tabIn (pc := 44) (v := 3) (tgt := 103) dX12_block_44 (by decide) (by decide) rfl (by decide) ?_ (fun hs14 => ?_)
      · refine S_iload (pc := 103) 0 rfl dX12_block_103 ?_
        exact Sim.fin ⟨dX12_block_105, rfl, rfl⟩ rfl
      refine S_tabIn (pc := 44) (v := 4) (tgt := 106) dX12_block_44 (by decide) (by decide) rfl (by decide) ?_ (fun hs17 => ?_)
      · refine S_aload_n (pc := 106) 1 rfl dX12_block_106 rfl ?_
        refine S_aload_n (pc := 107) 1 rfl dX12_block_107 rfl ?_
        refine S_getR (pc := 108) fd_X12_now wd_821 dX12_block_108 (fun v15 => ?_)
        refine S_iload_n (pc := 111) 2 rfl dX12_block_111 rfl ?_
        refine S_iload_n (pc := 112) 3 rfl dX12_block_112 rfl ?_
        refine S_call_i (pc := 113) (rest := []) (fun q hq => (x_if hq).elim (fun z => R_V (av := [.ref v15, .int a1, .int a2]) (q := (RX12, TX12, 28)) (M_X12_begins _ a0 v15 a1 a2 q4.2 z.2) z.1 rfl wd_1084 wd_1081 wd_1083 wd_50 wd_32 ⟨rfl, hd_X12_begins⟩ ⟨Nat.le_of_ble_eq_true rfl, Nat.le_of_ble_eq_true rfl⟩ rfl (Nat.le_of_ble_eq_true rfl) dX12_block_113) (fun hq => (by cases hq))) (fun _ h => absurd h List.not_mem_nil) (fun q16 => ?_)
        exact Sim.fin ⟨dX12_block_116, rfl, rfl⟩ rfl
      refine S_tabOut (pc := 44) (tgt := 117) dX12_block_44 (by have := lv_neT hs8 (show (0 : Int32).toInt = 0 from by decide); have := lv_neT hs10 (show (1 : Int32).toInt = 1 from by decide); have := lv_neT hs13 (show (2 : Int32).toInt = 2 from by decide); have := lv_neT hs14 (show (3 : Int32).toInt = 3 from by decide); have := lv_neT hs17 (show (4 : Int32).toInt = 4 from by decide); omega) (by decide) ?_
      refine S_ldc (pc := 117) wd_903 dX12_block_117 ?_
      exact Sim.fin ⟨dX12_block_119, rfl, rfl⟩ rfl
theorem M_X12_block (l : Launch) (a0 : Nat) (a1 : Int32) (a2 : Int32) (a3 : Int32) (h : xH) {q : Int32 × xH} (hq : f_X12_block a0 a1 a2 a3 h = some q) : xM l yX12_block cX12_block 5 (some .int) 2 [.ref a0, .int a1, .int a2, .int a3] h (some (.int q.1)) q.2 := xM_i (by decide +kernel) (Nat.le_of_ble_eq_true rfl) (fun K L => W_X12_block K L a0 a1 a2 a3 h) hq
theorem dX12_choose_0 : decode cX12_choose 0 = .ok (.iload_n 1, 1) := by decide +kernel
theorem dX12_choose_1 : decode cX12_choose 1 = .ok (.iconst 0, 1) := by decide +kernel
theorem dX12_choose_2 : decode cX12_choose 2 = .ok (.bipush 15, 2) := by decide +kernel
theorem dX12_choose_4 : decode cX12_choose 4 = .ok (.invokestatic 65, 3) := by decide +kernel
theorem dX12_choose_7 : decode cX12_choose 7 = .ok (.ifCond .eq 27, 3) := by decide +kernel
theorem dX12_choose_10 : decode cX12_choose 10 = .ok (.iload_n 2, 1) := by decide +kernel
theorem dX12_choose_11 : decode cX12_choose 11 = .ok (.iconst 0, 1) := by decide +kernel
theorem dX12_choose_12 : decode cX12_choose 12 = .ok (.bipush 15, 2) := by decide +kernel
theorem dX12_choose_14 : decode cX12_choose 14 = .ok (.invokestatic 65, 3) := by decide +kernel
theorem dX12_choose_17 : decode cX12_choose 17 = .ok (.ifCond .eq 17, 3) := by decide +kernel
theorem dX12_choose_20 : decode cX12_choose 20 = .ok (.aload_n 0, 1) := by decide +kernel
theorem dX12_choose_21 : decode cX12_choose 21 = .ok (.getfield 53, 3) := by decide +kernel
theorem dX12_choose_24 : decode cX12_choose 24 = .ok (.bipush 16, 2) := by decide +kernel
theorem dX12_choose_26 : decode cX12_choose 26 = .ok (.iload_n 1, 1) := by decide +kernel
theorem dX12_choose_27 : decode cX12_choose 27 = .ok (.imul, 1) := by decide +kernel
theorem dX12_choose_28 : decode cX12_choose 28 = .ok (.iload_n 2, 1) := by decide +kernel
theorem dX12_choose_29 : decode cX12_choose 29 = .ok (.iadd, 1) := by decide +kernel
theorem dX12_choose_30 : decode cX12_choose 30 = .ok (.iaload, 1) := by decide +kernel
theorem dX12_choose_31 : decode cX12_choose 31 = .ok (.goto 5, 3) := by decide +kernel
theorem dX12_choose_34 : decode cX12_choose 34 = .ok (.ldc 73, 2) := by decide +kernel
theorem dX12_choose_36 : decode cX12_choose 36 = .ok (.ireturn, 1) := by decide +kernel
set_option maxRecDepth 20000 in
set_option maxHeartbeats 4000000 in
theorem W_X12_choose (K : xK) (L : xL) (a0 : Nat) (a1 : Int32) (a2 : Int32) (h : xH) : Sim K L cX12_choose RX12 "choose" 3 1 (fun q : Int32 × xH => q.2) (xRi cX12_choose) 0 [(0, .ref a0), (1, .int a1), (2, .int a2)] [] h (f_X12_choose a0 a1 a2 h) := by
  unfold f_X12_choose
  refine S_iload_n (pc := 0) 1 rfl dX12_choose_0 rfl ?_
  refine S_iconst (pc := 1) dX12_choose_1 ic_0 ?_
  refine S_bipush (pc := 2) dX12_choose_2 bi_15 ?_
  refine S_call_i (pc := 4) (rest := []) (fun q hq => R_S (av := [.int a1, .int (0 : Int32), .int (15 : Int32)]) (M_X12_in _ a1 (0 : Int32) (15 : Int32) h hq) wd_902 wd_900 wd_901 wd_50 hd_X12_in ⟨Nat.le_of_ble_eq_true rfl, Nat.le_of_ble_eq_true rfl⟩ rfl (Nat.le_of_ble_eq_true rfl) dX12_choose_4) (fun _ h => absurd h List.not_mem_nil) (fun q1 => ?_)
  refine S_if_eq (pc := 7) (tgt := 34) dX12_choose_7 (by decide) ?_ ?_
  · refine S_ldc (pc := 34) wd_903 dX12_choose_34 ?_
    exact Sim.fin ⟨dX12_choose_36, rfl, rfl⟩ rfl
  · refine S_iload_n (pc := 10) 2 rfl dX12_choose_10 rfl ?_
    refine S_iconst (pc := 11) dX12_choose_11 ic_0 ?_
    refine S_bipush (pc := 12) dX12_choose_12 bi_15 ?_
    refine S_call_i (pc := 14) (rest := []) (fun q hq => R_S (av := [.int a2, .int (0 : Int32), .int (15 : Int32)]) (M_X12_in _ a2 (0 : Int32) (15 : Int32) q1.2 hq) wd_902 wd_900 wd_901 wd_50 hd_X12_in ⟨Nat.le_of_ble_eq_true rfl, Nat.le_of_ble_eq_true rfl⟩ rfl (Nat.le_of_ble_eq_true rfl) dX12_choose_14) (fun _ h => absurd h List.not_mem_nil) (fun q2 => ?_)
    refine S_if_eq (pc := 17) (tgt := 34) dX12_choose_17 (by decide) ?_ ?_
    · refine S_ldc (pc := 34) wd_903 dX12_choose_34 ?_
      exact Sim.fin ⟨dX12_choose_36, rfl, rfl⟩ rfl
    · refine S_aload_n (pc := 20) 0 rfl dX12_choose_20 rfl ?_
      refine S_getR (pc := 21) fd_X12_chosen wd_833 dX12_choose_21 (fun v3 => ?_)
      refine S_bipush (pc := 24) dX12_choose_24 bi_16 ?_
      refine S_iload_n (pc := 26) 1 rfl dX12_choose_26 rfl ?_
      refine S_imul (pc := 27) dX12_choose_27 ?_
      refine S_iload_n (pc := 28) 2 rfl dX12_choose_28 rfl ?_
      refine S_iadd (pc := 29) dX12_choose_29 ?_
      refine S_aI (pc := 30) dX12_choose_30 (fun v4 => ?_)
      refine S_goto (pc := 31) (tgt := 36) dX12_choose_31 (by decide) ?_
      exact Sim.fin ⟨dX12_choose_36, rfl, rfl⟩ rfl
theorem M_X12_choose (l : Launch) (a0 : Nat) (a1 : Int32) (a2 : Int32) (h : xH) {q : Int32 × xH} (hq : f_X12_choose a0 a1 a2 h = some q) : xM l yX12_choose cX12_choose 3 (some .int) 1 [.ref a0, .int a1, .int a2] h (some (.int q.1)) q.2 := xM_i (by decide +kernel) (Nat.le_of_ble_eq_true rfl) (fun K L => W_X12_choose K L a0 a1 a2 h) hq
theorem dX12_isMissing_0 : decode cX12_isMissing 0 = .ok (.aload_n 0, 1) := by decide +kernel
theorem dX12_isMissing_1 : decode cX12_isMissing 1 = .ok (.getfield 7, 3) := by decide +kernel
theorem dX12_isMissing_4 : decode cX12_isMissing 4 = .ok (.iload_n 1, 1) := by decide +kernel
theorem dX12_isMissing_5 : decode cX12_isMissing 5 = .ok (.iaload, 1) := by decide +kernel
theorem dX12_isMissing_6 : decode cX12_isMissing 6 = .ok (.ldc 59, 2) := by decide +kernel
theorem dX12_isMissing_8 : decode cX12_isMissing 8 = .ok (.if_icmp .ne 7, 3) := by decide +kernel
theorem dX12_isMissing_11 : decode cX12_isMissing 11 = .ok (.iconst 1, 1) := by decide +kernel
theorem dX12_isMissing_12 : decode cX12_isMissing 12 = .ok (.goto 4, 3) := by decide +kernel
theorem dX12_isMissing_15 : decode cX12_isMissing 15 = .ok (.iconst 0, 1) := by decide +kernel
theorem dX12_isMissing_16 : decode cX12_isMissing 16 = .ok (.ireturn, 1) := by decide +kernel
set_option maxRecDepth 20000 in
set_option maxHeartbeats 4000000 in
theorem W_X12_isMissing (K : xK) (L : xL) (a0 : Nat) (a1 : Int32) (h : xH) : Sim K L cX12_isMissing RX12 "isMissing" 2 0 (fun q : Int32 × xH => q.2) (xRz cX12_isMissing) 0 [(0, .ref a0), (1, .int a1)] [] h (f_X12_isMissing a0 a1 h) := by
  unfold f_X12_isMissing
  refine S_aload_n (pc := 0) 0 rfl dX12_isMissing_0 rfl ?_
  refine S_getR (pc := 1) fd_X12_lane wd_808 dX12_isMissing_1 (fun v1 => ?_)
  refine S_iload_n (pc := 4) 1 rfl dX12_isMissing_4 rfl ?_
  refine S_aI (pc := 5) dX12_isMissing_5 (fun v2 => ?_)
  refine S_ldc (pc := 6) wd_807 dX12_isMissing_6 ?_
  refine S_icmp_ne (pc := 8) (tgt := 15) dX12_isMissing_8 (by decide) ?_ ?_
  · refine S_iconst (pc := 11) dX12_isMissing_11 ic_1 ?_
    refine S_goto (pc := 12) (tgt := 16) dX12_isMissing_12 (by decide) ?_
    exact Sim.fin ⟨dX12_isMissing_16, rfl, rfl, x_nar (Or.inr rfl)⟩ rfl
  · refine S_iconst (pc := 15) dX12_isMissing_15 ic_0 ?_
    exact Sim.fin ⟨dX12_isMissing_16, rfl, rfl, x_nar (Or.inl rfl)⟩ rfl
theorem M_X12_isMissing (l : Launch) (a0 : Nat) (a1 : Int32) (h : xH) {q : Int32 × xH} (hq : f_X12_isMissing a0 a1 h = some q) : xM l yX12_isMissing cX12_isMissing 2 (some .boolean) 0 [.ref a0, .int a1] h (some (.int q.1)) q.2 := xM_z (by decide +kernel) (Nat.le_of_ble_eq_true rfl) (fun K L => W_X12_isMissing K L a0 a1 h) hq
theorem dX12_isPart_0 : decode cX12_isPart 0 = .ok (.iload_n 2, 1) := by decide +kernel
theorem dX12_isPart_1 : decode cX12_isPart 1 = .ok (.ifCond .lt 33, 3) := by decide +kernel
theorem dX12_isPart_4 : decode cX12_isPart 4 = .ok (.iload_n 3, 1) := by decide +kernel
theorem dX12_isPart_5 : decode cX12_isPart 5 = .ok (.ifCond .lt 29, 3) := by decide +kernel
theorem dX12_isPart_8 : decode cX12_isPart 8 = .ok (.iload_n 2, 1) := by decide +kernel
theorem dX12_isPart_9 : decode cX12_isPart 9 = .ok (.aload_n 0, 1) := by decide +kernel
theorem dX12_isPart_10 : decode cX12_isPart 10 = .ok (.getfield 13, 3) := by decide +kernel
theorem dX12_isPart_13 : decode cX12_isPart 13 = .ok (.iload_n 1, 1) := by decide +kernel
theorem dX12_isPart_14 : decode cX12_isPart 14 = .ok (.iaload, 1) := by decide +kernel
theorem dX12_isPart_15 : decode cX12_isPart 15 = .ok (.if_icmp .gt 19, 3) := by decide +kernel
theorem dX12_isPart_18 : decode cX12_isPart 18 = .ok (.iload_n 3, 1) := by decide +kernel
theorem dX12_isPart_19 : decode cX12_isPart 19 = .ok (.aload_n 0, 1) := by decide +kernel
theorem dX12_isPart_20 : decode cX12_isPart 20 = .ok (.getfield 13, 3) := by decide +kernel
theorem dX12_isPart_23 : decode cX12_isPart 23 = .ok (.iload_n 1, 1) := by decide +kernel
theorem dX12_isPart_24 : decode cX12_isPart 24 = .ok (.iaload, 1) := by decide +kernel
theorem dX12_isPart_25 : decode cX12_isPart 25 = .ok (.iload_n 2, 1) := by decide +kernel
theorem dX12_isPart_26 : decode cX12_isPart 26 = .ok (.isub, 1) := by decide +kernel
theorem dX12_isPart_27 : decode cX12_isPart 27 = .ok (.if_icmp .gt 7, 3) := by decide +kernel
theorem dX12_isPart_30 : decode cX12_isPart 30 = .ok (.iconst 1, 1) := by decide +kernel
theorem dX12_isPart_31 : decode cX12_isPart 31 = .ok (.goto 4, 3) := by decide +kernel
theorem dX12_isPart_34 : decode cX12_isPart 34 = .ok (.iconst 0, 1) := by decide +kernel
theorem dX12_isPart_35 : decode cX12_isPart 35 = .ok (.ireturn, 1) := by decide +kernel
set_option maxRecDepth 20000 in
set_option maxHeartbeats 4000000 in
theorem W_X12_isPart (K : xK) (L : xL) (a0 : Nat) (a1 : Int32) (a2 : Int32) (a3 : Int32) (h : xH) : Sim K L cX12_isPart RX12 "isPart" 4 0 (fun q : Int32 × xH => q.2) (xRz cX12_isPart) 0 [(0, .ref a0), (1, .int a1), (2, .int a2), (3, .int a3)] [] h (f_X12_isPart a0 a1 a2 a3 h) := by
  unfold f_X12_isPart
  refine S_iload_n (pc := 0) 2 rfl dX12_isPart_0 rfl ?_
  refine S_if_lt (pc := 1) (tgt := 34) dX12_isPart_1 (by decide) ?_ ?_
  · refine S_iconst (pc := 34) dX12_isPart_34 ic_0 ?_
    exact Sim.fin ⟨dX12_isPart_35, rfl, rfl, x_nar (Or.inl rfl)⟩ rfl
  · refine S_iload_n (pc := 4) 3 rfl dX12_isPart_4 rfl ?_
    refine S_if_lt (pc := 5) (tgt := 34) dX12_isPart_5 (by decide) ?_ ?_
    · refine S_iconst (pc := 34) dX12_isPart_34 ic_0 ?_
      exact Sim.fin ⟨dX12_isPart_35, rfl, rfl, x_nar (Or.inl rfl)⟩ rfl
    · refine S_iload_n (pc := 8) 2 rfl dX12_isPart_8 rfl ?_
      refine S_aload_n (pc := 9) 0 rfl dX12_isPart_9 rfl ?_
      refine S_getR (pc := 10) fd_X12_many wd_809 dX12_isPart_10 (fun v1 => ?_)
      refine S_iload_n (pc := 13) 1 rfl dX12_isPart_13 rfl ?_
      refine S_aI (pc := 14) dX12_isPart_14 (fun v2 => ?_)
      refine S_icmp_gt (pc := 15) (tgt := 34) dX12_isPart_15 (by decide) ?_ ?_
      · refine S_iconst (pc := 34) dX12_isPart_34 ic_0 ?_
        exact Sim.fin ⟨dX12_isPart_35, rfl, rfl, x_nar (Or.inl rfl)⟩ rfl
      · refine S_iload_n (pc := 18) 3 rfl dX12_isPart_18 rfl ?_
        refine S_aload_n (pc := 19) 0 rfl dX12_isPart_19 rfl ?_
        refine S_getR (pc := 20) fd_X12_many wd_809 dX12_isPart_20 (fun v3 => ?_)
        refine S_iload_n (pc := 23) 1 rfl dX12_isPart_23 rfl ?_
        refine S_aI (pc := 24) dX12_isPart_24 (fun v4 => ?_)
        refine S_iload_n (pc := 25) 2 rfl dX12_isPart_25 rfl ?_
        refine S_isub (pc := 26) dX12_isPart_26 ?_
        refine S_icmp_gt (pc := 27) (tgt := 34) dX12_isPart_27 (by decide) ?_ ?_
        · refine S_iconst (pc := 34) dX12_isPart_34 ic_0 ?_
          exact Sim.fin ⟨dX12_isPart_35, rfl, rfl, x_nar (Or.inl rfl)⟩ rfl
        · refine S_iconst (pc := 30) dX12_isPart_30 ic_1 ?_
          refine S_goto (pc := 31) (tgt := 35) dX12_isPart_31 (by decide) ?_
          exact Sim.fin ⟨dX12_isPart_35, rfl, rfl, x_nar (Or.inr rfl)⟩ rfl
theorem M_X12_isPart (l : Launch) (a0 : Nat) (a1 : Int32) (a2 : Int32) (a3 : Int32) (h : xH) {q : Int32 × xH} (hq : f_X12_isPart a0 a1 a2 a3 h = some q) : xM l yX12_isPart cX12_isPart 4 (some .boolean) 0 [.ref a0, .int a1, .int a2, .int a3] h (some (.int q.1)) q.2 := xM_z (by decide +kernel) (Nat.le_of_ble_eq_true rfl) (fun K L => W_X12_isPart K L a0 a1 a2 a3 h) hq
