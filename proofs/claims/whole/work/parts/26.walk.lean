theorem dX12_isRow_0 : decode cX12_isRow 0 = .ok (.iload_n 0, 1) := by decide +kernel
theorem dX12_isRow_1 : decode cX12_isRow 1 = .ok (.iconst 0, 1) := by decide +kernel
theorem dX12_isRow_2 : decode cX12_isRow 2 = .ok (.bipush 7, 2) := by decide +kernel
theorem dX12_isRow_4 : decode cX12_isRow 4 = .ok (.invokestatic 65, 3) := by decide +kernel
theorem dX12_isRow_7 : decode cX12_isRow 7 = .ok (.ireturn, 1) := by decide +kernel
set_option maxRecDepth 20000 in
set_option maxHeartbeats 4000000 in
theorem W_X12_isRow (K : xK) (L : xL) (a0 : Int32) (h : xH) : Sim K L cX12_isRow RX12 "isRow" 1 1 (fun q : Int32 × xH => q.2) (xRz cX12_isRow) 0 [(0, .int a0)] [] h (f_X12_isRow a0 h) := by
  unfold f_X12_isRow
  refine S_iload_n (pc := 0) 0 rfl dX12_isRow_0 rfl ?_
  refine S_iconst (pc := 1) dX12_isRow_1 ic_0 ?_
  refine S_bipush (pc := 2) dX12_isRow_2 bi_7 ?_
  refine S_call_i (pc := 4) (rest := []) (fun q hq => R_S (av := [.int a0, .int (0 : Int32), .int (7 : Int32)]) (M_X12_in _ a0 (0 : Int32) (7 : Int32) h hq) wd_902 wd_900 wd_901 wd_50 hd_X12_in ⟨Nat.le_of_ble_eq_true rfl, Nat.le_of_ble_eq_true rfl⟩ rfl (Nat.le_of_ble_eq_true rfl) dX12_isRow_4) (fun _ h => absurd h List.not_mem_nil) (fun q1 => ?_)
  refine Sim.ite (fun hz2 => ?_) (fun _ => Sim.none)
  exact Sim.fin ⟨dX12_isRow_7, rfl, rfl, x_nar hz2⟩ rfl
theorem M_X12_isRow (l : Launch) (a0 : Int32) (h : xH) {q : Int32 × xH} (hq : f_X12_isRow a0 h = some q) : xM l yX12_isRow cX12_isRow 1 (some .boolean) 1 [.int a0] h (some (.int q.1)) q.2 := xM_z (by decide +kernel) (Nat.le_of_ble_eq_true rfl) (fun K L => W_X12_isRow K L a0 h) hq
theorem dX12_copy_0 : decode cX12_copy 0 = .ok (.iload_n 1, 1) := by decide +kernel
theorem dX12_copy_1 : decode cX12_copy 1 = .ok (.invokestatic 69, 3) := by decide +kernel
theorem dX12_copy_4 : decode cX12_copy 4 = .ok (.ifCond .eq 10, 3) := by decide +kernel
theorem dX12_copy_7 : decode cX12_copy 7 = .ok (.iload_n 3, 1) := by decide +kernel
theorem dX12_copy_8 : decode cX12_copy 8 = .ok (.invokestatic 69, 3) := by decide +kernel
theorem dX12_copy_11 : decode cX12_copy 11 = .ok (.ifCond .ne 6, 3) := by decide +kernel
theorem dX12_copy_14 : decode cX12_copy 14 = .ok (.ldc 73, 2) := by decide +kernel
theorem dX12_copy_16 : decode cX12_copy 16 = .ok (.ireturn, 1) := by decide +kernel
theorem dX12_copy_17 : decode cX12_copy 17 = .ok (.aload_n 0, 1) := by decide +kernel
theorem dX12_copy_18 : decode cX12_copy 18 = .ok (.iload_n 1, 1) := by decide +kernel
theorem dX12_copy_19 : decode cX12_copy 19 = .ok (.invokevirtual 81, 3) := by decide +kernel
theorem dX12_copy_22 : decode cX12_copy 22 = .ok (.ifCond .ne 11, 3) := by decide +kernel
theorem dX12_copy_25 : decode cX12_copy 25 = .ok (.aload_n 0, 1) := by decide +kernel
theorem dX12_copy_26 : decode cX12_copy 26 = .ok (.iload_n 3, 1) := by decide +kernel
theorem dX12_copy_27 : decode cX12_copy 27 = .ok (.invokevirtual 81, 3) := by decide +kernel
theorem dX12_copy_30 : decode cX12_copy 30 = .ok (.ifCond .eq 9, 3) := by decide +kernel
theorem dX12_copy_33 : decode cX12_copy 33 = .ok (.aload_n 0, 1) := by decide +kernel
theorem dX12_copy_34 : decode cX12_copy 34 = .ok (.iconst 1, 1) := by decide +kernel
theorem dX12_copy_35 : decode cX12_copy 35 = .ok (.invokevirtual 74, 3) := by decide +kernel
theorem dX12_copy_38 : decode cX12_copy 38 = .ok (.ireturn, 1) := by decide +kernel
theorem dX12_copy_39 : decode cX12_copy 39 = .ok (.aload_n 0, 1) := by decide +kernel
theorem dX12_copy_40 : decode cX12_copy 40 = .ok (.getfield 7, 3) := by decide +kernel
theorem dX12_copy_43 : decode cX12_copy 43 = .ok (.iload_n 1, 1) := by decide +kernel
theorem dX12_copy_44 : decode cX12_copy 44 = .ok (.iaload, 1) := by decide +kernel
theorem dX12_copy_45 : decode cX12_copy 45 = .ok (.aload_n 0, 1) := by decide +kernel
theorem dX12_copy_46 : decode cX12_copy 46 = .ok (.getfield 7, 3) := by decide +kernel
theorem dX12_copy_49 : decode cX12_copy 49 = .ok (.iload_n 3, 1) := by decide +kernel
theorem dX12_copy_50 : decode cX12_copy 50 = .ok (.iaload, 1) := by decide +kernel
theorem dX12_copy_51 : decode cX12_copy 51 = .ok (.if_icmp .eq 9, 3) := by decide +kernel
theorem dX12_copy_54 : decode cX12_copy 54 = .ok (.aload_n 0, 1) := by decide +kernel
theorem dX12_copy_55 : decode cX12_copy 55 = .ok (.iconst 5, 1) := by decide +kernel
theorem dX12_copy_56 : decode cX12_copy 56 = .ok (.invokevirtual 74, 3) := by decide +kernel
theorem dX12_copy_59 : decode cX12_copy 59 = .ok (.ireturn, 1) := by decide +kernel
theorem dX12_copy_60 : decode cX12_copy 60 = .ok (.aload_n 0, 1) := by decide +kernel
theorem dX12_copy_61 : decode cX12_copy 61 = .ok (.iload_n 1, 1) := by decide +kernel
theorem dX12_copy_62 : decode cX12_copy 62 = .ok (.iload_n 2, 1) := by decide +kernel
theorem dX12_copy_63 : decode cX12_copy 63 = .ok (.iload 5, 2) := by decide +kernel
theorem dX12_copy_65 : decode cX12_copy 65 = .ok (.invokevirtual 88, 3) := by decide +kernel
theorem dX12_copy_68 : decode cX12_copy 68 = .ok (.ifCond .eq 15, 3) := by decide +kernel
theorem dX12_copy_71 : decode cX12_copy 71 = .ok (.aload_n 0, 1) := by decide +kernel
theorem dX12_copy_72 : decode cX12_copy 72 = .ok (.iload_n 3, 1) := by decide +kernel
theorem dX12_copy_73 : decode cX12_copy 73 = .ok (.iload 4, 2) := by decide +kernel
theorem dX12_copy_75 : decode cX12_copy 75 = .ok (.iload 5, 2) := by decide +kernel
theorem dX12_copy_77 : decode cX12_copy 77 = .ok (.invokevirtual 88, 3) := by decide +kernel
theorem dX12_copy_80 : decode cX12_copy 80 = .ok (.ifCond .ne 9, 3) := by decide +kernel
theorem dX12_copy_83 : decode cX12_copy 83 = .ok (.aload_n 0, 1) := by decide +kernel
theorem dX12_copy_84 : decode cX12_copy 84 = .ok (.iconst 2, 1) := by decide +kernel
theorem dX12_copy_85 : decode cX12_copy 85 = .ok (.invokevirtual 74, 3) := by decide +kernel
theorem dX12_copy_88 : decode cX12_copy 88 = .ok (.ireturn, 1) := by decide +kernel
theorem dX12_copy_89 : decode cX12_copy 89 = .ok (.iconst 0, 1) := by decide +kernel
theorem dX12_copy_90 : decode cX12_copy 90 = .ok (.istore 6, 2) := by decide +kernel
theorem dX12_copy_92 : decode cX12_copy 92 = .ok (.iload 6, 2) := by decide +kernel
theorem dX12_copy_94 : decode cX12_copy 94 = .ok (.iload 5, 2) := by decide +kernel
theorem dX12_copy_96 : decode cX12_copy 96 = .ok (.if_icmp .ge 30, 3) := by decide +kernel
theorem dX12_copy_99 : decode cX12_copy 99 = .ok (.aload_n 0, 1) := by decide +kernel
theorem dX12_copy_100 : decode cX12_copy 100 = .ok (.getfield 19, 3) := by decide +kernel
theorem dX12_copy_103 : decode cX12_copy 103 = .ok (.iload 6, 2) := by decide +kernel
theorem dX12_copy_105 : decode cX12_copy 105 = .ok (.aload_n 0, 1) := by decide +kernel
theorem dX12_copy_106 : decode cX12_copy 106 = .ok (.getfield 16, 3) := by decide +kernel
theorem dX12_copy_109 : decode cX12_copy 109 = .ok (.bipush 40, 2) := by decide +kernel
theorem dX12_copy_111 : decode cX12_copy 111 = .ok (.iload_n 1, 1) := by decide +kernel
theorem dX12_copy_112 : decode cX12_copy 112 = .ok (.imul, 1) := by decide +kernel
theorem dX12_copy_113 : decode cX12_copy 113 = .ok (.iload_n 2, 1) := by decide +kernel
theorem dX12_copy_114 : decode cX12_copy 114 = .ok (.iadd, 1) := by decide +kernel
theorem dX12_copy_115 : decode cX12_copy 115 = .ok (.iload 6, 2) := by decide +kernel
theorem dX12_copy_117 : decode cX12_copy 117 = .ok (.iadd, 1) := by decide +kernel
theorem dX12_copy_118 : decode cX12_copy 118 = .ok (.iaload, 1) := by decide +kernel
theorem dX12_copy_119 : decode cX12_copy 119 = .ok (.iastore, 1) := by decide +kernel
theorem dX12_copy_120 : decode cX12_copy 120 = .ok (.iinc 6 1, 3) := by decide +kernel
theorem dX12_copy_123 : decode cX12_copy 123 = .ok (.goto (-31), 3) := by decide +kernel
theorem dX12_copy_126 : decode cX12_copy 126 = .ok (.iconst 0, 1) := by decide +kernel
theorem dX12_copy_127 : decode cX12_copy 127 = .ok (.istore 6, 2) := by decide +kernel
theorem dX12_copy_129 : decode cX12_copy 129 = .ok (.iload 6, 2) := by decide +kernel
theorem dX12_copy_131 : decode cX12_copy 131 = .ok (.iload 5, 2) := by decide +kernel
theorem dX12_copy_133 : decode cX12_copy 133 = .ok (.if_icmp .ge 31, 3) := by decide +kernel
theorem dX12_copy_136 : decode cX12_copy 136 = .ok (.aload_n 0, 1) := by decide +kernel
theorem dX12_copy_137 : decode cX12_copy 137 = .ok (.getfield 16, 3) := by decide +kernel
theorem dX12_copy_140 : decode cX12_copy 140 = .ok (.bipush 40, 2) := by decide +kernel
theorem dX12_copy_142 : decode cX12_copy 142 = .ok (.iload_n 3, 1) := by decide +kernel
theorem dX12_copy_143 : decode cX12_copy 143 = .ok (.imul, 1) := by decide +kernel
theorem dX12_copy_144 : decode cX12_copy 144 = .ok (.iload 4, 2) := by decide +kernel
theorem dX12_copy_146 : decode cX12_copy 146 = .ok (.iadd, 1) := by decide +kernel
theorem dX12_copy_147 : decode cX12_copy 147 = .ok (.iload 6, 2) := by decide +kernel
theorem dX12_copy_149 : decode cX12_copy 149 = .ok (.iadd, 1) := by decide +kernel
theorem dX12_copy_150 : decode cX12_copy 150 = .ok (.aload_n 0, 1) := by decide +kernel
theorem dX12_copy_151 : decode cX12_copy 151 = .ok (.getfield 19, 3) := by decide +kernel
theorem dX12_copy_154 : decode cX12_copy 154 = .ok (.iload 6, 2) := by decide +kernel
theorem dX12_copy_156 : decode cX12_copy 156 = .ok (.iaload, 1) := by decide +kernel
theorem dX12_copy_157 : decode cX12_copy 157 = .ok (.iastore, 1) := by decide +kernel
theorem dX12_copy_158 : decode cX12_copy 158 = .ok (.iinc 6 1, 3) := by decide +kernel
theorem dX12_copy_161 : decode cX12_copy 161 = .ok (.goto (-32), 3) := by decide +kernel
theorem dX12_copy_164 : decode cX12_copy 164 = .ok (.aload_n 0, 1) := by decide +kernel
theorem dX12_copy_165 : decode cX12_copy 165 = .ok (.iload 5, 2) := by decide +kernel
theorem dX12_copy_167 : decode cX12_copy 167 = .ok (.invokevirtual 78, 3) := by decide +kernel
theorem dX12_copy_170 : decode cX12_copy 170 = .ok (.ireturn, 1) := by decide +kernel
set_option maxRecDepth 20000 in
set_option maxHeartbeats 4000000 in
theorem L_X12_copy_92 (K : xK) (L : xL) : ∀ (n : Nat) (a0 : Nat) (a1 : Int32) (a2 : Int32) (a3 : Int32) (a4 : Int32) (a5 : Int32) (a6 : Int32) (h : xH), Sim K L cX12_copy RX12 "copy" 7 2 (fun q : Int32 × xH => q.2) (fun q pc' ls' st' h' => pc' = 126 ∧ ls' = [(0, .ref a0), (1, .int a1), (2, .int a2), (3, .int a3), (4, .int a4), (5, .int a5), (6, .int q.1)] ∧ st' = [] ∧ h' = q.2) 92 [(0, .ref a0), (1, .int a1), (2, .int a2), (3, .int a3), (4, .int a4), (5, .int a5), (6, .int a6)] [] h (f_X12_copy_L92 n a0 a1 a2 a3 a4 a5 a6 h) := by
  intro n
  induction n with
  | zero =>
    intro a0 a1 a2 a3 a4 a5 a6 h
    exact Sim.none
  | succ n ih =>
    intro a0 a1 a2 a3 a4 a5 a6 h
    unfold f_X12_copy_L92
    refine S_iload (pc := 92) 6 rfl dX12_copy_92 ?_
    refine S_iload (pc := 94) 5 rfl dX12_copy_94 ?_
    refine S_icmp_ge (pc := 96) (tgt := 126) dX12_copy_96 (by decide) ?_ ?_
    · refine S_sub [0, 1, 2, 3, 4, 5, 6] rfl ?_
      exact Sim.fin ⟨rfl, rfl, rfl, rfl⟩ rfl
    · refine S_aload_n (pc := 99) 0 rfl dX12_copy_99 rfl ?_
      refine S_getR (pc := 100) fd_X12_spare wd_811 dX12_copy_100 (fun v13 => ?_)
      refine S_iload (pc := 103) 6 rfl dX12_copy_103 ?_
      refine S_aload_n (pc := 105) 0 rfl dX12_copy_105 rfl ?_
      refine S_getR (pc := 106) fd_X12_items wd_810 dX12_copy_106 (fun v14 => ?_)
      refine S_bipush (pc := 109) dX12_copy_109 bi_40 ?_
      refine S_iload_n (pc := 111) 1 rfl dX12_copy_111 rfl ?_
      refine S_imul (pc := 112) dX12_copy_112 ?_
      refine S_iload_n (pc := 113) 2 rfl dX12_copy_113 rfl ?_
      refine S_iadd (pc := 114) dX12_copy_114 ?_
      refine S_iload (pc := 115) 6 rfl dX12_copy_115 ?_
      refine S_iadd (pc := 117) dX12_copy_117 ?_
      refine S_aI (pc := 118) dX12_copy_118 (fun v15 => ?_)
      refine S_uI (pc := 119) dX12_copy_119 (fun h16 => ?_)
      refine S_iinc (pc := 120) (v := a6 + (1 : Int32)) 6 rfl dX12_copy_120 (x_inc ic_1) (Nat.le_of_ble_eq_true rfl) rfl ?_
      refine S_goto (pc := 123) (tgt := 92) dX12_copy_123 (by decide) ?_
      refine S_sub [1, 2, 3, 4, 5, 6, 0] rfl ?_
      exact ih a0 a1 a2 a3 a4 a5 (a6 + (1 : Int32)) h16
set_option maxRecDepth 20000 in
set_option maxHeartbeats 4000000 in
theorem L_X12_copy_129 (K : xK) (L : xL) : ∀ (n : Nat) (a0 : Nat) (a3 : Int32) (a4 : Int32) (a5 : Int32) (a6 : Int32) (h : xH), Sim K L cX12_copy RX12 "copy" 7 2 (fun q : Int32 × xH => q.2) (fun q pc' ls' st' h' => pc' = 164 ∧ ls' = [(0, .ref a0), (3, .int a3), (4, .int a4), (5, .int a5), (6, .int q.1)] ∧ st' = [] ∧ h' = q.2) 129 [(0, .ref a0), (3, .int a3), (4, .int a4), (5, .int a5), (6, .int a6)] [] h (f_X12_copy_L129 n a0 a3 a4 a5 a6 h) := by
  intro n
  induction n with
  | zero =>
    intro a0 a3 a4 a5 a6 h
    exact Sim.none
  | succ n ih =>
    intro a0 a3 a4 a5 a6 h
    unfold f_X12_copy_L129
    refine S_iload (pc := 129) 4 rfl dX12_copy_129 ?_
    refine S_iload (pc := 131) 3 rfl dX12_copy_131 ?_
    refine S_icmp_ge (pc := 133) (tgt := 164) dX12_copy_133 (by decide) ?_ ?_
    · refine S_sub [0, 1, 2, 3, 4] rfl ?_
      exact Sim.fin ⟨rfl, rfl, rfl, rfl⟩ rfl
    · refine S_aload_n (pc := 136) 0 rfl dX12_copy_136 rfl ?_
      refine S_getR (pc := 137) fd_X12_items wd_810 dX12_copy_137 (fun v18 => ?_)
      refine S_bipush (pc := 140) dX12_copy_140 bi_40 ?_
      refine S_iload_n (pc := 142) 1 rfl dX12_copy_142 rfl ?_
      refine S_imul (pc := 143) dX12_copy_143 ?_
      refine S_iload (pc := 144) 2 rfl dX12_copy_144 ?_
      refine S_iadd (pc := 146) dX12_copy_146 ?_
      refine S_iload (pc := 147) 4 rfl dX12_copy_147 ?_
      refine S_iadd (pc := 149) dX12_copy_149 ?_
      refine S_aload_n (pc := 150) 0 rfl dX12_copy_150 rfl ?_
      refine S_getR (pc := 151) fd_X12_spare wd_811 dX12_copy_151 (fun v19 => ?_)
      refine S_iload (pc := 154) 4 rfl dX12_copy_154 ?_
      refine S_aI (pc := 156) dX12_copy_156 (fun v20 => ?_)
      refine S_uI (pc := 157) dX12_copy_157 (fun h21 => ?_)
      refine S_iinc (pc := 158) (v := a6 + (1 : Int32)) 4 rfl dX12_copy_158 (x_inc ic_1) (Nat.le_of_ble_eq_true rfl) rfl ?_
      refine S_goto (pc := 161) (tgt := 129) dX12_copy_161 (by decide) ?_
      refine S_sub [1, 2, 3, 4, 0] rfl ?_
      exact ih a0 a3 a4 a5 (a6 + (1 : Int32)) h21
set_option maxRecDepth 20000 in
set_option maxHeartbeats 4000000 in
theorem W_X12_copy (K : xK) (L : xL) (a0 : Nat) (a1 : Int32) (a2 : Int32) (a3 : Int32) (a4 : Int32) (a5 : Int32) (h : xH) : Sim K L cX12_copy RX12 "copy" 7 2 (fun q : Int32 × xH => q.2) (xRi cX12_copy) 0 [(0, .ref a0), (1, .int a1), (2, .int a2), (3, .int a3), (4, .int a4), (5, .int a5)] [] h (f_X12_copy a0 a1 a2 a3 a4 a5 h) := by
  unfold f_X12_copy
  refine S_iload_n (pc := 0) 1 rfl dX12_copy_0 rfl ?_
  refine S_call_i (pc := 1) (rest := []) (fun q hq => R_S (av := [.int a1]) (M_X12_isRow _ a1 h hq) wd_899 wd_897 wd_898 wd_50 hd_X12_isRow ⟨Nat.le_of_ble_eq_true rfl, Nat.le_of_ble_eq_true rfl⟩ rfl (Nat.le_of_ble_eq_true rfl) dX12_copy_1) (fun _ h => absurd h List.not_mem_nil) (fun q1 => ?_)
  refine S_if_eq (pc := 4) (tgt := 14) dX12_copy_4 (by decide) ?_ ?_
  · refine S_ldc (pc := 14) wd_903 dX12_copy_14 ?_
    exact Sim.fin ⟨dX12_copy_16, rfl, rfl⟩ rfl
  · refine S_iload_n (pc := 7) 3 rfl dX12_copy_7 rfl ?_
    refine S_call_i (pc := 8) (rest := []) (fun q hq => R_S (av := [.int a3]) (M_X12_isRow _ a3 q1.2 hq) wd_899 wd_897 wd_898 wd_50 hd_X12_isRow ⟨Nat.le_of_ble_eq_true rfl, Nat.le_of_ble_eq_true rfl⟩ rfl (Nat.le_of_ble_eq_true rfl) dX12_copy_8) (fun _ h => absurd h List.not_mem_nil) (fun q2 => ?_)
    refine S_if_ne (pc := 11) (tgt := 17) dX12_copy_11 (by decide) ?_ ?_
    · refine S_ldc (pc := 14) wd_903 dX12_copy_14 ?_
      exact Sim.fin ⟨dX12_copy_16, rfl, rfl⟩ rfl
    · refine S_aload_n (pc := 17) 0 rfl dX12_copy_17 rfl ?_
      refine S_iload_n (pc := 18) 1 rfl dX12_copy_18 rfl ?_
      refine S_call_i (pc := 19) (rest := []) (fun q hq => (x_if hq).elim (fun z => R_V (av := [.int a1]) (q := (RX12, TX12, 28)) (M_X12_isMissing _ a0 a1 q2.2 z.2) z.1 rfl wd_920 wd_917 wd_919 wd_50 wd_16 ⟨rfl, hd_X12_isMissing⟩ ⟨Nat.le_of_ble_eq_true rfl, Nat.le_of_ble_eq_true rfl⟩ rfl (Nat.le_of_ble_eq_true rfl) dX12_copy_19) (fun hq => (by cases hq))) (fun _ h => absurd h List.not_mem_nil) (fun q3 => ?_)
      refine S_if_ne (pc := 22) (tgt := 33) dX12_copy_22 (by decide) ?_ ?_
      · refine S_aload_n (pc := 25) 0 rfl dX12_copy_25 rfl ?_
        refine S_iload_n (pc := 26) 3 rfl dX12_copy_26 rfl ?_
        refine S_call_i (pc := 27) (rest := []) (fun q hq => (x_if hq).elim (fun z => R_V (av := [.int a3]) (q := (RX12, TX12, 28)) (M_X12_isMissing _ a0 a3 q3.2 z.2) z.1 rfl wd_920 wd_917 wd_919 wd_50 wd_16 ⟨rfl, hd_X12_isMissing⟩ ⟨Nat.le_of_ble_eq_true rfl, Nat.le_of_ble_eq_true rfl⟩ rfl (Nat.le_of_ble_eq_true rfl) dX12_copy_27) (fun hq => (by cases hq))) (fun _ h => absurd h List.not_mem_nil) (fun q4 => ?_)
        refine S_if_eq (pc := 30) (tgt := 39) dX12_copy_30 (by decide) ?_ ?_
        · refine S_aload_n (pc := 39) 0 rfl dX12_copy_39 rfl ?_
          refine S_getR (pc := 40) fd_X12_lane wd_808 dX12_copy_40 (fun v5 => ?_)
          refine S_iload_n (pc := 43) 1 rfl dX12_copy_43 rfl ?_
          refine S_aI (pc := 44) dX12_copy_44 (fun v6 => ?_)
          refine S_aload_n (pc := 45) 0 rfl dX12_copy_45 rfl ?_
          refine S_getR (pc := 46) fd_X12_lane wd_808 dX12_copy_46 (fun v7 => ?_)
          refine S_iload_n (pc := 49) 3 rfl dX12_copy_49 rfl ?_
          refine S_aI (pc := 50) dX12_copy_50 (fun v8 => ?_)
          refine S_icmp_eq (pc := 51) (tgt := 60) dX12_copy_51 (by decide) ?_ ?_
          · refine S_aload_n (pc := 60) 0 rfl dX12_copy_60 rfl ?_
            refine S_iload_n (pc := 61) 1 rfl dX12_copy_61 rfl ?_
            refine S_iload_n (pc := 62) 2 rfl dX12_copy_62 rfl ?_
            refine S_iload (pc := 63) 5 rfl dX12_copy_63 ?_
            refine S_call_i (pc := 65) (rest := []) (fun q hq => (x_if hq).elim (fun z => R_V (av := [.int a1, .int a2, .int a5]) (q := (RX12, TX12, 28)) (M_X12_isPart _ a0 a1 a2 a5 q4.2 z.2) z.1 rfl wd_931 wd_928 wd_930 wd_50 wd_17 ⟨rfl, hd_X12_isPart⟩ ⟨Nat.le_of_ble_eq_true rfl, Nat.le_of_ble_eq_true rfl⟩ rfl (Nat.le_of_ble_eq_true rfl) dX12_copy_65) (fun hq => (by cases hq))) (fun _ h => absurd h List.not_mem_nil) (fun q9 => ?_)
            refine S_if_eq (pc := 68) (tgt := 83) dX12_copy_68 (by decide) ?_ ?_
            · refine S_aload_n (pc := 83) 0 rfl dX12_copy_83 rfl ?_
              refine S_iconst (pc := 84) dX12_copy_84 ic_2 ?_
              refine S_call_i (pc := 85) (rest := []) (fun q hq => (x_if hq).elim (fun z => R_V (av := [.int (2 : Int32)]) (q := (RX12, TX12, 28)) (M_X12_found _ a0 (2 : Int32) q9.2 z.2) z.1 rfl wd_907 wd_904 wd_906 wd_50 wd_14 ⟨rfl, hd_X12_found⟩ ⟨Nat.le_of_ble_eq_true rfl, Nat.le_of_ble_eq_true rfl⟩ rfl (Nat.le_of_ble_eq_true rfl) dX12_copy_85) (fun hq => (by cases hq))) (fun _ h => absurd h List.not_mem_nil) (fun q10 => ?_)
              exact Sim.fin ⟨dX12_copy_88, rfl, rfl⟩ rfl
            · refine S_aload_n (pc := 71) 0 rfl dX12_copy_71 rfl ?_
              refine S_iload_n (pc := 72) 3 rfl dX12_copy_72 rfl ?_
              refine S_iload (pc := 73) 4 rfl dX12_copy_73 ?_
              refine S_iload (pc := 75) 5 rfl dX12_copy_75 ?_
              refine S_call_i (pc := 77) (rest := []) (fun q hq => (x_if hq).elim (fun z => R_V (av := [.int a3, .int a4, .int a5]) (q := (RX12, TX12, 28)) (M_X12_isPart _ a0 a3 a4 a5 q9.2 z.2) z.1 rfl wd_931 wd_928 wd_930 wd_50 wd_17 ⟨rfl, hd_X12_isPart⟩ ⟨Nat.le_of_ble_eq_true rfl, Nat.le_of_ble_eq_true rfl⟩ rfl (Nat.le_of_ble_eq_true rfl) dX12_copy_77) (fun hq => (by cases hq))) (fun _ h => absurd h List.not_mem_nil) (fun q11 => ?_)
              refine S_if_ne (pc := 80) (tgt := 89) dX12_copy_80 (by decide) ?_ ?_
              · refine S_aload_n (pc := 83) 0 rfl dX12_copy_83 rfl ?_
                refine S_iconst (pc := 84) dX12_copy_84 ic_2 ?_
                refine S_call_i (pc := 85) (rest := []) (fun q hq => (x_if hq).elim (fun z => R_V (av := [.int (2 : Int32)]) (q := (RX12, TX12, 28)) (M_X12_found _ a0 (2 : Int32) q11.2 z.2) z.1 rfl wd_907 wd_904 wd_906 wd_50 wd_14 ⟨rfl, hd_X12_found⟩ ⟨Nat.le_of_ble_eq_true rfl, Nat.le_of_ble_eq_true rfl⟩ rfl (Nat.le_of_ble_eq_true rfl) dX12_copy_85) (fun hq => (by cases hq))) (fun _ h => absurd h List.not_mem_nil) (fun q12 => ?_)
                exact Sim.fin ⟨dX12_copy_88, rfl, rfl⟩ rfl
              · refine S_iconst (pc := 89) dX12_copy_89 ic_0 ?_
                refine S_istore (pc := 90) dX12_copy_90 (Nat.le_of_ble_eq_true rfl) rfl ?_
                refine S_sub [1, 2, 3, 4, 5, 6, 0] rfl ?_
                refine Sim.bind (hs := fun q17 : Int32 × xH => q17.2) (px := 126) (lsx := fun q17 => [(0, .ref a0), (1, .int a1), (2, .int a2), (3, .int a3), (4, .int a4), (5, .int a5), (6, .int q17.1)]) (L_X12_copy_92 K L xN a0 a1 a2 a3 a4 a5 (0 : Int32) q11.2) (fun q17 => ?_)
                refine S_iconst (pc := 126) dX12_copy_126 ic_0 ?_
                refine S_istore (pc := 127) dX12_copy_127 (Nat.le_of_ble_eq_true rfl) rfl ?_
                refine S_sub [1, 4, 5, 6, 0] rfl ?_
                refine Sim.bind (hs := fun q22 : Int32 × xH => q22.2) (px := 164) (lsx := fun q22 => [(0, .ref a0), (3, .int a3), (4, .int a4), (5, .int a5), (6, .int q22.1)]) (L_X12_copy_129 K L xN a0 a3 a4 a5 (0 : Int32) q17.2) (fun q22 => ?_)
                refine S_aload_n (pc := 164) 0 rfl dX12_copy_164 rfl ?_
                refine S_iload (pc := 165) 3 rfl dX12_copy_165 ?_
                refine S_call_i (pc := 167) (rest := []) (fun q hq => (x_if hq).elim (fun z => R_V (av := [.int a5]) (q := (RX12, TX12, 28)) (M_X12_well _ a0 a5 q22.2 z.2) z.1 rfl wd_912 wd_909 wd_911 wd_50 wd_15 ⟨rfl, hd_X12_well⟩ ⟨Nat.le_of_ble_eq_true rfl, Nat.le_of_ble_eq_true rfl⟩ rfl (Nat.le_of_ble_eq_true rfl) dX12_copy_167) (fun hq => (by cases hq))) (fun _ h => absurd h List.not_mem_nil) (fun q23 => ?_)
                exact Sim.fin ⟨dX12_copy_170, rfl, rfl⟩ rfl
          · refine S_aload_n (pc := 54) 0 rfl dX12_copy_54 rfl ?_
            refine S_iconst (pc := 55) dX12_copy_55 ic_5 ?_
            refine S_call_i (pc := 56) (rest := []) (fun q hq => (x_if hq).elim (fun z => R_V (av := [.int (5 : Int32)]) (q := (RX12, TX12, 28)) (M_X12_found _ a0 (5 : Int32) q4.2 z.2) z.1 rfl wd_907 wd_904 wd_906 wd_50 wd_14 ⟨rfl, hd_X12_found⟩ ⟨Nat.le_of_ble_eq_true rfl, Nat.le_of_ble_eq_true rfl⟩ rfl (Nat.le_of_ble_eq_true rfl) dX12_copy_56) (fun hq => (by cases hq))) (fun _ h => absurd h List.not_mem_nil) (fun q24 => ?_)
            exact Sim.fin ⟨dX12_copy_59, rfl, rfl⟩ rfl
        · refine S_aload_n (pc := 33) 0 rfl dX12_copy_33 rfl ?_
          refine S_iconst (pc := 34) dX12_copy_34 ic_1 ?_
          refine S_call_i (pc := 35) (rest := []) (fun q hq => (x_if hq).elim (fun z => R_V (av := [.int (1 : Int32)]) (q := (RX12, TX12, 28)) (M_X12_found _ a0 (1 : Int32) q4.2 z.2) z.1 rfl wd_907 wd_904 wd_906 wd_50 wd_14 ⟨rfl, hd_X12_found⟩ ⟨Nat.le_of_ble_eq_true rfl, Nat.le_of_ble_eq_true rfl⟩ rfl (Nat.le_of_ble_eq_true rfl) dX12_copy_35) (fun hq => (by cases hq))) (fun _ h => absurd h List.not_mem_nil) (fun q25 => ?_)
          exact Sim.fin ⟨dX12_copy_38, rfl, rfl⟩ rfl
      · refine S_aload_n (pc := 33) 0 rfl dX12_copy_33 rfl ?_
        refine S_iconst (pc := 34) dX12_copy_34 ic_1 ?_
        refine S_call_i (pc := 35) (rest := []) (fun q hq => (x_if hq).elim (fun z => R_V (av := [.int (1 : Int32)]) (q := (RX12, TX12, 28)) (M_X12_found _ a0 (1 : Int32) q3.2 z.2) z.1 rfl wd_907 wd_904 wd_906 wd_50 wd_14 ⟨rfl, hd_X12_found⟩ ⟨Nat.le_of_ble_eq_true rfl, Nat.le_of_ble_eq_true rfl⟩ rfl (Nat.le_of_ble_eq_true rfl) dX12_copy_35) (fun hq => (by cases hq))) (fun _ h => absurd h List.not_mem_nil) (fun q26 => ?_)
        exact Sim.fin ⟨dX12_copy_38, rfl, rfl⟩ rfl
theorem M_X12_copy (l : Launch) (a0 : Nat) (a1 : Int32) (a2 : Int32) (a3 : Int32) (a4 : Int32) (a5 : Int32) (h : xH) {q : Int32 × xH} (hq : f_X12_copy a0 a1 a2 a3 a4 a5 h = some q) : xM l yX12_copy cX12_copy 7 (some .int) 2 [.ref a0, .int a1, .int a2, .int a3, .int a4, .int a5] h (some (.int q.1)) q.2 := xM_i (by decide +kernel) (Nat.le_of_ble_eq_true rfl) (fun K L => W_X12_copy K L a0 a1 a2 a3 a4 a5 h) hq
theorem dX12_onesOfAll_0 : decode cX12_onesOfAll 0 = .ok (.aload_n 0, 1) := by decide +kernel
theorem dX12_onesOfAll_1 : decode cX12_onesOfAll 1 = .ok (.iconst 0, 1) := by decide +kernel
theorem dX12_onesOfAll_2 : decode cX12_onesOfAll 2 = .ok (.invokevirtual 187, 3) := by decide +kernel
theorem dX12_onesOfAll_5 : decode cX12_onesOfAll 5 = .ok (.aload_n 0, 1) := by decide +kernel
theorem dX12_onesOfAll_6 : decode cX12_onesOfAll 6 = .ok (.iconst 1, 1) := by decide +kernel
theorem dX12_onesOfAll_7 : decode cX12_onesOfAll 7 = .ok (.invokevirtual 187, 3) := by decide +kernel
theorem dX12_onesOfAll_10 : decode cX12_onesOfAll 10 = .ok (.iadd, 1) := by decide +kernel
theorem dX12_onesOfAll_11 : decode cX12_onesOfAll 11 = .ok (.aload_n 0, 1) := by decide +kernel
theorem dX12_onesOfAll_12 : decode cX12_onesOfAll 12 = .ok (.iconst 2, 1) := by decide +kernel
theorem dX12_onesOfAll_13 : decode cX12_onesOfAll 13 = .ok (.invokevirtual 187, 3) := by decide +kernel
theorem dX12_onesOfAll_16 : decode cX12_onesOfAll 16 = .ok (.iadd, 1) := by decide +kernel
theorem dX12_onesOfAll_17 : decode cX12_onesOfAll 17 = .ok (.aload_n 0, 1) := by decide +kernel
theorem dX12_onesOfAll_18 : decode cX12_onesOfAll 18 = .ok (.iconst 3, 1) := by decide +kernel
theorem dX12_onesOfAll_19 : decode cX12_onesOfAll 19 = .ok (.invokevirtual 187, 3) := by decide +kernel
theorem dX12_onesOfAll_22 : decode cX12_onesOfAll 22 = .ok (.iadd, 1) := by decide +kernel
theorem dX12_onesOfAll_23 : decode cX12_onesOfAll 23 = .ok (.ireturn, 1) := by decide +kernel
set_option maxRecDepth 20000 in
set_option maxHeartbeats 4000000 in
theorem W_X12_onesOfAll (K : xK) (L : xL) (a0 : Nat) (h : xH) : Sim K L cX12_onesOfAll RX12 "onesOfAll" 1 3 (fun q : Int32 × xH => q.2) (xRi cX12_onesOfAll) 0 [(0, .ref a0)] [] h (f_X12_onesOfAll a0 h) := by
  unfold f_X12_onesOfAll
  refine S_aload_n (pc := 0) 0 rfl dX12_onesOfAll_0 rfl ?_
  refine S_iconst (pc := 1) dX12_onesOfAll_1 ic_0 ?_
  refine S_call_i (pc := 2) (rest := []) (fun q hq => (x_if hq).elim (fun z => R_V (av := [.int (0 : Int32)]) (q := (RX12, TX12, 28)) (M_X12_allOnes _ a0 (0 : Int32) h z.2) z.1 rfl wd_1034 wd_1031 wd_1033 wd_50 wd_29 ⟨rfl, hd_X12_allOnes⟩ ⟨Nat.le_of_ble_eq_true rfl, Nat.le_of_ble_eq_true rfl⟩ rfl (Nat.le_of_ble_eq_true rfl) dX12_onesOfAll_2) (fun hq => (by cases hq))) (fun _ h => absurd h List.not_mem_nil) (fun q1 => ?_)
  refine S_aload_n (pc := 5) 0 rfl dX12_onesOfAll_5 rfl ?_
  refine S_iconst (pc := 6) dX12_onesOfAll_6 ic_1 ?_
  refine S_call_i (pc := 7) (rest := [.int q1.1]) (fun q hq => (x_if hq).elim (fun z => R_V (av := [.int (1 : Int32)]) (q := (RX12, TX12, 28)) (M_X12_allOnes _ a0 (1 : Int32) q1.2 z.2) z.1 rfl wd_1034 wd_1031 wd_1033 wd_50 wd_29 ⟨rfl, hd_X12_allOnes⟩ ⟨Nat.le_of_ble_eq_true rfl, Nat.le_of_ble_eq_true rfl⟩ rfl (Nat.le_of_ble_eq_true rfl) dX12_onesOfAll_7) (fun hq => (by cases hq))) (fun _ h => List.mem_cons_of_mem _ (List.mem_cons_of_mem _ (h))) (fun q2 => ?_)
  refine S_iadd (pc := 10) dX12_onesOfAll_10 ?_
  refine S_aload_n (pc := 11) 0 rfl dX12_onesOfAll_11 rfl ?_
  refine S_iconst (pc := 12) dX12_onesOfAll_12 ic_2 ?_
  refine S_call_i (pc := 13) (rest := [.int (q1.1 + q2.1)]) (fun q hq => (x_if hq).elim (fun z => R_V (av := [.int (2 : Int32)]) (q := (RX12, TX12, 28)) (M_X12_allOnes _ a0 (2 : Int32) q2.2 z.2) z.1 rfl wd_1034 wd_1031 wd_1033 wd_50 wd_29 ⟨rfl, hd_X12_allOnes⟩ ⟨Nat.le_of_ble_eq_true rfl, Nat.le_of_ble_eq_true rfl⟩ rfl (Nat.le_of_ble_eq_true rfl) dX12_onesOfAll_13) (fun hq => (by cases hq))) (fun _ h => List.mem_cons_of_mem _ (List.mem_cons_of_mem _ (h))) (fun q3 => ?_)
  refine S_iadd (pc := 16) dX12_onesOfAll_16 ?_
  refine S_aload_n (pc := 17) 0 rfl dX12_onesOfAll_17 rfl ?_
  refine S_iconst (pc := 18) dX12_onesOfAll_18 ic_3 ?_
  refine S_call_i (pc := 19) (rest := [.int ((q1.1 + q2.1) + q3.1)]) (fun q hq => (x_if hq).elim (fun z => R_V (av := [.int (3 : Int32)]) (q := (RX12, TX12, 28)) (M_X12_allOnes _ a0 (3 : Int32) q3.2 z.2) z.1 rfl wd_1034 wd_1031 wd_1033 wd_50 wd_29 ⟨rfl, hd_X12_allOnes⟩ ⟨Nat.le_of_ble_eq_true rfl, Nat.le_of_ble_eq_true rfl⟩ rfl (Nat.le_of_ble_eq_true rfl) dX12_onesOfAll_19) (fun hq => (by cases hq))) (fun _ h => List.mem_cons_of_mem _ (List.mem_cons_of_mem _ (h))) (fun q4 => ?_)
  refine S_iadd (pc := 22) dX12_onesOfAll_22 ?_
  exact Sim.fin ⟨dX12_onesOfAll_23, rfl, rfl⟩ rfl
theorem M_X12_onesOfAll (l : Launch) (a0 : Nat) (h : xH) {q : Int32 × xH} (hq : f_X12_onesOfAll a0 h = some q) : xM l yX12_onesOfAll cX12_onesOfAll 1 (some .int) 3 [.ref a0] h (some (.int q.1)) q.2 := xM_i (by decide +kernel) (Nat.le_of_ble_eq_true rfl) (fun K L => W_X12_onesOfAll K L a0 h) hq
theorem dX12_count_0 : decode cX12_count 0 = .ok (.iconst 0, 1) := by decide +kernel
theorem dX12_count_1 : decode cX12_count 1 = .ok (.istore_n 2, 1) := by decide +kernel
theorem dX12_count_2 : decode cX12_count 2 = .ok (.iload_n 1, 1) := by decide +kernel
theorem dX12_count_3 : decode cX12_count 3 = .ok (.tableswitch 113 0 5 #[37, 69, 74, 98, 103, 108], 37) := by decide +kernel
theorem dX12_count_40 : decode cX12_count 40 = .ok (.iconst 0, 1) := by decide +kernel
theorem dX12_count_41 : decode cX12_count 41 = .ok (.istore_n 3, 1) := by decide +kernel
theorem dX12_count_42 : decode cX12_count 42 = .ok (.iload_n 3, 1) := by decide +kernel
theorem dX12_count_43 : decode cX12_count 43 = .ok (.bipush 8, 2) := by decide +kernel
theorem dX12_count_45 : decode cX12_count 45 = .ok (.if_icmp .ge 25, 3) := by decide +kernel
theorem dX12_count_48 : decode cX12_count 48 = .ok (.iload_n 2, 1) := by decide +kernel
theorem dX12_count_49 : decode cX12_count 49 = .ok (.aload_n 0, 1) := by decide +kernel
theorem dX12_count_50 : decode cX12_count 50 = .ok (.iload_n 3, 1) := by decide +kernel
theorem dX12_count_51 : decode cX12_count 51 = .ok (.invokevirtual 81, 3) := by decide +kernel
theorem dX12_count_54 : decode cX12_count 54 = .ok (.ifCond .eq 7, 3) := by decide +kernel
theorem dX12_count_57 : decode cX12_count 57 = .ok (.iconst 0, 1) := by decide +kernel
theorem dX12_count_58 : decode cX12_count 58 = .ok (.goto 4, 3) := by decide +kernel
theorem dX12_count_61 : decode cX12_count 61 = .ok (.iconst 1, 1) := by decide +kernel
theorem dX12_count_62 : decode cX12_count 62 = .ok (.iadd, 1) := by decide +kernel
theorem dX12_count_63 : decode cX12_count 63 = .ok (.istore_n 2, 1) := by decide +kernel
theorem dX12_count_64 : decode cX12_count 64 = .ok (.iinc 3 1, 3) := by decide +kernel
theorem dX12_count_67 : decode cX12_count 67 = .ok (.goto (-25), 3) := by decide +kernel
theorem dX12_count_70 : decode cX12_count 70 = .ok (.iload_n 2, 1) := by decide +kernel
theorem dX12_count_71 : decode cX12_count 71 = .ok (.ireturn, 1) := by decide +kernel
theorem dX12_count_72 : decode cX12_count 72 = .ok (.aload_n 0, 1) := by decide +kernel
theorem dX12_count_73 : decode cX12_count 73 = .ok (.getfield 150, 3) := by decide +kernel
theorem dX12_count_76 : decode cX12_count 76 = .ok (.ireturn, 1) := by decide +kernel
theorem dX12_count_77 : decode cX12_count 77 = .ok (.aload_n 0, 1) := by decide +kernel
theorem dX12_count_78 : decode cX12_count 78 = .ok (.iconst 0, 1) := by decide +kernel
theorem dX12_count_79 : decode cX12_count 79 = .ok (.invokevirtual 167, 3) := by decide +kernel
theorem dX12_count_82 : decode cX12_count 82 = .ok (.aload_n 0, 1) := by decide +kernel
theorem dX12_count_83 : decode cX12_count 83 = .ok (.iconst 1, 1) := by decide +kernel
theorem dX12_count_84 : decode cX12_count 84 = .ok (.invokevirtual 167, 3) := by decide +kernel
theorem dX12_count_87 : decode cX12_count 87 = .ok (.iadd, 1) := by decide +kernel
theorem dX12_count_88 : decode cX12_count 88 = .ok (.aload_n 0, 1) := by decide +kernel
theorem dX12_count_89 : decode cX12_count 89 = .ok (.iconst 2, 1) := by decide +kernel
theorem dX12_count_90 : decode cX12_count 90 = .ok (.invokevirtual 167, 3) := by decide +kernel
theorem dX12_count_93 : decode cX12_count 93 = .ok (.iadd, 1) := by decide +kernel
theorem dX12_count_94 : decode cX12_count 94 = .ok (.aload_n 0, 1) := by decide +kernel
theorem dX12_count_95 : decode cX12_count 95 = .ok (.iconst 3, 1) := by decide +kernel
theorem dX12_count_96 : decode cX12_count 96 = .ok (.invokevirtual 167, 3) := by decide +kernel
theorem dX12_count_99 : decode cX12_count 99 = .ok (.iadd, 1) := by decide +kernel
theorem dX12_count_100 : decode cX12_count 100 = .ok (.ireturn, 1) := by decide +kernel
theorem dX12_count_101 : decode cX12_count 101 = .ok (.aload_n 0, 1) := by decide +kernel
theorem dX12_count_102 : decode cX12_count 102 = .ok (.invokevirtual 223, 3) := by decide +kernel
theorem dX12_count_105 : decode cX12_count 105 = .ok (.ireturn, 1) := by decide +kernel
theorem dX12_count_106 : decode cX12_count 106 = .ok (.aload_n 0, 1) := by decide +kernel
theorem dX12_count_107 : decode cX12_count 107 = .ok (.getfield 173, 3) := by decide +kernel
theorem dX12_count_110 : decode cX12_count 110 = .ok (.ireturn, 1) := by decide +kernel
theorem dX12_count_111 : decode cX12_count 111 = .ok (.aload_n 0, 1) := by decide +kernel
theorem dX12_count_112 : decode cX12_count 112 = .ok (.getfield 91, 3) := by decide +kernel
theorem dX12_count_115 : decode cX12_count 115 = .ok (.ireturn, 1) := by decide +kernel
theorem dX12_count_116 : decode cX12_count 116 = .ok (.ldc 73, 2) := by decide +kernel
theorem dX12_count_118 : decode cX12_count 118 = .ok (.ireturn, 1) := by decide +kernel
set_option maxRecDepth 20000 in
set_option maxHeartbeats 4000000 in
theorem L_X12_count_42 (K : xK) (L : xL) : ∀ (n : Nat) (a0 : Nat) (a2 : Int32) (a3 : Int32) (h : xH), Sim K L cX12_count RX12 "count" 4 4 (fun q : Int32 × Int32 × xH => q.2.2) (fun q pc' ls' st' h' => pc' = 70 ∧ ls' = [(0, .ref a0), (2, .int q.1), (3, .int q.2.1)] ∧ st' = [] ∧ h' = q.2.2) 42 [(0, .ref a0), (2, .int a2), (3, .int a3)] [] h (f_X12_count_L42 n a0 a2 a3 h) := by
  intro n
  induction n with
  | zero =>
    intro a0 a2 a3 h
    exact Sim.none
  | succ n ih =>
    intro a0 a2 a3 h
    unfold f_X12_count_L42
    refine S_iload_n (pc := 42) 2 rfl dX12_count_42 rfl ?_
    refine S_bipush (pc := 43) dX12_count_43 bi_8 ?_
    refine S_icmp_ge (pc := 45) (tgt := 70) dX12_count_45 (by decide) ?_ ?_
    · refine S_sub [0, 1, 2] rfl ?_
      exact Sim.fin ⟨rfl, rfl, rfl, rfl⟩ rfl
    · refine S_iload_n (pc := 48) 1 rfl dX12_count_48 rfl ?_
      refine S_aload_n (pc := 49) 0 rfl dX12_count_49 rfl ?_
      refine S_iload_n (pc := 50) 2 rfl dX12_count_50 rfl ?_
      refine S_call_i (pc := 51) (rest := [.int a2]) (fun q hq => (x_if hq).elim (fun z => R_V (av := [.int a3]) (q := (RX12, TX12, 28)) (M_X12_isMissing _ a0 a3 h z.2) z.1 rfl wd_920 wd_917 wd_919 wd_50 wd_16 ⟨rfl, hd_X12_isMissing⟩ ⟨Nat.le_of_ble_eq_true rfl, Nat.le_of_ble_eq_true rfl⟩ rfl (Nat.le_of_ble_eq_true rfl) dX12_count_51) (fun hq => (by cases hq))) (fun _ h => List.mem_cons_of_mem _ (List.mem_cons_of_mem _ (h))) (fun q1 => ?_)
      refine Sim.cut (pc' := 62) (st' := [.int (if q1.1 = 0 then (1 : Int32) else (0 : Int32)), .int a2]) ?_ (fun kc => ?_)
      · refine S_iadd (pc := 62) dX12_count_62 ?_
        refine S_istore_n (pc := 63) dX12_count_63 rfl (Nat.le_of_ble_eq_true rfl) rfl ?_
        refine S_iinc (pc := 64) (v := a3 + (1 : Int32)) 2 rfl dX12_count_64 (x_inc ic_1) (Nat.le_of_ble_eq_true rfl) rfl ?_
        refine S_goto (pc := 67) (tgt := 42) dX12_count_67 (by decide) ?_
        refine S_sub [2, 1, 0] rfl ?_
        exact ih a0 (a2 + (if q1.1 = 0 then (1 : Int32) else (0 : Int32))) (a3 + (1 : Int32)) q1.2
      · refine D_if_eq (pc := 54) (tgt := 61) dX12_count_54 (by decide) (fun c2 => ?_) (fun c2 => ?_)
        · refine S_iconst (pc := 61) dX12_count_61 ic_1 ?_
          exact x_st (by rw [if_pos c2]) kc
        · refine S_iconst (pc := 57) dX12_count_57 ic_0 ?_
          refine S_goto (pc := 58) (tgt := 62) dX12_count_58 (by decide) ?_
          exact x_st (by rw [if_neg c2]) kc
set_option maxRecDepth 20000 in
set_option maxHeartbeats 4000000 in
theorem W_X12_count (K : xK) (L : xL) (a0 : Nat) (a1 : Int32) (h : xH) : Sim K L cX12_count RX12 "count" 4 4 (fun q : Int32 × xH => q.2) (xRi cX12_count) 0 [(0, .ref a0), (1, .int a1)] [] h (f_X12_count a0 a1 h) := by
  unfold f_X12_count
  refine S_iconst (pc := 0) dX12_count_0 ic_0 ?_
  refine S_istore_n (pc := 1) dX12_count_1 rfl (Nat.le_of_ble_eq_true rfl) rfl ?_
  refine S_iload_n (pc := 2) 2 rfl dX12_count_2 rfl ?_
  refine S_tabIn (pc := 3) (v := 0) (tgt := 40) dX12_count_3 (by decide) (by decide) rfl (by decide) ?_ (fun hs4 => ?_)
  · refine S_iconst (pc := 40) dX12_count_40 ic_0 ?_
    refine S_istore_n (pc := 41) dX12_count_41 rfl (Nat.le_of_ble_eq_true rfl) rfl ?_
    refine S_sub [2, 1, 0] rfl ?_
    refine Sim.bind (hs := fun q3 : Int32 × Int32 × xH => q3.2.2) (px := 70) (lsx := fun q3 => [(0, .ref a0), (2, .int q3.1), (3, .int q3.2.1)]) (L_X12_count_42 K L xN a0 (0 : Int32) (0 : Int32) h) (fun q3 => ?_)
    refine S_iload_n (pc := 70) 1 rfl dX12_count_70 rfl ?_
    exact Sim.fin ⟨dX12_count_71, rfl, rfl⟩ rfl
  refine S_tabIn (pc := 3) (v := 1) (tgt := 72) dX12_count_3 (by decide) (by decide) rfl (by decide) ?_ (fun hs6 => ?_)
  · refine S_aload_n (pc := 72) 1 rfl dX12_count_72 rfl ?_
    refine S_getI (pc := 73) fd_X12_runs wd_827 dX12_count_73 (fun v5 => ?_)
    exact Sim.fin ⟨dX12_count_76, rfl, rfl⟩ rfl
  refine S_tabIn (pc := 3) (v := 2) (tgt := 77) dX12_count_3 (by decide) (by decide) rfl (by decide) ?_ (fun hs11 => ?_)
  · refine S_aload_n (pc := 77) 1 rfl dX12_count_77 rfl ?_
    refine S_iconst (pc := 78) dX12_count_78 ic_0 ?_
    refine S_call_i (pc := 79) (rest := []) (fun q hq => (x_if hq).elim (fun z => R_V (av := [.int (0 : Int32)]) (q := (RX12, TX12, 28)) (M_X12_bitsOf _ a0 (0 : Int32) h z.2) z.1 rfl wd_1012 wd_1009 wd_1011 wd_50 wd_28 ⟨rfl, hd_X12_bitsOf⟩ ⟨Nat.le_of_ble_eq_true rfl, Nat.le_of_ble_eq_true rfl⟩ rfl (Nat.le_of_ble_eq_true rfl) dX12_count_79) (fun hq => (by cases hq))) (fun _ h => absurd h List.not_mem_nil) (fun q7 => ?_)
    refine S_aload_n (pc := 82) 1 rfl dX12_count_82 rfl ?_
    refine S_iconst (pc := 83) dX12_count_83 ic_1 ?_
    refine S_call_i (pc := 84) (rest := [.int q7.1]) (fun q hq => (x_if hq).elim (fun z => R_V (av := [.int (1 : Int32)]) (q := (RX12, TX12, 28)) (M_X12_bitsOf _ a0 (1 : Int32) q7.2 z.2) z.1 rfl wd_1012 wd_1009 wd_1011 wd_50 wd_28 ⟨rfl, hd_X12_bitsOf⟩ ⟨Nat.le_of_ble_eq_true rfl, Nat.le_of_ble_eq_true rfl⟩ rfl (Nat.le_of_ble_eq_true rfl) dX12_count_84) (fun hq => (by cases hq))) (fun _ h => List.mem_cons_of_mem _ (List.mem_cons_of_mem _ (h))) (fun q8 => ?_)
    refine S_iadd (pc := 87) dX12_count_87 ?_
    refine S_aload_n (pc := 88) 1 rfl dX12_count_88 rfl ?_
    refine S_iconst (pc := 89) dX12_count_89 ic_2 ?_
    refine S_call_i (pc := 90) (rest := [.int (q7.1 + q8.1)]) (fun q hq => (x_if hq).elim (fun z => R_V (av := [.int (2 : Int32)]) (q := (RX12, TX12, 28)) (M_X12_bitsOf _ a0 (2 : Int32) q8.2 z.2) z.1 rfl wd_1012 wd_1009 wd_1011 wd_50 wd_28 ⟨rfl, hd_X12_bitsOf⟩ ⟨Nat.le_of_ble_eq_true rfl, Nat.le_of_ble_eq_true rfl⟩ rfl (Nat.le_of_ble_eq_true rfl) dX12_count_90) (fun hq => (by cases hq))) (fun _ h => List.mem_cons_of_mem _ (List.mem_cons_of_mem _ (h))) (fun q9 => ?_)
    refine S_iadd (pc := 93) dX12_count_93 ?_
    refine S_aload_n (pc := 94) 1 rfl dX12_count_94 rfl ?_
    refine S_iconst (pc := 95) dX12_count_95 ic_3 ?_
    refine S_call_i (pc := 96) (rest := [.int ((q7.1 + q8.1) + q9.1)]) (fun q hq => (x_if hq).elim (fun z => R_V (av := [.int (3 : Int32)]) (q := (RX12, TX12, 28)) (M_X12_bitsOf _ a0 (3 : Int32) q9.2 z.2) z.1 rfl wd_1012 wd_1009 wd_1011 wd_50 wd_28 ⟨rfl, hd_X12_bitsOf⟩ ⟨Nat.le_of_ble_eq_true rfl, Nat.le_of_ble_eq_true rfl⟩ rfl (Nat.le_of_ble_eq_true rfl) dX12_count_96) (fun hq => (by cases hq))) (fun _ h => List.mem_cons_of_mem _ (List.mem_cons_of_mem _ (h))) (fun q10 => ?_)
    refine S_iadd (pc := 99) dX12_count_99 ?_
    exact Sim.fin ⟨dX12_count_100, rfl, rfl⟩ rfl
  refine S_tabIn (pc := 3) (v := 3) (tgt := 101) dX12_count_3 (by decide) (by decide) rfl (by decide) ?_ (fun hs13 => ?_)
  · refine S_aload_n (pc := 101) 1 rfl dX12_count_101 rfl ?_
    refine S_call_i (pc := 102) (rest := []) (fun q hq => (x_if hq).elim (fun z => R_V (av := []) (q := (RX12, TX12, 28)) (M_X12_onesOfAll _ a0 h z.2) z.1 rfl wd_1168 wd_1165 wd_1167 wd_50 wd_34 ⟨rfl, hd_X12_onesOfAll⟩ ⟨Nat.le_of_ble_eq_true rfl, Nat.le_of_ble_eq_true rfl⟩ rfl (Nat.le_of_ble_eq_true rfl) dX12_count_102) (fun hq => (by cases hq))) (fun _ h => absurd h List.not_mem_nil) (fun q12 => ?_)
    exact Sim.fin ⟨dX12_count_105, rfl, rfl⟩ rfl
  refine S_tabIn (pc := 3) (v := 4) (tgt := 106) dX12_count_3 (by decide) (by decide) rfl (by decide) ?_ (fun hs15 => ?_)
  · refine S_aload_n (pc := 106) 1 rfl dX12_count_106 rfl ?_
    refine S_getI (pc := 107) fd_X12_acts wd_824 dX12_count_107 (fun v14 => ?_)
    exact Sim.fin ⟨dX12_count_110, rfl, rfl⟩ rfl
  refine S_tabIn (pc := 3) (v := 5) (tgt := 111) dX12_count_3 (by decide) (by decide) rfl (by decide) ?_ (fun hs17 => ?_)
  · refine S_aload_n (pc := 111) 1 rfl dX12_count_111 rfl ?_
    refine S_getI (pc := 112) fd_X12_taped wd_814 dX12_count_112 (fun v16 => ?_)
    exact Sim.fin ⟨dX12_count_115, rfl, rfl⟩ rfl
  refine S_tabOut (pc := 3) (tgt := 116) dX12_count_3 (by have := lv_neT hs4 (show (0 : Int32).toInt = 0 from by decide); have := lv_neT hs6 (show (1 : Int32).toInt = 1 from by decide); have := lv_neT hs11 (show (2 : Int32).toInt = 2 from by decide); have := lv_neT hs13 (show (3 : Int32).toInt = 3 from by decide); have := lv_neT hs15 (show (4 : Int32).toInt = 4 from by decide); have := lv_neT hs17 (show (5 : Int32).toInt = 5 from by decide); omega) (by decide) ?_
  refine S_ldc (pc := 116) wd_903 dX12_count_116 ?_
  exact Sim.fin ⟨dX12_count_118, rfl, rfl⟩ rfl
theorem M_X12_count (l : Launch) (a0 : Nat) (a1 : Int32) (h : xH) {q : Int32 × xH} (hq : f_X12_count a0 a1 h = some q) : xM l yX12_count cX12_count 4 (some .int) 4 [.ref a0, .int a1] h (some (.int q.1)) q.2 := xM_i (by decide +kernel) (Nat.le_of_ble_eq_true rfl) (fun K L => W_X12_count K L a0 a1 h) hq
theorem dX12_cut_0 : decode cX12_cut 0 = .ok (.iload_n 1, 1) := by decide +kernel
theorem dX12_cut_1 : decode cX12_cut 1 = .ok (.invokestatic 130, 3) := by decide +kernel
theorem dX12_cut_4 : decode cX12_cut 4 = .ok (.ifCond .eq 16, 3) := by decide +kernel
theorem dX12_cut_7 : decode cX12_cut 7 = .ok (.iload_n 2, 1) := by decide +kernel
theorem dX12_cut_8 : decode cX12_cut 8 = .ok (.iconst 0, 1) := by decide +kernel
theorem dX12_cut_9 : decode cX12_cut 9 = .ok (.aload_n 0, 1) := by decide +kernel
theorem dX12_cut_10 : decode cX12_cut 10 = .ok (.iload_n 1, 1) := by decide +kernel
theorem dX12_cut_11 : decode cX12_cut 11 = .ok (.invokevirtual 167, 3) := by decide +kernel
theorem dX12_cut_14 : decode cX12_cut 14 = .ok (.invokestatic 65, 3) := by decide +kernel
theorem dX12_cut_17 : decode cX12_cut 17 = .ok (.ifCond .ne 6, 3) := by decide +kernel
theorem dX12_cut_20 : decode cX12_cut 20 = .ok (.ldc 73, 2) := by decide +kernel
theorem dX12_cut_22 : decode cX12_cut 22 = .ok (.ireturn, 1) := by decide +kernel
theorem dX12_cut_23 : decode cX12_cut 23 = .ok (.aload_n 0, 1) := by decide +kernel
theorem dX12_cut_24 : decode cX12_cut 24 = .ok (.invokevirtual 143, 3) := by decide +kernel
theorem dX12_cut_27 : decode cX12_cut 27 = .ok (.aload_n 0, 1) := by decide +kernel
theorem dX12_cut_28 : decode cX12_cut 28 = .ok (.iload_n 1, 1) := by decide +kernel
theorem dX12_cut_29 : decode cX12_cut 29 = .ok (.invokevirtual 167, 3) := by decide +kernel
theorem dX12_cut_32 : decode cX12_cut 32 = .ok (.istore_n 3, 1) := by decide +kernel
theorem dX12_cut_33 : decode cX12_cut 33 = .ok (.iload_n 2, 1) := by decide +kernel
theorem dX12_cut_34 : decode cX12_cut 34 = .ok (.istore 4, 2) := by decide +kernel
theorem dX12_cut_36 : decode cX12_cut 36 = .ok (.iload 4, 2) := by decide +kernel
theorem dX12_cut_38 : decode cX12_cut 38 = .ok (.iload_n 3, 1) := by decide +kernel
theorem dX12_cut_39 : decode cX12_cut 39 = .ok (.if_icmp .ge 20, 3) := by decide +kernel
theorem dX12_cut_42 : decode cX12_cut 42 = .ok (.aload_n 0, 1) := by decide +kernel
theorem dX12_cut_43 : decode cX12_cut 43 = .ok (.getfield 25, 3) := by decide +kernel
theorem dX12_cut_46 : decode cX12_cut 46 = .ok (.iload_n 1, 1) := by decide +kernel
theorem dX12_cut_47 : decode cX12_cut 47 = .ok (.iload 4, 2) := by decide +kernel
theorem dX12_cut_49 : decode cX12_cut 49 = .ok (.iconst 0, 1) := by decide +kernel
theorem dX12_cut_50 : decode cX12_cut 50 = .ok (.invokestatic 159, 3) := by decide +kernel
theorem dX12_cut_53 : decode cX12_cut 53 = .ok (.iinc 4 1, 3) := by decide +kernel
theorem dX12_cut_56 : decode cX12_cut 56 = .ok (.goto (-20), 3) := by decide +kernel
theorem dX12_cut_59 : decode cX12_cut 59 = .ok (.aload_n 0, 1) := by decide +kernel
theorem dX12_cut_60 : decode cX12_cut 60 = .ok (.getfield 25, 3) := by decide +kernel
theorem dX12_cut_63 : decode cX12_cut 63 = .ok (.bipush 33, 2) := by decide +kernel
theorem dX12_cut_65 : decode cX12_cut 65 = .ok (.iload_n 1, 1) := by decide +kernel
theorem dX12_cut_66 : decode cX12_cut 66 = .ok (.imul, 1) := by decide +kernel
theorem dX12_cut_67 : decode cX12_cut 67 = .ok (.iload_n 2, 1) := by decide +kernel
theorem dX12_cut_68 : decode cX12_cut 68 = .ok (.iastore, 1) := by decide +kernel
theorem dX12_cut_69 : decode cX12_cut 69 = .ok (.iload_n 3, 1) := by decide +kernel
theorem dX12_cut_70 : decode cX12_cut 70 = .ok (.ireturn, 1) := by decide +kernel
set_option maxRecDepth 20000 in
set_option maxHeartbeats 4000000 in
theorem L_X12_cut_36 (K : xK) (L : xL) : ∀ (n : Nat) (a0 : Nat) (a1 : Int32) (a2 : Int32) (a3 : Int32) (a4 : Int32) (h : xH), Sim K L cX12_cut RX12 "cut" 5 2 (fun q : Int32 × xH => q.2) (fun q pc' ls' st' h' => pc' = 59 ∧ ls' = [(0, .ref a0), (1, .int a1), (2, .int a2), (3, .int a3), (4, .int q.1)] ∧ st' = [] ∧ h' = q.2) 36 [(0, .ref a0), (1, .int a1), (2, .int a2), (3, .int a3), (4, .int a4)] [] h (f_X12_cut_L36 n a0 a1 a2 a3 a4 h) := by
  intro n
  induction n with
  | zero =>
    intro a0 a1 a2 a3 a4 h
    exact Sim.none
  | succ n ih =>
    intro a0 a1 a2 a3 a4 h
    unfold f_X12_cut_L36
    refine S_iload (pc := 36) 4 rfl dX12_cut_36 ?_
    refine S_iload_n (pc := 38) 3 rfl dX12_cut_38 rfl ?_
    refine S_icmp_ge (pc := 39) (tgt := 59) dX12_cut_39 (by decide) ?_ ?_
    · refine S_sub [0, 1, 2, 3, 4] rfl ?_
      exact Sim.fin ⟨rfl, rfl, rfl, rfl⟩ rfl
    · refine S_aload_n (pc := 42) 0 rfl dX12_cut_42 rfl ?_
      refine S_getR (pc := 43) fd_X12_now wd_821 dX12_cut_43 (fun v6 => ?_)
      refine S_iload_n (pc := 46) 1 rfl dX12_cut_46 rfl ?_
      refine S_iload (pc := 47) 4 rfl dX12_cut_47 ?_
      refine S_iconst (pc := 49) dX12_cut_49 ic_0 ?_
      refine S_call_v (pc := 50) (rest := []) (fun q hq => R_S (av := [.ref v6, .int a1, .int a4, .int (0 : Int32)]) (M_X12_puts _ v6 a1 a4 (0 : Int32) h hq) wd_996 wd_994 wd_995 wd_50 hd_X12_puts ⟨Nat.le_of_ble_eq_true rfl, Nat.le_of_ble_eq_true rfl⟩ rfl (Nat.le_of_ble_eq_true rfl) dX12_cut_50) (fun _ h => absurd h List.not_mem_nil) (fun q7 => ?_)
      refine S_iinc (pc := 53) (v := a4 + (1 : Int32)) 4 rfl dX12_cut_53 (x_inc ic_1) (Nat.le_of_ble_eq_true rfl) rfl ?_
      refine S_goto (pc := 56) (tgt := 36) dX12_cut_56 (by decide) ?_
      refine S_sub [1, 2, 3, 4, 0] rfl ?_
      exact ih a0 a1 a2 a3 (a4 + (1 : Int32)) q7
set_option maxRecDepth 20000 in
set_option maxHeartbeats 4000000 in
theorem W_X12_cut (K : xK) (L : xL) (a0 : Nat) (a1 : Int32) (a2 : Int32) (h : xH) : Sim K L cX12_cut RX12 "cut" 5 2 (fun q : Int32 × xH => q.2) (xRi cX12_cut) 0 [(0, .ref a0), (1, .int a1), (2, .int a2)] [] h (f_X12_cut a0 a1 a2 h) := by
  unfold f_X12_cut
  refine S_iload_n (pc := 0) 1 rfl dX12_cut_0 rfl ?_
  refine S_call_i (pc := 1) (rest := []) (fun q hq => R_S (av := [.int a1]) (M_X12_isVector _ a1 h hq) wd_947 wd_945 wd_946 wd_50 hd_X12_isVector ⟨Nat.le_of_ble_eq_true rfl, Nat.le_of_ble_eq_true rfl⟩ rfl (Nat.le_of_ble_eq_true rfl) dX12_cut_1) (fun _ h => absurd h List.not_mem_nil) (fun q1 => ?_)
  refine S_if_eq (pc := 4) (tgt := 20) dX12_cut_4 (by decide) ?_ ?_
  · refine S_ldc (pc := 20) wd_903 dX12_cut_20 ?_
    exact Sim.fin ⟨dX12_cut_22, rfl, rfl⟩ rfl
  · refine S_iload_n (pc := 7) 2 rfl dX12_cut_7 rfl ?_
    refine S_iconst (pc := 8) dX12_cut_8 ic_0 ?_
    refine S_aload_n (pc := 9) 0 rfl dX12_cut_9 rfl ?_
    refine S_iload_n (pc := 10) 1 rfl dX12_cut_10 rfl ?_
    refine S_call_i (pc := 11) (rest := [.int (0 : Int32), .int a2]) (fun q hq => (x_if hq).elim (fun z => R_V (av := [.int a1]) (q := (RX12, TX12, 28)) (M_X12_bitsOf _ a0 a1 q1.2 z.2) z.1 rfl wd_1012 wd_1009 wd_1011 wd_50 wd_28 ⟨rfl, hd_X12_bitsOf⟩ ⟨Nat.le_of_ble_eq_true rfl, Nat.le_of_ble_eq_true rfl⟩ rfl (Nat.le_of_ble_eq_true rfl) dX12_cut_11) (fun hq => (by cases hq))) (fun _ h => List.mem_cons_of_mem _ (List.mem_cons_of_mem _ (h))) (fun q2 => ?_)
    refine S_call_i (pc := 14) (rest := []) (fun q hq => R_S (av := [.int a2, .int (0 : Int32), .int q2.1]) (M_X12_in _ a2 (0 : Int32) q2.1 q2.2 hq) wd_902 wd_900 wd_901 wd_50 hd_X12_in ⟨Nat.le_of_ble_eq_true rfl, Nat.le_of_ble_eq_true rfl⟩ rfl (Nat.le_of_ble_eq_true rfl) dX12_cut_14) (fun _ h => absurd h List.not_mem_nil) (fun q3 => ?_)
    refine S_if_ne (pc := 17) (tgt := 23) dX12_cut_17 (by decide) ?_ ?_
    · refine S_ldc (pc := 20) wd_903 dX12_cut_20 ?_
      exact Sim.fin ⟨dX12_cut_22, rfl, rfl⟩ rfl
    · refine S_aload_n (pc := 23) 0 rfl dX12_cut_23 rfl ?_
      refine S_call_v (pc := 24) (rest := []) (fun q hq => (x_if hq).elim (fun z => R_V (av := []) (q := (RX12, TX12, 28)) (M_X12_notes _ a0 q3.2 z.2) z.1 rfl wd_979 wd_976 wd_978 wd_50 wd_24 ⟨rfl, hd_X12_notes⟩ ⟨Nat.le_of_ble_eq_true rfl, Nat.le_of_ble_eq_true rfl⟩ rfl (Nat.le_of_ble_eq_true rfl) dX12_cut_24) (fun hq => (by cases hq))) (fun _ h => absurd h List.not_mem_nil) (fun q4 => ?_)
      refine S_aload_n (pc := 27) 0 rfl dX12_cut_27 rfl ?_
      refine S_iload_n (pc := 28) 1 rfl dX12_cut_28 rfl ?_
      refine S_call_i (pc := 29) (rest := []) (fun q hq => (x_if hq).elim (fun z => R_V (av := [.int a1]) (q := (RX12, TX12, 28)) (M_X12_bitsOf _ a0 a1 q4 z.2) z.1 rfl wd_1012 wd_1009 wd_1011 wd_50 wd_28 ⟨rfl, hd_X12_bitsOf⟩ ⟨Nat.le_of_ble_eq_true rfl, Nat.le_of_ble_eq_true rfl⟩ rfl (Nat.le_of_ble_eq_true rfl) dX12_cut_29) (fun hq => (by cases hq))) (fun _ h => absurd h List.not_mem_nil) (fun q5 => ?_)
      refine S_istore_n (pc := 32) dX12_cut_32 rfl (Nat.le_of_ble_eq_true rfl) rfl ?_
      refine S_iload_n (pc := 33) 3 rfl dX12_cut_33 rfl ?_
      refine S_istore (pc := 34) dX12_cut_34 (Nat.le_of_ble_eq_true rfl) rfl ?_
      refine S_sub [2, 3, 4, 1, 0] rfl ?_
      refine Sim.bind (hs := fun q8 : Int32 × xH => q8.2) (px := 59) (lsx := fun q8 => [(0, .ref a0), (1, .int a1), (2, .int a2), (3, .int q5.1), (4, .int q8.1)]) (L_X12_cut_36 K L xN a0 a1 a2 q5.1 a2 q5.2) (fun q8 => ?_)
      refine S_aload_n (pc := 59) 0 rfl dX12_cut_59 rfl ?_
      refine S_getR (pc := 60) fd_X12_now wd_821 dX12_cut_60 (fun v9 => ?_)
      refine S_bipush (pc := 63) dX12_cut_63 bi_33 ?_
      refine S_iload_n (pc := 65) 1 rfl dX12_cut_65 rfl ?_
      refine S_imul (pc := 66) dX12_cut_66 ?_
      refine S_iload_n (pc := 67) 2 rfl dX12_cut_67 rfl ?_
      refine S_uI (pc := 68) dX12_cut_68 (fun h10 => ?_)
      refine S_iload_n (pc := 69) 3 rfl dX12_cut_69 rfl ?_
      exact Sim.fin ⟨dX12_cut_70, rfl, rfl⟩ rfl
theorem M_X12_cut (l : Launch) (a0 : Nat) (a1 : Int32) (a2 : Int32) (h : xH) {q : Int32 × xH} (hq : f_X12_cut a0 a1 a2 h = some q) : xM l yX12_cut cX12_cut 5 (some .int) 2 [.ref a0, .int a1, .int a2] h (some (.int q.1)) q.2 := xM_i (by decide +kernel) (Nat.le_of_ble_eq_true rfl) (fun K L => W_X12_cut K L a0 a1 a2 h) hq
theorem dX12_drawn_0 : decode cX12_drawn 0 = .ok (.iload_n 1, 1) := by decide +kernel
theorem dX12_drawn_1 : decode cX12_drawn 1 = .ok (.invokestatic 130, 3) := by decide +kernel
theorem dX12_drawn_4 : decode cX12_drawn 4 = .ok (.ifCond .eq 34, 3) := by decide +kernel
theorem dX12_drawn_7 : decode cX12_drawn 7 = .ok (.iload_n 2, 1) := by decide +kernel
theorem dX12_drawn_8 : decode cX12_drawn 8 = .ok (.iconst 0, 1) := by decide +kernel
theorem dX12_drawn_9 : decode cX12_drawn 9 = .ok (.sipush 200, 3) := by decide +kernel
theorem dX12_drawn_12 : decode cX12_drawn 12 = .ok (.invokestatic 65, 3) := by decide +kernel
theorem dX12_drawn_15 : decode cX12_drawn 15 = .ok (.ifCond .eq 23, 3) := by decide +kernel
theorem dX12_drawn_18 : decode cX12_drawn 18 = .ok (.iload_n 3, 1) := by decide +kernel
theorem dX12_drawn_19 : decode cX12_drawn 19 = .ok (.iconst 1, 1) := by decide +kernel
theorem dX12_drawn_20 : decode cX12_drawn 20 = .ok (.ldc 220, 2) := by decide +kernel
theorem dX12_drawn_22 : decode cX12_drawn 22 = .ok (.invokestatic 65, 3) := by decide +kernel
theorem dX12_drawn_25 : decode cX12_drawn 25 = .ok (.ifCond .eq 13, 3) := by decide +kernel
theorem dX12_drawn_28 : decode cX12_drawn 28 = .ok (.iload 4, 2) := by decide +kernel
theorem dX12_drawn_30 : decode cX12_drawn 30 = .ok (.iconst 0, 1) := by decide +kernel
theorem dX12_drawn_31 : decode cX12_drawn 31 = .ok (.iconst 1, 1) := by decide +kernel
theorem dX12_drawn_32 : decode cX12_drawn 32 = .ok (.invokestatic 65, 3) := by decide +kernel
theorem dX12_drawn_35 : decode cX12_drawn 35 = .ok (.ifCond .ne 6, 3) := by decide +kernel
theorem dX12_drawn_38 : decode cX12_drawn 38 = .ok (.ldc 73, 2) := by decide +kernel
theorem dX12_drawn_40 : decode cX12_drawn 40 = .ok (.ireturn, 1) := by decide +kernel
theorem dX12_drawn_41 : decode cX12_drawn 41 = .ok (.aload_n 0, 1) := by decide +kernel
theorem dX12_drawn_42 : decode cX12_drawn 42 = .ok (.getfield 25, 3) := by decide +kernel
theorem dX12_drawn_45 : decode cX12_drawn 45 = .ok (.iconst 0, 1) := by decide +kernel
theorem dX12_drawn_46 : decode cX12_drawn 46 = .ok (.aload_n 0, 1) := by decide +kernel
theorem dX12_drawn_47 : decode cX12_drawn 47 = .ok (.getfield 28, 3) := by decide +kernel
theorem dX12_drawn_50 : decode cX12_drawn 50 = .ok (.iconst 0, 1) := by decide +kernel
theorem dX12_drawn_51 : decode cX12_drawn 51 = .ok (.invokestatic 176, 3) := by decide +kernel
theorem dX12_drawn_54 : decode cX12_drawn 54 = .ok (.aload_n 0, 1) := by decide +kernel
theorem dX12_drawn_55 : decode cX12_drawn 55 = .ok (.iload_n 1, 1) := by decide +kernel
theorem dX12_drawn_56 : decode cX12_drawn 56 = .ok (.invokevirtual 167, 3) := by decide +kernel
theorem dX12_drawn_59 : decode cX12_drawn 59 = .ok (.istore 5, 2) := by decide +kernel
theorem dX12_drawn_61 : decode cX12_drawn 61 = .ok (.iload_n 3, 1) := by decide +kernel
theorem dX12_drawn_62 : decode cX12_drawn 62 = .ok (.i2l, 1) := by decide +kernel
theorem dX12_drawn_63 : decode cX12_drawn 63 = .ok (.lstore 6, 2) := by decide +kernel
theorem dX12_drawn_65 : decode cX12_drawn 65 = .ok (.iconst 0, 1) := by decide +kernel
theorem dX12_drawn_66 : decode cX12_drawn 66 = .ok (.istore 8, 2) := by decide +kernel
theorem dX12_drawn_68 : decode cX12_drawn 68 = .ok (.iload 8, 2) := by decide +kernel
theorem dX12_drawn_70 : decode cX12_drawn 70 = .ok (.iload_n 2, 1) := by decide +kernel
theorem dX12_drawn_71 : decode cX12_drawn 71 = .ok (.if_icmp .ge 57, 3) := by decide +kernel
theorem dX12_drawn_74 : decode cX12_drawn 74 = .ok (.iload 5, 2) := by decide +kernel
theorem dX12_drawn_76 : decode cX12_drawn 76 = .ok (.ifCond .le 52, 3) := by decide +kernel
theorem dX12_drawn_79 : decode cX12_drawn 79 = .ok (.lload 6, 2) := by decide +kernel
theorem dX12_drawn_81 : decode cX12_drawn 81 = .ok (.ldc2_w 221, 3) := by decide +kernel
theorem dX12_drawn_84 : decode cX12_drawn 84 = .ok (.lmul, 1) := by decide +kernel
theorem dX12_drawn_85 : decode cX12_drawn 85 = .ok (.ldc2_w 214, 3) := by decide +kernel
theorem dX12_drawn_88 : decode cX12_drawn 88 = .ok (.lrem, 1) := by decide +kernel
theorem dX12_drawn_89 : decode cX12_drawn 89 = .ok (.lstore 6, 2) := by decide +kernel
theorem dX12_drawn_91 : decode cX12_drawn 91 = .ok (.lload 6, 2) := by decide +kernel
theorem dX12_drawn_93 : decode cX12_drawn 93 = .ok (.iload 5, 2) := by decide +kernel
theorem dX12_drawn_95 : decode cX12_drawn 95 = .ok (.i2l, 1) := by decide +kernel
theorem dX12_drawn_96 : decode cX12_drawn 96 = .ok (.lrem, 1) := by decide +kernel
theorem dX12_drawn_97 : decode cX12_drawn 97 = .ok (.l2i, 1) := by decide +kernel
theorem dX12_drawn_98 : decode cX12_drawn 98 = .ok (.istore 9, 2) := by decide +kernel
theorem dX12_drawn_100 : decode cX12_drawn 100 = .ok (.aload_n 0, 1) := by decide +kernel
theorem dX12_drawn_101 : decode cX12_drawn 101 = .ok (.getfield 28, 3) := by decide +kernel
theorem dX12_drawn_104 : decode cX12_drawn 104 = .ok (.iload_n 1, 1) := by decide +kernel
theorem dX12_drawn_105 : decode cX12_drawn 105 = .ok (.iload 9, 2) := by decide +kernel
theorem dX12_drawn_107 : decode cX12_drawn 107 = .ok (.iconst 1, 1) := by decide +kernel
theorem dX12_drawn_108 : decode cX12_drawn 108 = .ok (.aload_n 0, 1) := by decide +kernel
theorem dX12_drawn_109 : decode cX12_drawn 109 = .ok (.getfield 28, 3) := by decide +kernel
theorem dX12_drawn_112 : decode cX12_drawn 112 = .ok (.iload_n 1, 1) := by decide +kernel
theorem dX12_drawn_113 : decode cX12_drawn 113 = .ok (.iload 9, 2) := by decide +kernel
theorem dX12_drawn_115 : decode cX12_drawn 115 = .ok (.invokestatic 163, 3) := by decide +kernel
theorem dX12_drawn_118 : decode cX12_drawn 118 = .ok (.isub, 1) := by decide +kernel
theorem dX12_drawn_119 : decode cX12_drawn 119 = .ok (.invokestatic 159, 3) := by decide +kernel
theorem dX12_drawn_122 : decode cX12_drawn 122 = .ok (.iinc 8 1, 3) := by decide +kernel
theorem dX12_drawn_125 : decode cX12_drawn 125 = .ok (.goto (-57), 3) := by decide +kernel
theorem dX12_drawn_128 : decode cX12_drawn 128 = .ok (.iload 4, 2) := by decide +kernel
theorem dX12_drawn_130 : decode cX12_drawn 130 = .ok (.ifCond .ne 16, 3) := by decide +kernel
theorem dX12_drawn_133 : decode cX12_drawn 133 = .ok (.aload_n 0, 1) := by decide +kernel
theorem dX12_drawn_134 : decode cX12_drawn 134 = .ok (.getfield 28, 3) := by decide +kernel
theorem dX12_drawn_137 : decode cX12_drawn 137 = .ok (.iload_n 1, 1) := by decide +kernel
theorem dX12_drawn_138 : decode cX12_drawn 138 = .ok (.iload 5, 2) := by decide +kernel
theorem dX12_drawn_140 : decode cX12_drawn 140 = .ok (.invokestatic 170, 3) := by decide +kernel
theorem dX12_drawn_143 : decode cX12_drawn 143 = .ok (.goto 20, 3) := by decide +kernel
theorem dX12_drawn_146 : decode cX12_drawn 146 = .ok (.aload_n 0, 1) := by decide +kernel
theorem dX12_drawn_147 : decode cX12_drawn 147 = .ok (.aload_n 0, 1) := by decide +kernel
theorem dX12_drawn_148 : decode cX12_drawn 148 = .ok (.getfield 28, 3) := by decide +kernel
theorem dX12_drawn_151 : decode cX12_drawn 151 = .ok (.iload_n 1, 1) := by decide +kernel
theorem dX12_drawn_152 : decode cX12_drawn 152 = .ok (.aload_n 0, 1) := by decide +kernel
theorem dX12_drawn_153 : decode cX12_drawn 153 = .ok (.getfield 28, 3) := by decide +kernel
theorem dX12_drawn_156 : decode cX12_drawn 156 = .ok (.iload_n 1, 1) := by decide +kernel
theorem dX12_drawn_157 : decode cX12_drawn 157 = .ok (.invokestatic 197, 3) := by decide +kernel
theorem dX12_drawn_160 : decode cX12_drawn 160 = .ok (.invokevirtual 204, 3) := by decide +kernel
theorem dX12_drawn_163 : decode cX12_drawn 163 = .ok (.ireturn, 1) := by decide +kernel
set_option maxRecDepth 20000 in
set_option maxHeartbeats 4000000 in
theorem L_X12_drawn_68 (K : xK) (L : xL) : ∀ (n : Nat) (a0 : Nat) (a1 : Int32) (a2 : Int32) (a4 : Int32) (a5 : Int32) (a6 : Int64) (a8 : Int32) (h : xH), Sim K L cX12_drawn RX12 "drawn" 10 2 (fun q : Int64 × Int32 × xH => q.2.2) (fun q pc' ls' st' h' => pc' = 128 ∧ ls' = [(0, .ref a0), (1, .int a1), (2, .int a2), (4, .int a4), (5, .int a5), (6, .long q.1), (8, .int q.2.1)] ∧ st' = [] ∧ h' = q.2.2) 68 [(0, .ref a0), (1, .int a1), (2, .int a2), (4, .int a4), (5, .int a5), (6, .long a6), (8, .int a8)] [] h (f_X12_drawn_L68 n a0 a1 a2 a4 a5 a6 a8 h) := by
  intro n
  induction n with
  | zero =>
    intro a0 a1 a2 a4 a5 a6 a8 h
    exact Sim.none
  | succ n ih =>
    intro a0 a1 a2 a4 a5 a6 a8 h
    unfold f_X12_drawn_L68
    refine S_iload (pc := 68) 6 rfl dX12_drawn_68 ?_
    refine S_iload_n (pc := 70) 2 rfl dX12_drawn_70 rfl ?_
    refine S_icmp_ge (pc := 71) (tgt := 128) dX12_drawn_71 (by decide) ?_ ?_
    · refine S_sub [0, 1, 2, 3, 4, 5, 6] rfl ?_
      exact Sim.fin ⟨rfl, rfl, rfl, rfl⟩ rfl
    · refine S_iload (pc := 74) 4 rfl dX12_drawn_74 ?_
      refine S_if_le (pc := 76) (tgt := 128) dX12_drawn_76 (by decide) ?_ ?_
      · refine S_sub [0, 1, 2, 3, 4, 5, 6] rfl ?_
        exact Sim.fin ⟨rfl, rfl, rfl, rfl⟩ rfl
      · refine S_lload (pc := 79) 5 rfl dX12_drawn_79 ?_
        refine S_ldc2 (pc := 81) wd_1160 dX12_drawn_81 ?_
        refine S_lmul (pc := 84) dX12_drawn_84 ?_
        refine S_ldc2 (pc := 85) wd_1150 dX12_drawn_85 ?_
        refine S_lrem (pc := 88) (by decide) dX12_drawn_88 ?_
        refine S_lstore (pc := 89) dX12_drawn_89 (Nat.le_of_ble_eq_true rfl) rfl ?_
        refine S_lload (pc := 91) 0 rfl dX12_drawn_91 ?_
        refine S_iload (pc := 93) 5 rfl dX12_drawn_93 ?_
        refine S_i2l (pc := 95) dX12_drawn_95 ?_
        refine Sim.ite (fun _ => Sim.none) (fun hz9 => ?_)
        refine S_lrem (pc := 96) hz9 dX12_drawn_96 ?_
        refine S_l2i (pc := 97) dX12_drawn_97 ?_
        refine S_istore (pc := 98) dX12_drawn_98 (Nat.le_of_ble_eq_true rfl) rfl ?_
        refine S_aload_n (pc := 100) 2 rfl dX12_drawn_100 rfl ?_
        refine S_getR (pc := 101) fd_X12_tried wd_822 dX12_drawn_101 (fun v10 => ?_)
        refine S_iload_n (pc := 104) 3 rfl dX12_drawn_104 rfl ?_
        refine S_iload (pc := 105) 0 rfl dX12_drawn_105 ?_
        refine S_iconst (pc := 107) dX12_drawn_107 ic_1 ?_
        refine S_aload_n (pc := 108) 2 rfl dX12_drawn_108 rfl ?_
        refine S_getR (pc := 109) fd_X12_tried wd_822 dX12_drawn_109 (fun v11 => ?_)
        refine S_iload_n (pc := 112) 3 rfl dX12_drawn_112 rfl ?_
        refine S_iload (pc := 113) 0 rfl dX12_drawn_113 ?_
        refine S_call_i (pc := 115) (rest := [.int (1 : Int32), .int ((((a6 * (16807 : Int64)) - (a6 * (16807 : Int64)) / (2147483647 : Int64) * (2147483647 : Int64)) - ((a6 * (16807 : Int64)) - (a6 * (16807 : Int64)) / (2147483647 : Int64) * (2147483647 : Int64)) / a5.toInt64 * a5.toInt64).toInt32), .int a1, .ref v10]) (fun q hq => R_S (av := [.ref v11, .int a1, .int ((((a6 * (16807 : Int64)) - (a6 * (16807 : Int64)) / (2147483647 : Int64) * (2147483647 : Int64)) - ((a6 * (16807 : Int64)) - (a6 * (16807 : Int64)) / (2147483647 : Int64) * (2147483647 : Int64)) / a5.toInt64 * a5.toInt64).toInt32)]) (M_X12_bit _ v11 a1 ((((a6 * (16807 : Int64)) - (a6 * (16807 : Int64)) / (2147483647 : Int64) * (2147483647 : Int64)) - ((a6 * (16807 : Int64)) - (a6 * (16807 : Int64)) / (2147483647 : Int64) * (2147483647 : Int64)) / a5.toInt64 * a5.toInt64).toInt32) h hq) wd_1018 wd_1016 wd_1017 wd_50 hd_X12_bit ⟨Nat.le_of_ble_eq_true rfl, Nat.le_of_ble_eq_true rfl⟩ rfl (Nat.le_of_ble_eq_true rfl) dX12_drawn_115) (fun _ h => List.mem_cons_of_mem _ (List.mem_cons_of_mem _ (List.mem_cons_of_mem _ (h)))) (fun q12 => ?_)
        refine S_isub (pc := 118) dX12_drawn_118 ?_
        refine S_call_v (pc := 119) (rest := []) (fun q hq => R_S (av := [.ref v10, .int a1, .int ((((a6 * (16807 : Int64)) - (a6 * (16807 : Int64)) / (2147483647 : Int64) * (2147483647 : Int64)) - ((a6 * (16807 : Int64)) - (a6 * (16807 : Int64)) / (2147483647 : Int64) * (2147483647 : Int64)) / a5.toInt64 * a5.toInt64).toInt32), .int ((1 : Int32) - q12.1)]) (M_X12_puts _ v10 a1 ((((a6 * (16807 : Int64)) - (a6 * (16807 : Int64)) / (2147483647 : Int64) * (2147483647 : Int64)) - ((a6 * (16807 : Int64)) - (a6 * (16807 : Int64)) / (2147483647 : Int64) * (2147483647 : Int64)) / a5.toInt64 * a5.toInt64).toInt32) ((1 : Int32) - q12.1) q12.2 hq) wd_996 wd_994 wd_995 wd_50 hd_X12_puts ⟨Nat.le_of_ble_eq_true rfl, Nat.le_of_ble_eq_true rfl⟩ rfl (Nat.le_of_ble_eq_true rfl) dX12_drawn_119) (fun _ h => absurd h List.not_mem_nil) (fun q13 => ?_)
        refine S_iinc (pc := 122) (v := a8 + (1 : Int32)) 7 rfl dX12_drawn_122 (x_inc ic_1) (Nat.le_of_ble_eq_true rfl) rfl ?_
        refine S_goto (pc := 125) (tgt := 68) dX12_drawn_125 (by decide) ?_
        refine S_sub [3, 4, 5, 6, 7, 2, 0] rfl ?_
        exact ih a0 a1 a2 a4 a5 ((a6 * (16807 : Int64)) - (a6 * (16807 : Int64)) / (2147483647 : Int64) * (2147483647 : Int64)) (a8 + (1 : Int32)) q13
set_option maxRecDepth 20000 in
set_option maxHeartbeats 4000000 in
theorem W_X12_drawn (K : xK) (L : xL) (a0 : Nat) (a1 : Int32) (a2 : Int32) (a3 : Int32) (a4 : Int32) (h : xH) : Sim K L cX12_drawn RX12 "drawn" 10 2 (fun q : Int32 × xH => q.2) (xRi cX12_drawn) 0 [(0, .ref a0), (1, .int a1), (2, .int a2), (3, .int a3), (4, .int a4)] [] h (f_X12_drawn a0 a1 a2 a3 a4 h) := by
  unfold f_X12_drawn
  refine S_iload_n (pc := 0) 1 rfl dX12_drawn_0 rfl ?_
  refine S_call_i (pc := 1) (rest := []) (fun q hq => R_S (av := [.int a1]) (M_X12_isVector _ a1 h hq) wd_947 wd_945 wd_946 wd_50 hd_X12_isVector ⟨Nat.le_of_ble_eq_true rfl, Nat.le_of_ble_eq_true rfl⟩ rfl (Nat.le_of_ble_eq_true rfl) dX12_drawn_1) (fun _ h => absurd h List.not_mem_nil) (fun q1 => ?_)
  refine S_if_eq (pc := 4) (tgt := 38) dX12_drawn_4 (by decide) ?_ ?_
  · refine S_ldc (pc := 38) wd_903 dX12_drawn_38 ?_
    exact Sim.fin ⟨dX12_drawn_40, rfl, rfl⟩ rfl
  · refine S_iload_n (pc := 7) 2 rfl dX12_drawn_7 rfl ?_
    refine S_iconst (pc := 8) dX12_drawn_8 ic_0 ?_
    refine S_sipush (pc := 9) dX12_drawn_9 si_200 ?_
    refine S_call_i (pc := 12) (rest := []) (fun q hq => R_S (av := [.int a2, .int (0 : Int32), .int (200 : Int32)]) (M_X12_in _ a2 (0 : Int32) (200 : Int32) q1.2 hq) wd_902 wd_900 wd_901 wd_50 hd_X12_in ⟨Nat.le_of_ble_eq_true rfl, Nat.le_of_ble_eq_true rfl⟩ rfl (Nat.le_of_ble_eq_true rfl) dX12_drawn_12) (fun _ h => absurd h List.not_mem_nil) (fun q2 => ?_)
    refine S_if_eq (pc := 15) (tgt := 38) dX12_drawn_15 (by decide) ?_ ?_
    · refine S_ldc (pc := 38) wd_903 dX12_drawn_38 ?_
      exact Sim.fin ⟨dX12_drawn_40, rfl, rfl⟩ rfl
    · refine S_iload_n (pc := 18) 3 rfl dX12_drawn_18 rfl ?_
      refine S_iconst (pc := 19) dX12_drawn_19 ic_1 ?_
      refine S_ldc (pc := 20) wd_1159 dX12_drawn_20 ?_
      refine S_call_i (pc := 22) (rest := []) (fun q hq => R_S (av := [.int a3, .int (1 : Int32), .int (999999 : Int32)]) (M_X12_in _ a3 (1 : Int32) (999999 : Int32) q2.2 hq) wd_902 wd_900 wd_901 wd_50 hd_X12_in ⟨Nat.le_of_ble_eq_true rfl, Nat.le_of_ble_eq_true rfl⟩ rfl (Nat.le_of_ble_eq_true rfl) dX12_drawn_22) (fun _ h => absurd h List.not_mem_nil) (fun q3 => ?_)
      refine S_if_eq (pc := 25) (tgt := 38) dX12_drawn_25 (by decide) ?_ ?_
      · refine S_ldc (pc := 38) wd_903 dX12_drawn_38 ?_
        exact Sim.fin ⟨dX12_drawn_40, rfl, rfl⟩ rfl
      · refine S_iload (pc := 28) 4 rfl dX12_drawn_28 ?_
        refine S_iconst (pc := 30) dX12_drawn_30 ic_0 ?_
        refine S_iconst (pc := 31) dX12_drawn_31 ic_1 ?_
        refine S_call_i (pc := 32) (rest := []) (fun q hq => R_S (av := [.int a4, .int (0 : Int32), .int (1 : Int32)]) (M_X12_in _ a4 (0 : Int32) (1 : Int32) q3.2 hq) wd_902 wd_900 wd_901 wd_50 hd_X12_in ⟨Nat.le_of_ble_eq_true rfl, Nat.le_of_ble_eq_true rfl⟩ rfl (Nat.le_of_ble_eq_true rfl) dX12_drawn_32) (fun _ h => absurd h List.not_mem_nil) (fun q4 => ?_)
        refine S_if_ne (pc := 35) (tgt := 41) dX12_drawn_35 (by decide) ?_ ?_
        · refine S_ldc (pc := 38) wd_903 dX12_drawn_38 ?_
          exact Sim.fin ⟨dX12_drawn_40, rfl, rfl⟩ rfl
        · refine S_aload_n (pc := 41) 0 rfl dX12_drawn_41 rfl ?_
          refine S_getR (pc := 42) fd_X12_now wd_821 dX12_drawn_42 (fun v5 => ?_)
          refine S_iconst (pc := 45) dX12_drawn_45 ic_0 ?_
          refine S_aload_n (pc := 46) 0 rfl dX12_drawn_46 rfl ?_
          refine S_getR (pc := 47) fd_X12_tried wd_822 dX12_drawn_47 (fun v6 => ?_)
          refine S_iconst (pc := 50) dX12_drawn_50 ic_0 ?_
          refine S_call_v (pc := 51) (rest := []) (fun q hq => R_S (av := [.ref v5, .int (0 : Int32), .ref v6, .int (0 : Int32)]) (M_X12_copies _ v5 (0 : Int32) v6 (0 : Int32) q4.2 hq) wd_982 wd_980 wd_981 wd_50 hd_X12_copies ⟨Nat.le_of_ble_eq_true rfl, Nat.le_of_ble_eq_true rfl⟩ rfl (Nat.le_of_ble_eq_true rfl) dX12_drawn_51) (fun _ h => absurd h List.not_mem_nil) (fun q7 => ?_)
          refine S_aload_n (pc := 54) 0 rfl dX12_drawn_54 rfl ?_
          refine S_iload_n (pc := 55) 1 rfl dX12_drawn_55 rfl ?_
          refine S_call_i (pc := 56) (rest := []) (fun q hq => (x_if hq).elim (fun z => R_V (av := [.int a1]) (q := (RX12, TX12, 28)) (M_X12_bitsOf _ a0 a1 q7 z.2) z.1 rfl wd_1012 wd_1009 wd_1011 wd_50 wd_28 ⟨rfl, hd_X12_bitsOf⟩ ⟨Nat.le_of_ble_eq_true rfl, Nat.le_of_ble_eq_true rfl⟩ rfl (Nat.le_of_ble_eq_true rfl) dX12_drawn_56) (fun hq => (by cases hq))) (fun _ h => absurd h List.not_mem_nil) (fun q8 => ?_)
          refine S_istore (pc := 59) dX12_drawn_59 (Nat.le_of_ble_eq_true rfl) rfl ?_
          refine S_iload_n (pc := 61) 4 rfl dX12_drawn_61 rfl ?_
          refine S_i2l (pc := 62) dX12_drawn_62 ?_
          refine S_lstore (pc := 63) dX12_drawn_63 (Nat.le_of_ble_eq_true rfl) rfl ?_
          refine S_iconst (pc := 65) dX12_drawn_65 ic_0 ?_
          refine S_istore (pc := 66) dX12_drawn_66 (Nat.le_of_ble_eq_true rfl) rfl ?_
          refine S_sub [3, 4, 5, 7, 2, 1, 0] rfl ?_
          refine Sim.bind (hs := fun q14 : Int64 × Int32 × xH => q14.2.2) (px := 128) (lsx := fun q14 => [(0, .ref a0), (1, .int a1), (2, .int a2), (4, .int a4), (5, .int q8.1), (6, .long q14.1), (8, .int q14.2.1)]) (L_X12_drawn_68 K L xN a0 a1 a2 a4 q8.1 a3.toInt64 (0 : Int32) q8.2) (fun q14 => ?_)
          refine S_iload (pc := 128) 3 rfl dX12_drawn_128 ?_
          refine S_if_ne (pc := 130) (tgt := 146) dX12_drawn_130 (by decide) ?_ ?_
          · refine S_aload_n (pc := 133) 0 rfl dX12_drawn_133 rfl ?_
            refine S_getR (pc := 134) fd_X12_tried wd_822 dX12_drawn_134 (fun v15 => ?_)
            refine S_iload_n (pc := 137) 1 rfl dX12_drawn_137 rfl ?_
            refine S_iload (pc := 138) 4 rfl dX12_drawn_138 ?_
            refine S_call_i (pc := 140) (rest := []) (fun q hq => R_S (av := [.ref v15, .int a1, .int q8.1]) (M_X12_onesAhead _ v15 a1 q8.1 q14.2.2 hq) wd_1037 wd_1035 wd_1036 wd_50 hd_X12_onesAhead ⟨Nat.le_of_ble_eq_true rfl, Nat.le_of_ble_eq_true rfl⟩ rfl (Nat.le_of_ble_eq_true rfl) dX12_drawn_140) (fun _ h => absurd h List.not_mem_nil) (fun q16 => ?_)
            refine S_goto (pc := 143) (tgt := 163) dX12_drawn_143 (by decide) ?_
            exact Sim.fin ⟨dX12_drawn_163, rfl, rfl⟩ rfl
          · refine S_aload_n (pc := 146) 0 rfl dX12_drawn_146 rfl ?_
            refine S_aload_n (pc := 147) 0 rfl dX12_drawn_147 rfl ?_
            refine S_getR (pc := 148) fd_X12_tried wd_822 dX12_drawn_148 (fun v17 => ?_)
            refine S_iload_n (pc := 151) 1 rfl dX12_drawn_151 rfl ?_
            refine S_aload_n (pc := 152) 0 rfl dX12_drawn_152 rfl ?_
            refine S_getR (pc := 153) fd_X12_tried wd_822 dX12_drawn_153 (fun v18 => ?_)
            refine S_iload_n (pc := 156) 1 rfl dX12_drawn_156 rfl ?_
            refine S_call_i (pc := 157) (rest := [.int a1, .ref v17, .ref a0]) (fun q hq => R_S (av := [.ref v18, .int a1]) (M_X12_blocks _ v18 a1 q14.2.2 hq) wd_1069 wd_1067 wd_1068 wd_50 hd_X12_blocks ⟨Nat.le_of_ble_eq_true rfl, Nat.le_of_ble_eq_true rfl⟩ rfl (Nat.le_of_ble_eq_true rfl) dX12_drawn_157) (fun _ h => List.mem_cons_of_mem _ (List.mem_cons_of_mem _ (h))) (fun q19 => ?_)
            refine S_call_i (pc := 160) (rest := []) (fun q hq => (x_if hq).elim (fun z => R_V (av := [.ref v17, .int a1, .int q19.1]) (q := (RX12, TX12, 28)) (M_X12_begins _ a0 v17 a1 q19.1 q19.2 z.2) z.1 rfl wd_1084 wd_1081 wd_1083 wd_50 wd_32 ⟨rfl, hd_X12_begins⟩ ⟨Nat.le_of_ble_eq_true rfl, Nat.le_of_ble_eq_true rfl⟩ rfl (Nat.le_of_ble_eq_true rfl) dX12_drawn_160) (fun hq => (by cases hq))) (fun _ h => absurd h List.not_mem_nil) (fun q20 => ?_)
            exact Sim.fin ⟨dX12_drawn_163, rfl, rfl⟩ rfl
theorem M_X12_drawn (l : Launch) (a0 : Nat) (a1 : Int32) (a2 : Int32) (a3 : Int32) (a4 : Int32) (h : xH) {q : Int32 × xH} (hq : f_X12_drawn a0 a1 a2 a3 a4 h = some q) : xM l yX12_drawn cX12_drawn 10 (some .int) 2 [.ref a0, .int a1, .int a2, .int a3, .int a4] h (some (.int q.1)) q.2 := xM_i (by decide +kernel) (Nat.le_of_ble_eq_true rfl) (fun K L => W_X12_drawn K L a0 a1 a2 a3 a4 h) hq
theorem dX12_drop_0 : decode cX12_drop 0 = .ok (.iload_n 1, 1) := by decide +kernel
theorem dX12_drop_1 : decode cX12_drop 1 = .ok (.invokestatic 69, 3) := by decide +kernel
theorem dX12_drop_4 : decode cX12_drop 4 = .ok (.ifCond .ne 6, 3) := by decide +kernel
theorem dX12_drop_7 : decode cX12_drop 7 = .ok (.ldc 73, 2) := by decide +kernel
theorem dX12_drop_9 : decode cX12_drop 9 = .ok (.ireturn, 1) := by decide +kernel
theorem dX12_drop_10 : decode cX12_drop 10 = .ok (.aload_n 0, 1) := by decide +kernel
theorem dX12_drop_11 : decode cX12_drop 11 = .ok (.iload_n 1, 1) := by decide +kernel
theorem dX12_drop_12 : decode cX12_drop 12 = .ok (.invokevirtual 81, 3) := by decide +kernel
theorem dX12_drop_15 : decode cX12_drop 15 = .ok (.ifCond .eq 9, 3) := by decide +kernel
theorem dX12_drop_18 : decode cX12_drop 18 = .ok (.aload_n 0, 1) := by decide +kernel
theorem dX12_drop_19 : decode cX12_drop 19 = .ok (.iconst 1, 1) := by decide +kernel
theorem dX12_drop_20 : decode cX12_drop 20 = .ok (.invokevirtual 74, 3) := by decide +kernel
theorem dX12_drop_23 : decode cX12_drop 23 = .ok (.ireturn, 1) := by decide +kernel
theorem dX12_drop_24 : decode cX12_drop 24 = .ok (.aload_n 0, 1) := by decide +kernel
theorem dX12_drop_25 : decode cX12_drop 25 = .ok (.getfield 7, 3) := by decide +kernel
theorem dX12_drop_28 : decode cX12_drop 28 = .ok (.iload_n 1, 1) := by decide +kernel
theorem dX12_drop_29 : decode cX12_drop 29 = .ok (.ldc 59, 2) := by decide +kernel
theorem dX12_drop_31 : decode cX12_drop 31 = .ok (.iastore, 1) := by decide +kernel
theorem dX12_drop_32 : decode cX12_drop 32 = .ok (.aload_n 0, 1) := by decide +kernel
theorem dX12_drop_33 : decode cX12_drop 33 = .ok (.aload_n 0, 1) := by decide +kernel
theorem dX12_drop_34 : decode cX12_drop 34 = .ok (.getfield 13, 3) := by decide +kernel
theorem dX12_drop_37 : decode cX12_drop 37 = .ok (.iload_n 1, 1) := by decide +kernel
theorem dX12_drop_38 : decode cX12_drop 38 = .ok (.iaload, 1) := by decide +kernel
theorem dX12_drop_39 : decode cX12_drop 39 = .ok (.invokevirtual 78, 3) := by decide +kernel
theorem dX12_drop_42 : decode cX12_drop 42 = .ok (.ireturn, 1) := by decide +kernel
set_option maxRecDepth 20000 in
set_option maxHeartbeats 4000000 in
theorem W_X12_drop (K : xK) (L : xL) (a0 : Nat) (a1 : Int32) (h : xH) : Sim K L cX12_drop RX12 "drop" 2 2 (fun q : Int32 × xH => q.2) (xRi cX12_drop) 0 [(0, .ref a0), (1, .int a1)] [] h (f_X12_drop a0 a1 h) := by
  unfold f_X12_drop
  refine S_iload_n (pc := 0) 1 rfl dX12_drop_0 rfl ?_
  refine S_call_i (pc := 1) (rest := []) (fun q hq => R_S (av := [.int a1]) (M_X12_isRow _ a1 h hq) wd_899 wd_897 wd_898 wd_50 hd_X12_isRow ⟨Nat.le_of_ble_eq_true rfl, Nat.le_of_ble_eq_true rfl⟩ rfl (Nat.le_of_ble_eq_true rfl) dX12_drop_1) (fun _ h => absurd h List.not_mem_nil) (fun q1 => ?_)
  refine S_if_ne (pc := 4) (tgt := 10) dX12_drop_4 (by decide) ?_ ?_
  · refine S_ldc (pc := 7) wd_903 dX12_drop_7 ?_
    exact Sim.fin ⟨dX12_drop_9, rfl, rfl⟩ rfl
  · refine S_aload_n (pc := 10) 0 rfl dX12_drop_10 rfl ?_
    refine S_iload_n (pc := 11) 1 rfl dX12_drop_11 rfl ?_
    refine S_call_i (pc := 12) (rest := []) (fun q hq => (x_if hq).elim (fun z => R_V (av := [.int a1]) (q := (RX12, TX12, 28)) (M_X12_isMissing _ a0 a1 q1.2 z.2) z.1 rfl wd_920 wd_917 wd_919 wd_50 wd_16 ⟨rfl, hd_X12_isMissing⟩ ⟨Nat.le_of_ble_eq_true rfl, Nat.le_of_ble_eq_true rfl⟩ rfl (Nat.le_of_ble_eq_true rfl) dX12_drop_12) (fun hq => (by cases hq))) (fun _ h => absurd h List.not_mem_nil) (fun q2 => ?_)
    refine S_if_eq (pc := 15) (tgt := 24) dX12_drop_15 (by decide) ?_ ?_
    · refine S_aload_n (pc := 24) 0 rfl dX12_drop_24 rfl ?_
      refine S_getR (pc := 25) fd_X12_lane wd_808 dX12_drop_25 (fun v3 => ?_)
      refine S_iload_n (pc := 28) 1 rfl dX12_drop_28 rfl ?_
      refine S_ldc (pc := 29) wd_807 dX12_drop_29 ?_
      refine S_uI (pc := 31) dX12_drop_31 (fun h4 => ?_)
      refine S_aload_n (pc := 32) 0 rfl dX12_drop_32 rfl ?_
      refine S_aload_n (pc := 33) 0 rfl dX12_drop_33 rfl ?_
      refine S_getR (pc := 34) fd_X12_many wd_809 dX12_drop_34 (fun v5 => ?_)
      refine S_iload_n (pc := 37) 1 rfl dX12_drop_37 rfl ?_
      refine S_aI (pc := 38) dX12_drop_38 (fun v6 => ?_)
      refine S_call_i (pc := 39) (rest := []) (fun q hq => (x_if hq).elim (fun z => R_V (av := [.int v6]) (q := (RX12, TX12, 28)) (M_X12_well _ a0 v6 h4 z.2) z.1 rfl wd_912 wd_909 wd_911 wd_50 wd_15 ⟨rfl, hd_X12_well⟩ ⟨Nat.le_of_ble_eq_true rfl, Nat.le_of_ble_eq_true rfl⟩ rfl (Nat.le_of_ble_eq_true rfl) dX12_drop_39) (fun hq => (by cases hq))) (fun _ h => absurd h List.not_mem_nil) (fun q7 => ?_)
      exact Sim.fin ⟨dX12_drop_42, rfl, rfl⟩ rfl
    · refine S_aload_n (pc := 18) 0 rfl dX12_drop_18 rfl ?_
      refine S_iconst (pc := 19) dX12_drop_19 ic_1 ?_
      refine S_call_i (pc := 20) (rest := []) (fun q hq => (x_if hq).elim (fun z => R_V (av := [.int (1 : Int32)]) (q := (RX12, TX12, 28)) (M_X12_found _ a0 (1 : Int32) q2.2 z.2) z.1 rfl wd_907 wd_904 wd_906 wd_50 wd_14 ⟨rfl, hd_X12_found⟩ ⟨Nat.le_of_ble_eq_true rfl, Nat.le_of_ble_eq_true rfl⟩ rfl (Nat.le_of_ble_eq_true rfl) dX12_drop_20) (fun hq => (by cases hq))) (fun _ h => absurd h List.not_mem_nil) (fun q8 => ?_)
      exact Sim.fin ⟨dX12_drop_23, rfl, rfl⟩ rfl
theorem M_X12_drop (l : Launch) (a0 : Nat) (a1 : Int32) (h : xH) {q : Int32 × xH} (hq : f_X12_drop a0 a1 h = some q) : xM l yX12_drop cX12_drop 2 (some .int) 2 [.ref a0, .int a1] h (some (.int q.1)) q.2 := xM_i (by decide +kernel) (Nat.le_of_ble_eq_true rfl) (fun K L => W_X12_drop K L a0 a1 h) hq
theorem dX12_empties_0 : decode cX12_empties 0 = .ok (.iconst 0, 1) := by decide +kernel
theorem dX12_empties_1 : decode cX12_empties 1 = .ok (.istore_n 3, 1) := by decide +kernel
theorem dX12_empties_2 : decode cX12_empties 2 = .ok (.iload_n 3, 1) := by decide +kernel
theorem dX12_empties_3 : decode cX12_empties 3 = .ok (.bipush 33, 2) := by decide +kernel
theorem dX12_empties_5 : decode cX12_empties 5 = .ok (.if_icmp .ge 21, 3) := by decide +kernel
theorem dX12_empties_8 : decode cX12_empties 8 = .ok (.aload_n 0, 1) := by decide +kernel
theorem dX12_empties_9 : decode cX12_empties 9 = .ok (.getfield 25, 3) := by decide +kernel
theorem dX12_empties_12 : decode cX12_empties 12 = .ok (.bipush 33, 2) := by decide +kernel
theorem dX12_empties_14 : decode cX12_empties 14 = .ok (.iload_n 1, 1) := by decide +kernel
theorem dX12_empties_15 : decode cX12_empties 15 = .ok (.imul, 1) := by decide +kernel
theorem dX12_empties_16 : decode cX12_empties 16 = .ok (.iload_n 3, 1) := by decide +kernel
theorem dX12_empties_17 : decode cX12_empties 17 = .ok (.iadd, 1) := by decide +kernel
theorem dX12_empties_18 : decode cX12_empties 18 = .ok (.iconst 0, 1) := by decide +kernel
theorem dX12_empties_19 : decode cX12_empties 19 = .ok (.iastore, 1) := by decide +kernel
theorem dX12_empties_20 : decode cX12_empties 20 = .ok (.iinc 3 1, 3) := by decide +kernel
theorem dX12_empties_23 : decode cX12_empties 23 = .ok (.goto (-21), 3) := by decide +kernel
theorem dX12_empties_26 : decode cX12_empties 26 = .ok (.aload_n 0, 1) := by decide +kernel
theorem dX12_empties_27 : decode cX12_empties 27 = .ok (.getfield 25, 3) := by decide +kernel
theorem dX12_empties_30 : decode cX12_empties 30 = .ok (.bipush 33, 2) := by decide +kernel
theorem dX12_empties_32 : decode cX12_empties 32 = .ok (.iload_n 1, 1) := by decide +kernel
theorem dX12_empties_33 : decode cX12_empties 33 = .ok (.imul, 1) := by decide +kernel
theorem dX12_empties_34 : decode cX12_empties 34 = .ok (.iload_n 2, 1) := by decide +kernel
theorem dX12_empties_35 : decode cX12_empties 35 = .ok (.iastore, 1) := by decide +kernel
theorem dX12_empties_36 : decode cX12_empties 36 = .ok (.return_, 1) := by decide +kernel
set_option maxRecDepth 20000 in
set_option maxHeartbeats 4000000 in
theorem L_X12_empties_2 (K : xK) (L : xL) : ∀ (n : Nat) (a0 : Nat) (a1 : Int32) (a2 : Int32) (a3 : Int32) (h : xH), Sim K L cX12_empties RX12 "empties" 4 0 (fun q : Int32 × xH => q.2) (fun q pc' ls' st' h' => pc' = 26 ∧ ls' = [(0, .ref a0), (1, .int a1), (2, .int a2), (3, .int q.1)] ∧ st' = [] ∧ h' = q.2) 2 [(0, .ref a0), (1, .int a1), (2, .int a2), (3, .int a3)] [] h (f_X12_empties_L2 n a0 a1 a2 a3 h) := by
  intro n
  induction n with
  | zero =>
    intro a0 a1 a2 a3 h
    exact Sim.none
  | succ n ih =>
    intro a0 a1 a2 a3 h
    unfold f_X12_empties_L2
    refine S_iload_n (pc := 2) 3 rfl dX12_empties_2 rfl ?_
    refine S_bipush (pc := 3) dX12_empties_3 bi_33 ?_
    refine S_icmp_ge (pc := 5) (tgt := 26) dX12_empties_5 (by decide) ?_ ?_
    · refine S_sub [0, 1, 2, 3] rfl ?_
      exact Sim.fin ⟨rfl, rfl, rfl, rfl⟩ rfl
    · refine S_aload_n (pc := 8) 0 rfl dX12_empties_8 rfl ?_
      refine S_getR (pc := 9) fd_X12_now wd_821 dX12_empties_9 (fun v1 => ?_)
      refine S_bipush (pc := 12) dX12_empties_12 bi_33 ?_
      refine S_iload_n (pc := 14) 1 rfl dX12_empties_14 rfl ?_
      refine S_imul (pc := 15) dX12_empties_15 ?_
      refine S_iload_n (pc := 16) 3 rfl dX12_empties_16 rfl ?_
      refine S_iadd (pc := 17) dX12_empties_17 ?_
      refine S_iconst (pc := 18) dX12_empties_18 ic_0 ?_
      refine S_uI (pc := 19) dX12_empties_19 (fun h2 => ?_)
      refine S_iinc (pc := 20) (v := a3 + (1 : Int32)) 3 rfl dX12_empties_20 (x_inc ic_1) (Nat.le_of_ble_eq_true rfl) rfl ?_
      refine S_goto (pc := 23) (tgt := 2) dX12_empties_23 (by decide) ?_
      refine S_sub [1, 2, 3, 0] rfl ?_
      exact ih a0 a1 a2 (a3 + (1 : Int32)) h2
set_option maxRecDepth 20000 in
set_option maxHeartbeats 4000000 in
theorem W_X12_empties (K : xK) (L : xL) (a0 : Nat) (a1 : Int32) (a2 : Int32) (h : xH) : Sim K L cX12_empties RX12 "empties" 4 0 (fun q : xH => q) (xRv cX12_empties) 0 [(0, .ref a0), (1, .int a1), (2, .int a2)] [] h (f_X12_empties a0 a1 a2 h) := by
  unfold f_X12_empties
  refine S_iconst (pc := 0) dX12_empties_0 ic_0 ?_
  refine S_istore_n (pc := 1) dX12_empties_1 rfl (Nat.le_of_ble_eq_true rfl) rfl ?_
  refine S_sub [1, 2, 3, 0] rfl ?_
  refine Sim.bind (hs := fun q3 : Int32 × xH => q3.2) (px := 26) (lsx := fun q3 => [(0, .ref a0), (1, .int a1), (2, .int a2), (3, .int q3.1)]) (L_X12_empties_2 K L xN a0 a1 a2 (0 : Int32) h) (fun q3 => ?_)
  refine S_aload_n (pc := 26) 0 rfl dX12_empties_26 rfl ?_
  refine S_getR (pc := 27) fd_X12_now wd_821 dX12_empties_27 (fun v4 => ?_)
  refine S_bipush (pc := 30) dX12_empties_30 bi_33 ?_
  refine S_iload_n (pc := 32) 1 rfl dX12_empties_32 rfl ?_
  refine S_imul (pc := 33) dX12_empties_33 ?_
  refine S_iload_n (pc := 34) 2 rfl dX12_empties_34 rfl ?_
  refine S_uI (pc := 35) dX12_empties_35 (fun h5 => ?_)
  exact Sim.fin ⟨dX12_empties_36, rfl, rfl⟩ rfl
theorem M_X12_empties (l : Launch) (a0 : Nat) (a1 : Int32) (a2 : Int32) (h : xH) {q : xH} (hq : f_X12_empties a0 a1 a2 h = some q) : xM l yX12_empties cX12_empties 4 none 0 [.ref a0, .int a1, .int a2] h none q := xM_v (by decide +kernel) (Nat.le_of_ble_eq_true rfl) (fun K L => W_X12_empties K L a0 a1 a2 h) hq
theorem dX12_entry_0 : decode cX12_entry 0 = .ok (.iload_n 1, 1) := by decide +kernel
theorem dX12_entry_1 : decode cX12_entry 1 = .ok (.invokestatic 130, 3) := by decide +kernel
theorem dX12_entry_4 : decode cX12_entry 4 = .ok (.ifCond .eq 36, 3) := by decide +kernel
theorem dX12_entry_7 : decode cX12_entry 7 = .ok (.iload_n 2, 1) := by decide +kernel
theorem dX12_entry_8 : decode cX12_entry 8 = .ok (.iconst 0, 1) := by decide +kernel
theorem dX12_entry_9 : decode cX12_entry 9 = .ok (.bipush 8, 2) := by decide +kernel
theorem dX12_entry_11 : decode cX12_entry 11 = .ok (.invokestatic 65, 3) := by decide +kernel
theorem dX12_entry_14 : decode cX12_entry 14 = .ok (.ifCond .eq 26, 3) := by decide +kernel
theorem dX12_entry_17 : decode cX12_entry 17 = .ok (.iconst 4, 1) := by decide +kernel
theorem dX12_entry_18 : decode cX12_entry 18 = .ok (.iload_n 2, 1) := by decide +kernel
theorem dX12_entry_19 : decode cX12_entry 19 = .ok (.imul, 1) := by decide +kernel
theorem dX12_entry_20 : decode cX12_entry 20 = .ok (.aload_n 0, 1) := by decide +kernel
theorem dX12_entry_21 : decode cX12_entry 21 = .ok (.getfield 25, 3) := by decide +kernel
theorem dX12_entry_24 : decode cX12_entry 24 = .ok (.iload_n 1, 1) := by decide +kernel
theorem dX12_entry_25 : decode cX12_entry 25 = .ok (.invokestatic 197, 3) := by decide +kernel
theorem dX12_entry_28 : decode cX12_entry 28 = .ok (.if_icmp .ge 12, 3) := by decide +kernel
theorem dX12_entry_31 : decode cX12_entry 31 = .ok (.iload_n 3, 1) := by decide +kernel
theorem dX12_entry_32 : decode cX12_entry 32 = .ok (.iconst 0, 1) := by decide +kernel
theorem dX12_entry_33 : decode cX12_entry 33 = .ok (.iconst 1, 1) := by decide +kernel
theorem dX12_entry_34 : decode cX12_entry 34 = .ok (.invokestatic 65, 3) := by decide +kernel
theorem dX12_entry_37 : decode cX12_entry 37 = .ok (.ifCond .ne 6, 3) := by decide +kernel
theorem dX12_entry_40 : decode cX12_entry 40 = .ok (.ldc 73, 2) := by decide +kernel
theorem dX12_entry_42 : decode cX12_entry 42 = .ok (.ireturn, 1) := by decide +kernel
theorem dX12_entry_43 : decode cX12_entry 43 = .ok (.iload_n 3, 1) := by decide +kernel
theorem dX12_entry_44 : decode cX12_entry 44 = .ok (.ifCond .ne 20, 3) := by decide +kernel
theorem dX12_entry_47 : decode cX12_entry 47 = .ok (.aload_n 0, 1) := by decide +kernel
theorem dX12_entry_48 : decode cX12_entry 48 = .ok (.getfield 25, 3) := by decide +kernel
theorem dX12_entry_51 : decode cX12_entry 51 = .ok (.iload_n 1, 1) := by decide +kernel
theorem dX12_entry_52 : decode cX12_entry 52 = .ok (.iconst 4, 1) := by decide +kernel
theorem dX12_entry_53 : decode cX12_entry 53 = .ok (.iload_n 2, 1) := by decide +kernel
theorem dX12_entry_54 : decode cX12_entry 54 = .ok (.imul, 1) := by decide +kernel
theorem dX12_entry_55 : decode cX12_entry 55 = .ok (.bipush 15, 2) := by decide +kernel
theorem dX12_entry_57 : decode cX12_entry 57 = .ok (.imul, 1) := by decide +kernel
theorem dX12_entry_58 : decode cX12_entry 58 = .ok (.invokestatic 170, 3) := by decide +kernel
theorem dX12_entry_61 : decode cX12_entry 61 = .ok (.goto 15, 3) := by decide +kernel
theorem dX12_entry_64 : decode cX12_entry 64 = .ok (.aload_n 0, 1) := by decide +kernel
theorem dX12_entry_65 : decode cX12_entry 65 = .ok (.aload_n 0, 1) := by decide +kernel
theorem dX12_entry_66 : decode cX12_entry 66 = .ok (.getfield 25, 3) := by decide +kernel
theorem dX12_entry_69 : decode cX12_entry 69 = .ok (.iload_n 1, 1) := by decide +kernel
theorem dX12_entry_70 : decode cX12_entry 70 = .ok (.iconst 4, 1) := by decide +kernel
theorem dX12_entry_71 : decode cX12_entry 71 = .ok (.iload_n 2, 1) := by decide +kernel
theorem dX12_entry_72 : decode cX12_entry 72 = .ok (.imul, 1) := by decide +kernel
theorem dX12_entry_73 : decode cX12_entry 73 = .ok (.invokevirtual 204, 3) := by decide +kernel
theorem dX12_entry_76 : decode cX12_entry 76 = .ok (.ireturn, 1) := by decide +kernel
set_option maxRecDepth 20000 in
set_option maxHeartbeats 4000000 in
theorem W_X12_entry (K : xK) (L : xL) (a0 : Nat) (a1 : Int32) (a2 : Int32) (a3 : Int32) (h : xH) : Sim K L cX12_entry RX12 "entry" 4 2 (fun q : Int32 × xH => q.2) (xRi cX12_entry) 0 [(0, .ref a0), (1, .int a1), (2, .int a2), (3, .int a3)] [] h (f_X12_entry a0 a1 a2 a3 h) := by
  unfold f_X12_entry
  refine S_iload_n (pc := 0) 1 rfl dX12_entry_0 rfl ?_
  refine S_call_i (pc := 1) (rest := []) (fun q hq => R_S (av := [.int a1]) (M_X12_isVector _ a1 h hq) wd_947 wd_945 wd_946 wd_50 hd_X12_isVector ⟨Nat.le_of_ble_eq_true rfl, Nat.le_of_ble_eq_true rfl⟩ rfl (Nat.le_of_ble_eq_true rfl) dX12_entry_1) (fun _ h => absurd h List.not_mem_nil) (fun q1 => ?_)
  refine S_if_eq (pc := 4) (tgt := 40) dX12_entry_4 (by decide) ?_ ?_
  · refine S_ldc (pc := 40) wd_903 dX12_entry_40 ?_
    exact Sim.fin ⟨dX12_entry_42, rfl, rfl⟩ rfl
  · refine S_iload_n (pc := 7) 2 rfl dX12_entry_7 rfl ?_
    refine S_iconst (pc := 8) dX12_entry_8 ic_0 ?_
    refine S_bipush (pc := 9) dX12_entry_9 bi_8 ?_
    refine S_call_i (pc := 11) (rest := []) (fun q hq => R_S (av := [.int a2, .int (0 : Int32), .int (8 : Int32)]) (M_X12_in _ a2 (0 : Int32) (8 : Int32) q1.2 hq) wd_902 wd_900 wd_901 wd_50 hd_X12_in ⟨Nat.le_of_ble_eq_true rfl, Nat.le_of_ble_eq_true rfl⟩ rfl (Nat.le_of_ble_eq_true rfl) dX12_entry_11) (fun _ h => absurd h List.not_mem_nil) (fun q2 => ?_)
    refine S_if_eq (pc := 14) (tgt := 40) dX12_entry_14 (by decide) ?_ ?_
    · refine S_ldc (pc := 40) wd_903 dX12_entry_40 ?_
      exact Sim.fin ⟨dX12_entry_42, rfl, rfl⟩ rfl
    · refine S_iconst (pc := 17) dX12_entry_17 ic_4 ?_
      refine S_iload_n (pc := 18) 2 rfl dX12_entry_18 rfl ?_
      refine S_imul (pc := 19) dX12_entry_19 ?_
      refine S_aload_n (pc := 20) 0 rfl dX12_entry_20 rfl ?_
      refine S_getR (pc := 21) fd_X12_now wd_821 dX12_entry_21 (fun v3 => ?_)
      refine S_iload_n (pc := 24) 1 rfl dX12_entry_24 rfl ?_
      refine S_call_i (pc := 25) (rest := [.int ((4 : Int32) * a2)]) (fun q hq => R_S (av := [.ref v3, .int a1]) (M_X12_blocks _ v3 a1 q2.2 hq) wd_1069 wd_1067 wd_1068 wd_50 hd_X12_blocks ⟨Nat.le_of_ble_eq_true rfl, Nat.le_of_ble_eq_true rfl⟩ rfl (Nat.le_of_ble_eq_true rfl) dX12_entry_25) (fun _ h => List.mem_cons_of_mem _ (List.mem_cons_of_mem _ (h))) (fun q4 => ?_)
      refine S_icmp_ge (pc := 28) (tgt := 40) dX12_entry_28 (by decide) ?_ ?_
      · refine S_ldc (pc := 40) wd_903 dX12_entry_40 ?_
        exact Sim.fin ⟨dX12_entry_42, rfl, rfl⟩ rfl
      · refine S_iload_n (pc := 31) 3 rfl dX12_entry_31 rfl ?_
        refine S_iconst (pc := 32) dX12_entry_32 ic_0 ?_
        refine S_iconst (pc := 33) dX12_entry_33 ic_1 ?_
        refine S_call_i (pc := 34) (rest := []) (fun q hq => R_S (av := [.int a3, .int (0 : Int32), .int (1 : Int32)]) (M_X12_in _ a3 (0 : Int32) (1 : Int32) q4.2 hq) wd_902 wd_900 wd_901 wd_50 hd_X12_in ⟨Nat.le_of_ble_eq_true rfl, Nat.le_of_ble_eq_true rfl⟩ rfl (Nat.le_of_ble_eq_true rfl) dX12_entry_34) (fun _ h => absurd h List.not_mem_nil) (fun q5 => ?_)
        refine S_if_ne (pc := 37) (tgt := 43) dX12_entry_37 (by decide) ?_ ?_
        · refine S_ldc (pc := 40) wd_903 dX12_entry_40 ?_
          exact Sim.fin ⟨dX12_entry_42, rfl, rfl⟩ rfl
        · refine S_iload_n (pc := 43) 3 rfl dX12_entry_43 rfl ?_
          refine S_if_ne (pc := 44) (tgt := 64) dX12_entry_44 (by decide) ?_ ?_
          · refine S_aload_n (pc := 47) 0 rfl dX12_entry_47 rfl ?_
            refine S_getR (pc := 48) fd_X12_now wd_821 dX12_entry_48 (fun v6 => ?_)
            refine S_iload_n (pc := 51) 1 rfl dX12_entry_51 rfl ?_
            refine S_iconst (pc := 52) dX12_entry_52 ic_4 ?_
            refine S_iload_n (pc := 53) 2 rfl dX12_entry_53 rfl ?_
            refine S_imul (pc := 54) dX12_entry_54 ?_
            refine S_bipush (pc := 55) dX12_entry_55 bi_15 ?_
            refine S_imul (pc := 57) dX12_entry_57 ?_
            refine S_call_i (pc := 58) (rest := []) (fun q hq => R_S (av := [.ref v6, .int a1, .int (((4 : Int32) * a2) * (15 : Int32))]) (M_X12_onesAhead _ v6 a1 (((4 : Int32) * a2) * (15 : Int32)) q5.2 hq) wd_1037 wd_1035 wd_1036 wd_50 hd_X12_onesAhead ⟨Nat.le_of_ble_eq_true rfl, Nat.le_of_ble_eq_true rfl⟩ rfl (Nat.le_of_ble_eq_true rfl) dX12_entry_58) (fun _ h => absurd h List.not_mem_nil) (fun q7 => ?_)
            refine S_goto (pc := 61) (tgt := 76) dX12_entry_61 (by decide) ?_
            exact Sim.fin ⟨dX12_entry_76, rfl, rfl⟩ rfl
          · refine S_aload_n (pc := 64) 0 rfl dX12_entry_64 rfl ?_
            refine S_aload_n (pc := 65) 0 rfl dX12_entry_65 rfl ?_
            refine S_getR (pc := 66) fd_X12_now wd_821 dX12_entry_66 (fun v8 => ?_)
            refine S_iload_n (pc := 69) 1 rfl dX12_entry_69 rfl ?_
            refine S_iconst (pc := 70) dX12_entry_70 ic_4 ?_
            refine S_iload_n (pc := 71) 2 rfl dX12_entry_71 rfl ?_
            refine S_imul (pc := 72) dX12_entry_72 ?_
            refine S_call_i (pc := 73) (rest := []) (fun q hq => (x_if hq).elim (fun z => R_V (av := [.ref v8, .int a1, .int ((4 : Int32) * a2)]) (q := (RX12, TX12, 28)) (M_X12_begins _ a0 v8 a1 ((4 : Int32) * a2) q5.2 z.2) z.1 rfl wd_1084 wd_1081 wd_1083 wd_50 wd_32 ⟨rfl, hd_X12_begins⟩ ⟨Nat.le_of_ble_eq_true rfl, Nat.le_of_ble_eq_true rfl⟩ rfl (Nat.le_of_ble_eq_true rfl) dX12_entry_73) (fun hq => (by cases hq))) (fun _ h => absurd h List.not_mem_nil) (fun q9 => ?_)
            exact Sim.fin ⟨dX12_entry_76, rfl, rfl⟩ rfl
theorem M_X12_entry (l : Launch) (a0 : Nat) (a1 : Int32) (a2 : Int32) (a3 : Int32) (h : xH) {q : Int32 × xH} (hq : f_X12_entry a0 a1 a2 a3 h = some q) : xM l yX12_entry cX12_entry 4 (some .int) 2 [.ref a0, .int a1, .int a2, .int a3] h (some (.int q.1)) q.2 := xM_i (by decide +kernel) (Nat.le_of_ble_eq_true rfl) (fun K L => W_X12_entry K L a0 a1 a2 a3 h) hq
theorem dX12_fault_0 : decode cX12_fault 0 = .ok (.aload_n 0, 1) := by decide +kernel
theorem dX12_fault_1 : decode cX12_fault 1 = .ok (.getfield 117, 3) := by decide +kernel
theorem dX12_fault_4 : decode cX12_fault 4 = .ok (.ireturn, 1) := by decide +kernel
set_option maxRecDepth 20000 in
set_option maxHeartbeats 4000000 in
theorem W_X12_fault (K : xK) (L : xL) (a0 : Nat) (h : xH) : Sim K L cX12_fault RX12 "fault" 1 0 (fun q : Int32 × xH => q.2) (xRi cX12_fault) 0 [(0, .ref a0)] [] h (f_X12_fault a0 h) := by
  unfold f_X12_fault
  refine S_aload_n (pc := 0) 0 rfl dX12_fault_0 rfl ?_
  refine S_getI (pc := 1) fd_X12_faultKind wd_815 dX12_fault_1 (fun v1 => ?_)
  exact Sim.fin ⟨dX12_fault_4, rfl, rfl⟩ rfl
theorem M_X12_fault (l : Launch) (a0 : Nat) (h : xH) {q : Int32 × xH} (hq : f_X12_fault a0 h = some q) : xM l yX12_fault cX12_fault 1 (some .int) 0 [.ref a0] h (some (.int q.1)) q.2 := xM_i (by decide +kernel) (Nat.le_of_ble_eq_true rfl) (fun K L => W_X12_fault K L a0 h) hq
theorem dX12_feed_0 : decode cX12_feed 0 = .ok (.iload_n 1, 1) := by decide +kernel
theorem dX12_feed_1 : decode cX12_feed 1 = .ok (.iconst 0, 1) := by decide +kernel
theorem dX12_feed_2 : decode cX12_feed 2 = .ok (.sipush 255, 3) := by decide +kernel
theorem dX12_feed_5 : decode cX12_feed 5 = .ok (.invokestatic 65, 3) := by decide +kernel
theorem dX12_feed_8 : decode cX12_feed 8 = .ok (.ifCond .ne 6, 3) := by decide +kernel
theorem dX12_feed_11 : decode cX12_feed 11 = .ok (.ldc 73, 2) := by decide +kernel
theorem dX12_feed_13 : decode cX12_feed 13 = .ok (.ireturn, 1) := by decide +kernel
theorem dX12_feed_14 : decode cX12_feed 14 = .ok (.aload_n 0, 1) := by decide +kernel
theorem dX12_feed_15 : decode cX12_feed 15 = .ok (.getfield 91, 3) := by decide +kernel
theorem dX12_feed_18 : decode cX12_feed 18 = .ok (.bipush 60, 2) := by decide +kernel
theorem dX12_feed_20 : decode cX12_feed 20 = .ok (.if_icmp .ne 6, 3) := by decide +kernel
theorem dX12_feed_23 : decode cX12_feed 23 = .ok (.ldc 94, 2) := by decide +kernel
theorem dX12_feed_25 : decode cX12_feed 25 = .ok (.ireturn, 1) := by decide +kernel
theorem dX12_feed_26 : decode cX12_feed 26 = .ok (.aload_n 0, 1) := by decide +kernel
theorem dX12_feed_27 : decode cX12_feed 27 = .ok (.getfield 22, 3) := by decide +kernel
theorem dX12_feed_30 : decode cX12_feed 30 = .ok (.aload_n 0, 1) := by decide +kernel
theorem dX12_feed_31 : decode cX12_feed 31 = .ok (.getfield 91, 3) := by decide +kernel
theorem dX12_feed_34 : decode cX12_feed 34 = .ok (.iload_n 1, 1) := by decide +kernel
theorem dX12_feed_35 : decode cX12_feed 35 = .ok (.iastore, 1) := by decide +kernel
theorem dX12_feed_36 : decode cX12_feed 36 = .ok (.aload_n 0, 1) := by decide +kernel
theorem dX12_feed_37 : decode cX12_feed 37 = .ok (.dup, 1) := by decide +kernel
theorem dX12_feed_38 : decode cX12_feed 38 = .ok (.getfield 91, 3) := by decide +kernel
theorem dX12_feed_41 : decode cX12_feed 41 = .ok (.iconst 1, 1) := by decide +kernel
theorem dX12_feed_42 : decode cX12_feed 42 = .ok (.iadd, 1) := by decide +kernel
theorem dX12_feed_43 : decode cX12_feed 43 = .ok (.putfield 91, 3) := by decide +kernel
theorem dX12_feed_46 : decode cX12_feed 46 = .ok (.aload_n 0, 1) := by decide +kernel
theorem dX12_feed_47 : decode cX12_feed 47 = .ok (.getfield 91, 3) := by decide +kernel
theorem dX12_feed_50 : decode cX12_feed 50 = .ok (.ireturn, 1) := by decide +kernel
set_option maxRecDepth 20000 in
set_option maxHeartbeats 4000000 in
theorem W_X12_feed (K : xK) (L : xL) (a0 : Nat) (a1 : Int32) (h : xH) : Sim K L cX12_feed RX12 "feed" 2 1 (fun q : Int32 × xH => q.2) (xRi cX12_feed) 0 [(0, .ref a0), (1, .int a1)] [] h (f_X12_feed a0 a1 h) := by
  unfold f_X12_feed
  refine S_iload_n (pc := 0) 1 rfl dX12_feed_0 rfl ?_
  refine S_iconst (pc := 1) dX12_feed_1 ic_0 ?_
  refine S_sipush (pc := 2) dX12_feed_2 si_255 ?_
  refine S_call_i (pc := 5) (rest := []) (fun q hq => R_S (av := [.int a1, .int (0 : Int32), .int (255 : Int32)]) (M_X12_in _ a1 (0 : Int32) (255 : Int32) h hq) wd_902 wd_900 wd_901 wd_50 hd_X12_in ⟨Nat.le_of_ble_eq_true rfl, Nat.le_of_ble_eq_true rfl⟩ rfl (Nat.le_of_ble_eq_true rfl) dX12_feed_5) (fun _ h => absurd h List.not_mem_nil) (fun q1 => ?_)
  refine S_if_ne (pc := 8) (tgt := 14) dX12_feed_8 (by decide) ?_ ?_
  · refine S_ldc (pc := 11) wd_903 dX12_feed_11 ?_
    exact Sim.fin ⟨dX12_feed_13, rfl, rfl⟩ rfl
  · refine S_aload_n (pc := 14) 0 rfl dX12_feed_14 rfl ?_
    refine S_getI (pc := 15) fd_X12_taped wd_814 dX12_feed_15 (fun v2 => ?_)
    refine S_bipush (pc := 18) dX12_feed_18 bi_60 ?_
    refine S_icmp_ne (pc := 20) (tgt := 26) dX12_feed_20 (by decide) ?_ ?_
    · refine S_ldc (pc := 23) wd_940 dX12_feed_23 ?_
      exact Sim.fin ⟨dX12_feed_25, rfl, rfl⟩ rfl
    · refine S_aload_n (pc := 26) 0 rfl dX12_feed_26 rfl ?_
      refine S_getR (pc := 27) fd_X12_tape wd_813 dX12_feed_27 (fun v3 => ?_)
      refine S_aload_n (pc := 30) 0 rfl dX12_feed_30 rfl ?_
      refine S_getI (pc := 31) fd_X12_taped wd_814 dX12_feed_31 (fun v4 => ?_)
      refine S_iload_n (pc := 34) 1 rfl dX12_feed_34 rfl ?_
      refine S_uI (pc := 35) dX12_feed_35 (fun h5 => ?_)
      refine S_aload_n (pc := 36) 0 rfl dX12_feed_36 rfl ?_
      refine S_dup (pc := 37) rfl dX12_feed_37 ?_
      refine S_getI (pc := 38) fd_X12_taped wd_814 dX12_feed_38 (fun v6 => ?_)
      refine S_iconst (pc := 41) dX12_feed_41 ic_1 ?_
      refine S_iadd (pc := 42) dX12_feed_42 ?_
      refine S_putI (pc := 43) fd_X12_taped wd_814 rfl rfl dX12_feed_43 (fun h7 => ?_)
      refine S_aload_n (pc := 46) 0 rfl dX12_feed_46 rfl ?_
      refine S_getI (pc := 47) fd_X12_taped wd_814 dX12_feed_47 (fun v8 => ?_)
      exact Sim.fin ⟨dX12_feed_50, rfl, rfl⟩ rfl
theorem M_X12_feed (l : Launch) (a0 : Nat) (a1 : Int32) (h : xH) {q : Int32 × xH} (hq : f_X12_feed a0 a1 h = some q) : xM l yX12_feed cX12_feed 2 (some .int) 1 [.ref a0, .int a1] h (some (.int q.1)) q.2 := xM_i (by decide +kernel) (Nat.le_of_ble_eq_true rfl) (fun K L => W_X12_feed K L a0 a1 h) hq
theorem dX12_isWell_0 : decode cX12_isWell 0 = .ok (.aload_n 0, 1) := by decide +kernel
theorem dX12_isWell_1 : decode cX12_isWell 1 = .ok (.getfield 110, 3) := by decide +kernel
theorem dX12_isWell_4 : decode cX12_isWell 4 = .ok (.ifCond .ge 7, 3) := by decide +kernel
theorem dX12_isWell_7 : decode cX12_isWell 7 = .ok (.iconst 1, 1) := by decide +kernel
theorem dX12_isWell_8 : decode cX12_isWell 8 = .ok (.goto 4, 3) := by decide +kernel
theorem dX12_isWell_11 : decode cX12_isWell 11 = .ok (.iconst 0, 1) := by decide +kernel
theorem dX12_isWell_12 : decode cX12_isWell 12 = .ok (.ireturn, 1) := by decide +kernel
set_option maxRecDepth 20000 in
set_option maxHeartbeats 4000000 in
theorem W_X12_isWell (K : xK) (L : xL) (a0 : Nat) (h : xH) : Sim K L cX12_isWell RX12 "isWell" 1 0 (fun q : Int32 × xH => q.2) (xRz cX12_isWell) 0 [(0, .ref a0)] [] h (f_X12_isWell a0 h) := by
  unfold f_X12_isWell
  refine S_aload_n (pc := 0) 0 rfl dX12_isWell_0 rfl ?_
  refine S_getI (pc := 1) fd_X12_faultPlace wd_816 dX12_isWell_1 (fun v1 => ?_)
  refine S_if_ge (pc := 4) (tgt := 11) dX12_isWell_4 (by decide) ?_ ?_
  · refine S_iconst (pc := 11) dX12_isWell_11 ic_0 ?_
    exact Sim.fin ⟨dX12_isWell_12, rfl, rfl, x_nar (Or.inl rfl)⟩ rfl
  · refine S_iconst (pc := 7) dX12_isWell_7 ic_1 ?_
    refine S_goto (pc := 8) (tgt := 12) dX12_isWell_8 (by decide) ?_
    exact Sim.fin ⟨dX12_isWell_12, rfl, rfl, x_nar (Or.inr rfl)⟩ rfl
theorem M_X12_isWell (l : Launch) (a0 : Nat) (h : xH) {q : Int32 × xH} (hq : f_X12_isWell a0 h = some q) : xM l yX12_isWell cX12_isWell 1 (some .boolean) 0 [.ref a0] h (some (.int q.1)) q.2 := xM_z (by decide +kernel) (Nat.le_of_ble_eq_true rfl) (fun K L => W_X12_isWell K L a0 h) hq
theorem dX12_takes_0 : decode cX12_takes 0 = .ok (.aload_n 0, 1) := by decide +kernel
theorem dX12_takes_1 : decode cX12_takes 1 = .ok (.invokevirtual 113, 3) := by decide +kernel
theorem dX12_takes_4 : decode cX12_takes 4 = .ok (.ifCond .ne 5, 3) := by decide +kernel
theorem dX12_takes_7 : decode cX12_takes 7 = .ok (.iconst 0, 1) := by decide +kernel
theorem dX12_takes_8 : decode cX12_takes 8 = .ok (.ireturn, 1) := by decide +kernel
theorem dX12_takes_9 : decode cX12_takes 9 = .ok (.iload_n 1, 1) := by decide +kernel
theorem dX12_takes_10 : decode cX12_takes 10 = .ok (.ifCond .ne 18, 3) := by decide +kernel
theorem dX12_takes_13 : decode cX12_takes 13 = .ok (.aload_n 0, 1) := by decide +kernel
theorem dX12_takes_14 : decode cX12_takes 14 = .ok (.aload_n 0, 1) := by decide +kernel
theorem dX12_takes_15 : decode cX12_takes 15 = .ok (.getfield 98, 3) := by decide +kernel
theorem dX12_takes_18 : decode cX12_takes 18 = .ok (.putfield 110, 3) := by decide +kernel
theorem dX12_takes_21 : decode cX12_takes 21 = .ok (.aload_n 0, 1) := by decide +kernel
theorem dX12_takes_22 : decode cX12_takes 22 = .ok (.iload_n 2, 1) := by decide +kernel
theorem dX12_takes_23 : decode cX12_takes 23 = .ok (.putfield 117, 3) := by decide +kernel
theorem dX12_takes_26 : decode cX12_takes 26 = .ok (.iconst 0, 1) := by decide +kernel
theorem dX12_takes_27 : decode cX12_takes 27 = .ok (.ireturn, 1) := by decide +kernel
theorem dX12_takes_28 : decode cX12_takes 28 = .ok (.aload_n 0, 1) := by decide +kernel
theorem dX12_takes_29 : decode cX12_takes 29 = .ok (.getfield 104, 3) := by decide +kernel
theorem dX12_takes_32 : decode cX12_takes 32 = .ok (.istore_n 3, 1) := by decide +kernel
theorem dX12_takes_33 : decode cX12_takes 33 = .ok (.aload_n 0, 1) := by decide +kernel
theorem dX12_takes_34 : decode cX12_takes 34 = .ok (.invokevirtual 120, 3) := by decide +kernel
theorem dX12_takes_37 : decode cX12_takes 37 = .ok (.iload_n 3, 1) := by decide +kernel
theorem dX12_takes_38 : decode cX12_takes 38 = .ok (.ireturn, 1) := by decide +kernel
set_option maxRecDepth 20000 in
set_option maxHeartbeats 4000000 in
theorem W_X12_takes (K : xK) (L : xL) (a0 : Nat) (a1 : Int32) (a2 : Int32) (h : xH) : Sim K L cX12_takes RX12 "takes" 4 2 (fun q : Int32 × xH => q.2) (xRi cX12_takes) 0 [(0, .ref a0), (1, .int a1), (2, .int a2)] [] h (f_X12_takes a0 a1 a2 h) := by
  unfold f_X12_takes
  refine S_aload_n (pc := 0) 0 rfl dX12_takes_0 rfl ?_
  refine S_call_i (pc := 1) (rest := []) (fun q hq => (x_if hq).elim (fun z => R_V (av := []) (q := (RX12, TX12, 28)) (M_X12_isWell _ a0 h z.2) z.1 rfl wd_966 wd_963 wd_965 wd_50 wd_21 ⟨rfl, hd_X12_isWell⟩ ⟨Nat.le_of_ble_eq_true rfl, Nat.le_of_ble_eq_true rfl⟩ rfl (Nat.le_of_ble_eq_true rfl) dX12_takes_1) (fun hq => (by cases hq))) (fun _ h => absurd h List.not_mem_nil) (fun q1 => ?_)
  refine S_if_ne (pc := 4) (tgt := 9) dX12_takes_4 (by decide) ?_ ?_
  · refine S_iconst (pc := 7) dX12_takes_7 ic_0 ?_
    exact Sim.fin ⟨dX12_takes_8, rfl, rfl⟩ rfl
  · refine S_iload_n (pc := 9) 1 rfl dX12_takes_9 rfl ?_
    refine S_if_ne (pc := 10) (tgt := 28) dX12_takes_10 (by decide) ?_ ?_
    · refine S_aload_n (pc := 13) 0 rfl dX12_takes_13 rfl ?_
      refine S_aload_n (pc := 14) 0 rfl dX12_takes_14 rfl ?_
      refine S_getI (pc := 15) fd_X12_start wd_818 dX12_takes_15 (fun v2 => ?_)
      refine S_putI (pc := 18) fd_X12_faultPlace wd_816 rfl rfl dX12_takes_18 (fun h3 => ?_)
      refine S_aload_n (pc := 21) 0 rfl dX12_takes_21 rfl ?_
      refine S_iload_n (pc := 22) 2 rfl dX12_takes_22 rfl ?_
      refine S_putI (pc := 23) fd_X12_faultKind wd_815 rfl rfl dX12_takes_23 (fun h4 => ?_)
      refine S_iconst (pc := 26) dX12_takes_26 ic_0 ?_
      exact Sim.fin ⟨dX12_takes_27, rfl, rfl⟩ rfl
    · refine S_aload_n (pc := 28) 0 rfl dX12_takes_28 rfl ?_
      refine S_getI (pc := 29) fd_X12_value wd_820 dX12_takes_29 (fun v5 => ?_)
      refine S_istore_n (pc := 32) dX12_takes_32 rfl (Nat.le_of_ble_eq_true rfl) rfl ?_
      refine S_aload_n (pc := 33) 1 rfl dX12_takes_33 rfl ?_
      refine S_call_v (pc := 34) (rest := []) (fun q hq => (x_if hq).elim (fun z => R_V (av := []) (q := (RX12, TX12, 28)) (M_X12_advances _ a0 q1.2 z.2) z.1 rfl wd_951 wd_948 wd_950 wd_50 wd_18 ⟨rfl, hd_X12_advances⟩ ⟨Nat.le_of_ble_eq_true rfl, Nat.le_of_ble_eq_true rfl⟩ rfl (Nat.le_of_ble_eq_true rfl) dX12_takes_34) (fun hq => (by cases hq))) (fun _ h => absurd h List.not_mem_nil) (fun q6 => ?_)
      refine S_iload_n (pc := 37) 0 rfl dX12_takes_37 rfl ?_
      exact Sim.fin ⟨dX12_takes_38, rfl, rfl⟩ rfl
theorem M_X12_takes (l : Launch) (a0 : Nat) (a1 : Int32) (a2 : Int32) (h : xH) {q : Int32 × xH} (hq : f_X12_takes a0 a1 a2 h = some q) : xM l yX12_takes cX12_takes 4 (some .int) 2 [.ref a0, .int a1, .int a2] h (some (.int q.1)) q.2 := xM_i (by decide +kernel) (Nat.le_of_ble_eq_true rfl) (fun K L => W_X12_takes K L a0 a1 a2 h) hq
theorem dX12_figure_0 : decode cX12_figure 0 = .ok (.aload_n 0, 1) := by decide +kernel
theorem dX12_figure_1 : decode cX12_figure 1 = .ok (.invokevirtual 113, 3) := by decide +kernel
theorem dX12_figure_4 : decode cX12_figure 4 = .ok (.ifCond .eq 18, 3) := by decide +kernel
theorem dX12_figure_7 : decode cX12_figure 7 = .ok (.aload_n 0, 1) := by decide +kernel
theorem dX12_figure_8 : decode cX12_figure 8 = .ok (.getfield 107, 3) := by decide +kernel
theorem dX12_figure_11 : decode cX12_figure 11 = .ok (.iconst 2, 1) := by decide +kernel
theorem dX12_figure_12 : decode cX12_figure 12 = .ok (.if_icmp .eq 10, 3) := by decide +kernel
theorem dX12_figure_15 : decode cX12_figure 15 = .ok (.aload_n 0, 1) := by decide +kernel
theorem dX12_figure_16 : decode cX12_figure 16 = .ok (.iconst 0, 1) := by decide +kernel
theorem dX12_figure_17 : decode cX12_figure 17 = .ok (.iconst 1, 1) := by decide +kernel
theorem dX12_figure_18 : decode cX12_figure 18 = .ok (.invokevirtual 123, 3) := by decide +kernel
theorem dX12_figure_21 : decode cX12_figure 21 = .ok (.ireturn, 1) := by decide +kernel
theorem dX12_figure_22 : decode cX12_figure 22 = .ok (.aload_n 0, 1) := by decide +kernel
theorem dX12_figure_23 : decode cX12_figure 23 = .ok (.aload_n 0, 1) := by decide +kernel
theorem dX12_figure_24 : decode cX12_figure 24 = .ok (.getfield 104, 3) := by decide +kernel
theorem dX12_figure_27 : decode cX12_figure 27 = .ok (.iload_n 1, 1) := by decide +kernel
theorem dX12_figure_28 : decode cX12_figure 28 = .ok (.iload_n 2, 1) := by decide +kernel
theorem dX12_figure_29 : decode cX12_figure 29 = .ok (.invokestatic 65, 3) := by decide +kernel
theorem dX12_figure_32 : decode cX12_figure 32 = .ok (.iconst 2, 1) := by decide +kernel
theorem dX12_figure_33 : decode cX12_figure 33 = .ok (.invokevirtual 123, 3) := by decide +kernel
theorem dX12_figure_36 : decode cX12_figure 36 = .ok (.ireturn, 1) := by decide +kernel
set_option maxRecDepth 20000 in
set_option maxHeartbeats 4000000 in
theorem W_X12_figure (K : xK) (L : xL) (a0 : Nat) (a1 : Int32) (a2 : Int32) (h : xH) : Sim K L cX12_figure RX12 "figure" 3 3 (fun q : Int32 × xH => q.2) (xRi cX12_figure) 0 [(0, .ref a0), (1, .int a1), (2, .int a2)] [] h (f_X12_figure a0 a1 a2 h) := by
  unfold f_X12_figure
  refine S_aload_n (pc := 0) 0 rfl dX12_figure_0 rfl ?_
  refine S_call_i (pc := 1) (rest := []) (fun q hq => (x_if hq).elim (fun z => R_V (av := []) (q := (RX12, TX12, 28)) (M_X12_isWell _ a0 h z.2) z.1 rfl wd_966 wd_963 wd_965 wd_50 wd_21 ⟨rfl, hd_X12_isWell⟩ ⟨Nat.le_of_ble_eq_true rfl, Nat.le_of_ble_eq_true rfl⟩ rfl (Nat.le_of_ble_eq_true rfl) dX12_figure_1) (fun hq => (by cases hq))) (fun _ h => absurd h List.not_mem_nil) (fun q1 => ?_)
  refine S_if_eq (pc := 4) (tgt := 22) dX12_figure_4 (by decide) ?_ ?_
  · refine S_aload_n (pc := 22) 0 rfl dX12_figure_22 rfl ?_
    refine S_aload_n (pc := 23) 0 rfl dX12_figure_23 rfl ?_
    refine S_getI (pc := 24) fd_X12_value wd_820 dX12_figure_24 (fun v2 => ?_)
    refine S_iload_n (pc := 27) 1 rfl dX12_figure_27 rfl ?_
    refine S_iload_n (pc := 28) 2 rfl dX12_figure_28 rfl ?_
    refine S_call_i (pc := 29) (rest := [.ref a0]) (fun q hq => R_S (av := [.int v2, .int a1, .int a2]) (M_X12_in _ v2 a1 a2 q1.2 hq) wd_902 wd_900 wd_901 wd_50 hd_X12_in ⟨Nat.le_of_ble_eq_true rfl, Nat.le_of_ble_eq_true rfl⟩ rfl (Nat.le_of_ble_eq_true rfl) dX12_figure_29) (fun _ h => List.mem_cons_of_mem _ (List.mem_cons_of_mem _ (List.mem_cons_of_mem _ (h)))) (fun q3 => ?_)
    refine S_iconst (pc := 32) dX12_figure_32 ic_2 ?_
    refine S_call_i (pc := 33) (rest := []) (fun q hq => (x_if hq).elim (fun z => R_V (av := [.int q3.1, .int (2 : Int32)]) (q := (RX12, TX12, 28)) (M_X12_takes _ a0 q3.1 (2 : Int32) q3.2 z.2) z.1 rfl wd_962 wd_959 wd_961 wd_50 wd_20 ⟨rfl, hd_X12_takes⟩ ⟨Nat.le_of_ble_eq_true rfl, Nat.le_of_ble_eq_true rfl⟩ rfl (Nat.le_of_ble_eq_true rfl) dX12_figure_33) (fun hq => (by cases hq))) (fun _ h => absurd h List.not_mem_nil) (fun q4 => ?_)
    exact Sim.fin ⟨dX12_figure_36, rfl, rfl⟩ rfl
  · refine S_aload_n (pc := 7) 0 rfl dX12_figure_7 rfl ?_
    refine S_getI (pc := 8) fd_X12_token wd_819 dX12_figure_8 (fun v5 => ?_)
    refine S_iconst (pc := 11) dX12_figure_11 ic_2 ?_
    refine S_icmp_eq (pc := 12) (tgt := 22) dX12_figure_12 (by decide) ?_ ?_
    · refine S_aload_n (pc := 22) 0 rfl dX12_figure_22 rfl ?_
      refine S_aload_n (pc := 23) 0 rfl dX12_figure_23 rfl ?_
      refine S_getI (pc := 24) fd_X12_value wd_820 dX12_figure_24 (fun v6 => ?_)
      refine S_iload_n (pc := 27) 1 rfl dX12_figure_27 rfl ?_
      refine S_iload_n (pc := 28) 2 rfl dX12_figure_28 rfl ?_
      refine S_call_i (pc := 29) (rest := [.ref a0]) (fun q hq => R_S (av := [.int v6, .int a1, .int a2]) (M_X12_in _ v6 a1 a2 q1.2 hq) wd_902 wd_900 wd_901 wd_50 hd_X12_in ⟨Nat.le_of_ble_eq_true rfl, Nat.le_of_ble_eq_true rfl⟩ rfl (Nat.le_of_ble_eq_true rfl) dX12_figure_29) (fun _ h => List.mem_cons_of_mem _ (List.mem_cons_of_mem _ (List.mem_cons_of_mem _ (h)))) (fun q7 => ?_)
      refine S_iconst (pc := 32) dX12_figure_32 ic_2 ?_
      refine S_call_i (pc := 33) (rest := []) (fun q hq => (x_if hq).elim (fun z => R_V (av := [.int q7.1, .int (2 : Int32)]) (q := (RX12, TX12, 28)) (M_X12_takes _ a0 q7.1 (2 : Int32) q7.2 z.2) z.1 rfl wd_962 wd_959 wd_961 wd_50 wd_20 ⟨rfl, hd_X12_takes⟩ ⟨Nat.le_of_ble_eq_true rfl, Nat.le_of_ble_eq_true rfl⟩ rfl (Nat.le_of_ble_eq_true rfl) dX12_figure_33) (fun hq => (by cases hq))) (fun _ h => absurd h List.not_mem_nil) (fun q8 => ?_)
      exact Sim.fin ⟨dX12_figure_36, rfl, rfl⟩ rfl
    · refine S_aload_n (pc := 15) 0 rfl dX12_figure_15 rfl ?_
      refine S_iconst (pc := 16) dX12_figure_16 ic_0 ?_
      refine S_iconst (pc := 17) dX12_figure_17 ic_1 ?_
      refine S_call_i (pc := 18) (rest := []) (fun q hq => (x_if hq).elim (fun z => R_V (av := [.int (0 : Int32), .int (1 : Int32)]) (q := (RX12, TX12, 28)) (M_X12_takes _ a0 (0 : Int32) (1 : Int32) q1.2 z.2) z.1 rfl wd_962 wd_959 wd_961 wd_50 wd_20 ⟨rfl, hd_X12_takes⟩ ⟨Nat.le_of_ble_eq_true rfl, Nat.le_of_ble_eq_true rfl⟩ rfl (Nat.le_of_ble_eq_true rfl) dX12_figure_18) (fun hq => (by cases hq))) (fun _ h => absurd h List.not_mem_nil) (fun q9 => ?_)
      exact Sim.fin ⟨dX12_figure_21, rfl, rfl⟩ rfl
theorem M_X12_figure (l : Launch) (a0 : Nat) (a1 : Int32) (a2 : Int32) (h : xH) {q : Int32 × xH} (hq : f_X12_figure a0 a1 a2 h = some q) : xM l yX12_figure cX12_figure 3 (some .int) 3 [.ref a0, .int a1, .int a2] h (some (.int q.1)) q.2 := xM_i (by decide +kernel) (Nat.le_of_ble_eq_true rfl) (fun K L => W_X12_figure K L a0 a1 a2 h) hq
theorem dX12_isBit_0 : decode cX12_isBit 0 = .ok (.iload_n 1, 1) := by decide +kernel
theorem dX12_isBit_1 : decode cX12_isBit 1 = .ok (.invokestatic 130, 3) := by decide +kernel
theorem dX12_isBit_4 : decode cX12_isBit 4 = .ok (.ifCond .eq 22, 3) := by decide +kernel
theorem dX12_isBit_7 : decode cX12_isBit 7 = .ok (.iload_n 2, 1) := by decide +kernel
theorem dX12_isBit_8 : decode cX12_isBit 8 = .ok (.iconst 0, 1) := by decide +kernel
theorem dX12_isBit_9 : decode cX12_isBit 9 = .ok (.aload_n 0, 1) := by decide +kernel
theorem dX12_isBit_10 : decode cX12_isBit 10 = .ok (.iload_n 1, 1) := by decide +kernel
theorem dX12_isBit_11 : decode cX12_isBit 11 = .ok (.invokevirtual 167, 3) := by decide +kernel
theorem dX12_isBit_14 : decode cX12_isBit 14 = .ok (.iconst 1, 1) := by decide +kernel
theorem dX12_isBit_15 : decode cX12_isBit 15 = .ok (.isub, 1) := by decide +kernel
theorem dX12_isBit_16 : decode cX12_isBit 16 = .ok (.invokestatic 65, 3) := by decide +kernel
theorem dX12_isBit_19 : decode cX12_isBit 19 = .ok (.ifCond .eq 7, 3) := by decide +kernel
theorem dX12_isBit_22 : decode cX12_isBit 22 = .ok (.iconst 1, 1) := by decide +kernel
theorem dX12_isBit_23 : decode cX12_isBit 23 = .ok (.goto 4, 3) := by decide +kernel
theorem dX12_isBit_26 : decode cX12_isBit 26 = .ok (.iconst 0, 1) := by decide +kernel
theorem dX12_isBit_27 : decode cX12_isBit 27 = .ok (.ireturn, 1) := by decide +kernel
set_option maxRecDepth 20000 in
set_option maxHeartbeats 4000000 in
theorem W_X12_isBit (K : xK) (L : xL) (a0 : Nat) (a1 : Int32) (a2 : Int32) (h : xH) : Sim K L cX12_isBit RX12 "isBit" 3 2 (fun q : Int32 × xH => q.2) (xRz cX12_isBit) 0 [(0, .ref a0), (1, .int a1), (2, .int a2)] [] h (f_X12_isBit a0 a1 a2 h) := by
  unfold f_X12_isBit
  refine S_iload_n (pc := 0) 1 rfl dX12_isBit_0 rfl ?_
  refine S_call_i (pc := 1) (rest := []) (fun q hq => R_S (av := [.int a1]) (M_X12_isVector _ a1 h hq) wd_947 wd_945 wd_946 wd_50 hd_X12_isVector ⟨Nat.le_of_ble_eq_true rfl, Nat.le_of_ble_eq_true rfl⟩ rfl (Nat.le_of_ble_eq_true rfl) dX12_isBit_1) (fun _ h => absurd h List.not_mem_nil) (fun q1 => ?_)
  refine S_if_eq (pc := 4) (tgt := 26) dX12_isBit_4 (by decide) ?_ ?_
  · refine S_iconst (pc := 26) dX12_isBit_26 ic_0 ?_
    exact Sim.fin ⟨dX12_isBit_27, rfl, rfl, x_nar (Or.inl rfl)⟩ rfl
  · refine S_iload_n (pc := 7) 2 rfl dX12_isBit_7 rfl ?_
    refine S_iconst (pc := 8) dX12_isBit_8 ic_0 ?_
    refine S_aload_n (pc := 9) 0 rfl dX12_isBit_9 rfl ?_
    refine S_iload_n (pc := 10) 1 rfl dX12_isBit_10 rfl ?_
    refine S_call_i (pc := 11) (rest := [.int (0 : Int32), .int a2]) (fun q hq => (x_if hq).elim (fun z => R_V (av := [.int a1]) (q := (RX12, TX12, 28)) (M_X12_bitsOf _ a0 a1 q1.2 z.2) z.1 rfl wd_1012 wd_1009 wd_1011 wd_50 wd_28 ⟨rfl, hd_X12_bitsOf⟩ ⟨Nat.le_of_ble_eq_true rfl, Nat.le_of_ble_eq_true rfl⟩ rfl (Nat.le_of_ble_eq_true rfl) dX12_isBit_11) (fun hq => (by cases hq))) (fun _ h => List.mem_cons_of_mem _ (List.mem_cons_of_mem _ (h))) (fun q2 => ?_)
    refine S_iconst (pc := 14) dX12_isBit_14 ic_1 ?_
    refine S_isub (pc := 15) dX12_isBit_15 ?_
    refine S_call_i (pc := 16) (rest := []) (fun q hq => R_S (av := [.int a2, .int (0 : Int32), .int (q2.1 - (1 : Int32))]) (M_X12_in _ a2 (0 : Int32) (q2.1 - (1 : Int32)) q2.2 hq) wd_902 wd_900 wd_901 wd_50 hd_X12_in ⟨Nat.le_of_ble_eq_true rfl, Nat.le_of_ble_eq_true rfl⟩ rfl (Nat.le_of_ble_eq_true rfl) dX12_isBit_16) (fun _ h => absurd h List.not_mem_nil) (fun q3 => ?_)
    refine S_if_eq (pc := 19) (tgt := 26) dX12_isBit_19 (by decide) ?_ ?_
    · refine S_iconst (pc := 26) dX12_isBit_26 ic_0 ?_
      exact Sim.fin ⟨dX12_isBit_27, rfl, rfl, x_nar (Or.inl rfl)⟩ rfl
    · refine S_iconst (pc := 22) dX12_isBit_22 ic_1 ?_
      refine S_goto (pc := 23) (tgt := 27) dX12_isBit_23 (by decide) ?_
      exact Sim.fin ⟨dX12_isBit_27, rfl, rfl, x_nar (Or.inr rfl)⟩ rfl
theorem M_X12_isBit (l : Launch) (a0 : Nat) (a1 : Int32) (a2 : Int32) (h : xH) {q : Int32 × xH} (hq : f_X12_isBit a0 a1 a2 h = some q) : xM l yX12_isBit cX12_isBit 3 (some .boolean) 2 [.ref a0, .int a1, .int a2] h (some (.int q.1)) q.2 := xM_z (by decide +kernel) (Nat.le_of_ble_eq_true rfl) (fun K L => W_X12_isBit K L a0 a1 a2 h) hq
theorem dX12_get_0 : decode cX12_get 0 = .ok (.aload_n 0, 1) := by decide +kernel
theorem dX12_get_1 : decode cX12_get 1 = .ok (.iload_n 1, 1) := by decide +kernel
theorem dX12_get_2 : decode cX12_get 2 = .ok (.iload_n 2, 1) := by decide +kernel
theorem dX12_get_3 : decode cX12_get 3 = .ok (.invokevirtual 180, 3) := by decide +kernel
theorem dX12_get_6 : decode cX12_get 6 = .ok (.ifCond .eq 15, 3) := by decide +kernel
theorem dX12_get_9 : decode cX12_get 9 = .ok (.aload_n 0, 1) := by decide +kernel
theorem dX12_get_10 : decode cX12_get 10 = .ok (.getfield 25, 3) := by decide +kernel
theorem dX12_get_13 : decode cX12_get 13 = .ok (.iload_n 1, 1) := by decide +kernel
theorem dX12_get_14 : decode cX12_get 14 = .ok (.iload_n 2, 1) := by decide +kernel
theorem dX12_get_15 : decode cX12_get 15 = .ok (.invokestatic 163, 3) := by decide +kernel
theorem dX12_get_18 : decode cX12_get 18 = .ok (.goto 5, 3) := by decide +kernel
theorem dX12_get_21 : decode cX12_get 21 = .ok (.ldc 73, 2) := by decide +kernel
theorem dX12_get_23 : decode cX12_get 23 = .ok (.ireturn, 1) := by decide +kernel
set_option maxRecDepth 20000 in
set_option maxHeartbeats 4000000 in
theorem W_X12_get (K : xK) (L : xL) (a0 : Nat) (a1 : Int32) (a2 : Int32) (h : xH) : Sim K L cX12_get RX12 "get" 3 3 (fun q : Int32 × xH => q.2) (xRi cX12_get) 0 [(0, .ref a0), (1, .int a1), (2, .int a2)] [] h (f_X12_get a0 a1 a2 h) := by
  unfold f_X12_get
  refine S_aload_n (pc := 0) 0 rfl dX12_get_0 rfl ?_
  refine S_iload_n (pc := 1) 1 rfl dX12_get_1 rfl ?_
  refine S_iload_n (pc := 2) 2 rfl dX12_get_2 rfl ?_
  refine S_call_i (pc := 3) (rest := []) (fun q hq => (x_if hq).elim (fun z => R_V (av := [.int a1, .int a2]) (q := (RX12, TX12, 28)) (M_X12_isBit _ a0 a1 a2 h z.2) z.1 rfl wd_1008 wd_1005 wd_1007 wd_50 wd_27 ⟨rfl, hd_X12_isBit⟩ ⟨Nat.le_of_ble_eq_true rfl, Nat.le_of_ble_eq_true rfl⟩ rfl (Nat.le_of_ble_eq_true rfl) dX12_get_3) (fun hq => (by cases hq))) (fun _ h => absurd h List.not_mem_nil) (fun q1 => ?_)
  refine S_if_eq (pc := 6) (tgt := 21) dX12_get_6 (by decide) ?_ ?_
  · refine S_ldc (pc := 21) wd_903 dX12_get_21 ?_
    exact Sim.fin ⟨dX12_get_23, rfl, rfl⟩ rfl
  · refine S_aload_n (pc := 9) 0 rfl dX12_get_9 rfl ?_
    refine S_getR (pc := 10) fd_X12_now wd_821 dX12_get_10 (fun v2 => ?_)
    refine S_iload_n (pc := 13) 1 rfl dX12_get_13 rfl ?_
    refine S_iload_n (pc := 14) 2 rfl dX12_get_14 rfl ?_
    refine S_call_i (pc := 15) (rest := []) (fun q hq => R_S (av := [.ref v2, .int a1, .int a2]) (M_X12_bit _ v2 a1 a2 q1.2 hq) wd_1018 wd_1016 wd_1017 wd_50 hd_X12_bit ⟨Nat.le_of_ble_eq_true rfl, Nat.le_of_ble_eq_true rfl⟩ rfl (Nat.le_of_ble_eq_true rfl) dX12_get_15) (fun _ h => absurd h List.not_mem_nil) (fun q3 => ?_)
    refine S_goto (pc := 18) (tgt := 23) dX12_get_18 (by decide) ?_
    exact Sim.fin ⟨dX12_get_23, rfl, rfl⟩ rfl
theorem M_X12_get (l : Launch) (a0 : Nat) (a1 : Int32) (a2 : Int32) (h : xH) {q : Int32 × xH} (hq : f_X12_get a0 a1 a2 h = some q) : xM l yX12_get cX12_get 3 (some .int) 3 [.ref a0, .int a1, .int a2] h (some (.int q.1)) q.2 := xM_i (by decide +kernel) (Nat.le_of_ble_eq_true rfl) (fun K L => W_X12_get K L a0 a1 a2 h) hq
theorem dX12_image_0 : decode cX12_image 0 = .ok (.iload_n 1, 1) := by decide +kernel
theorem dX12_image_1 : decode cX12_image 1 = .ok (.iconst 0, 1) := by decide +kernel
theorem dX12_image_2 : decode cX12_image 2 = .ok (.iconst 1, 1) := by decide +kernel
theorem dX12_image_3 : decode cX12_image 3 = .ok (.invokestatic 65, 3) := by decide +kernel
theorem dX12_image_6 : decode cX12_image 6 = .ok (.ifCond .ne 6, 3) := by decide +kernel
theorem dX12_image_9 : decode cX12_image 9 = .ok (.ldc 73, 2) := by decide +kernel
theorem dX12_image_11 : decode cX12_image 11 = .ok (.ireturn, 1) := by decide +kernel
theorem dX12_image_12 : decode cX12_image 12 = .ok (.aload_n 0, 1) := by decide +kernel
theorem dX12_image_13 : decode cX12_image 13 = .ok (.getfield 25, 3) := by decide +kernel
theorem dX12_image_16 : decode cX12_image 16 = .ok (.iconst 0, 1) := by decide +kernel
theorem dX12_image_17 : decode cX12_image 17 = .ok (.aload_n 0, 1) := by decide +kernel
theorem dX12_image_18 : decode cX12_image 18 = .ok (.getfield 34, 3) := by decide +kernel
theorem dX12_image_21 : decode cX12_image 21 = .ok (.sipush 132, 3) := by decide +kernel
theorem dX12_image_24 : decode cX12_image 24 = .ok (.iload_n 1, 1) := by decide +kernel
theorem dX12_image_25 : decode cX12_image 25 = .ok (.imul, 1) := by decide +kernel
theorem dX12_image_26 : decode cX12_image 26 = .ok (.invokestatic 176, 3) := by decide +kernel
theorem dX12_image_29 : decode cX12_image 29 = .ok (.aload_n 0, 1) := by decide +kernel
theorem dX12_image_30 : decode cX12_image 30 = .ok (.getfield 37, 3) := by decide +kernel
theorem dX12_image_33 : decode cX12_image 33 = .ok (.iload_n 1, 1) := by decide +kernel
theorem dX12_image_34 : decode cX12_image 34 = .ok (.iconst 1, 1) := by decide +kernel
theorem dX12_image_35 : decode cX12_image 35 = .ok (.bastore, 1) := by decide +kernel
theorem dX12_image_36 : decode cX12_image 36 = .ok (.aload_n 0, 1) := by decide +kernel
theorem dX12_image_37 : decode cX12_image 37 = .ok (.invokevirtual 223, 3) := by decide +kernel
theorem dX12_image_40 : decode cX12_image 40 = .ok (.ireturn, 1) := by decide +kernel
set_option maxRecDepth 20000 in
set_option maxHeartbeats 4000000 in
theorem W_X12_image (K : xK) (L : xL) (a0 : Nat) (a1 : Int32) (h : xH) : Sim K L cX12_image RX12 "image" 2 4 (fun q : Int32 × xH => q.2) (xRi cX12_image) 0 [(0, .ref a0), (1, .int a1)] [] h (f_X12_image a0 a1 h) := by
  unfold f_X12_image
  refine S_iload_n (pc := 0) 1 rfl dX12_image_0 rfl ?_
  refine S_iconst (pc := 1) dX12_image_1 ic_0 ?_
  refine S_iconst (pc := 2) dX12_image_2 ic_1 ?_
  refine S_call_i (pc := 3) (rest := []) (fun q hq => R_S (av := [.int a1, .int (0 : Int32), .int (1 : Int32)]) (M_X12_in _ a1 (0 : Int32) (1 : Int32) h hq) wd_902 wd_900 wd_901 wd_50 hd_X12_in ⟨Nat.le_of_ble_eq_true rfl, Nat.le_of_ble_eq_true rfl⟩ rfl (Nat.le_of_ble_eq_true rfl) dX12_image_3) (fun _ h => absurd h List.not_mem_nil) (fun q1 => ?_)
  refine S_if_ne (pc := 6) (tgt := 12) dX12_image_6 (by decide) ?_ ?_
  · refine S_ldc (pc := 9) wd_903 dX12_image_9 ?_
    exact Sim.fin ⟨dX12_image_11, rfl, rfl⟩ rfl
  · refine S_aload_n (pc := 12) 0 rfl dX12_image_12 rfl ?_
    refine S_getR (pc := 13) fd_X12_now wd_821 dX12_image_13 (fun v2 => ?_)
    refine S_iconst (pc := 16) dX12_image_16 ic_0 ?_
    refine S_aload_n (pc := 17) 0 rfl dX12_image_17 rfl ?_
    refine S_getR (pc := 18) fd_X12_images wd_825 dX12_image_18 (fun v3 => ?_)
    refine S_sipush (pc := 21) dX12_image_21 si_132 ?_
    refine S_iload_n (pc := 24) 1 rfl dX12_image_24 rfl ?_
    refine S_imul (pc := 25) dX12_image_25 ?_
    refine S_call_v (pc := 26) (rest := []) (fun q hq => R_S (av := [.ref v2, .int (0 : Int32), .ref v3, .int ((132 : Int32) * a1)]) (M_X12_copies _ v2 (0 : Int32) v3 ((132 : Int32) * a1) q1.2 hq) wd_982 wd_980 wd_981 wd_50 hd_X12_copies ⟨Nat.le_of_ble_eq_true rfl, Nat.le_of_ble_eq_true rfl⟩ rfl (Nat.le_of_ble_eq_true rfl) dX12_image_26) (fun _ h => absurd h List.not_mem_nil) (fun q4 => ?_)
    refine S_aload_n (pc := 29) 0 rfl dX12_image_29 rfl ?_
    refine S_getR (pc := 30) fd_X12_kept wd_826 dX12_image_30 (fun v5 => ?_)
    refine S_iload_n (pc := 33) 1 rfl dX12_image_33 rfl ?_
    refine S_iconst (pc := 34) dX12_image_34 ic_1 ?_
    refine S_uZ (pc := 35) dX12_image_35 (fun h6 => ?_)
    refine S_aload_n (pc := 36) 0 rfl dX12_image_36 rfl ?_
    refine S_call_i (pc := 37) (rest := []) (fun q hq => (x_if hq).elim (fun z => R_V (av := []) (q := (RX12, TX12, 28)) (M_X12_onesOfAll _ a0 h6 z.2) z.1 rfl wd_1168 wd_1165 wd_1167 wd_50 wd_34 ⟨rfl, hd_X12_onesOfAll⟩ ⟨Nat.le_of_ble_eq_true rfl, Nat.le_of_ble_eq_true rfl⟩ rfl (Nat.le_of_ble_eq_true rfl) dX12_image_37) (fun hq => (by cases hq))) (fun _ h => absurd h List.not_mem_nil) (fun q7 => ?_)
    exact Sim.fin ⟨dX12_image_40, rfl, rfl⟩ rfl
theorem M_X12_image (l : Launch) (a0 : Nat) (a1 : Int32) (h : xH) {q : Int32 × xH} (hq : f_X12_image a0 a1 h = some q) : xM l yX12_image cX12_image 2 (some .int) 4 [.ref a0, .int a1] h (some (.int q.1)) q.2 := xM_i (by decide +kernel) (Nat.le_of_ble_eq_true rfl) (fun K L => W_X12_image K L a0 a1 h) hq
theorem dX12_isInt_0 : decode cX12_isInt 0 = .ok (.lload_n 0, 1) := by decide +kernel
theorem dX12_isInt_1 : decode cX12_isInt 1 = .ok (.ldc2_w 212, 3) := by decide +kernel
theorem dX12_isInt_4 : decode cX12_isInt 4 = .ok (.lcmp, 1) := by decide +kernel
theorem dX12_isInt_5 : decode cX12_isInt 5 = .ok (.ifCond .lt 15, 3) := by decide +kernel
theorem dX12_isInt_8 : decode cX12_isInt 8 = .ok (.lload_n 0, 1) := by decide +kernel
theorem dX12_isInt_9 : decode cX12_isInt 9 = .ok (.ldc2_w 214, 3) := by decide +kernel
theorem dX12_isInt_12 : decode cX12_isInt 12 = .ok (.lcmp, 1) := by decide +kernel
theorem dX12_isInt_13 : decode cX12_isInt 13 = .ok (.ifCond .gt 7, 3) := by decide +kernel
theorem dX12_isInt_16 : decode cX12_isInt 16 = .ok (.iconst 1, 1) := by decide +kernel
theorem dX12_isInt_17 : decode cX12_isInt 17 = .ok (.goto 4, 3) := by decide +kernel
theorem dX12_isInt_20 : decode cX12_isInt 20 = .ok (.iconst 0, 1) := by decide +kernel
theorem dX12_isInt_21 : decode cX12_isInt 21 = .ok (.ireturn, 1) := by decide +kernel
set_option maxRecDepth 20000 in
set_option maxHeartbeats 4000000 in
theorem W_X12_isInt (K : xK) (L : xL) (a0 : Int64) (h : xH) : Sim K L cX12_isInt RX12 "isInt" 2 0 (fun q : Int32 × xH => q.2) (xRz cX12_isInt) 0 [(0, .long a0)] [] h (f_X12_isInt a0 h) := by
  unfold f_X12_isInt
  refine S_lload_n (pc := 0) 0 rfl dX12_isInt_0 rfl ?_
  refine S_ldc2 (pc := 1) wd_1149 dX12_isInt_1 ?_
  refine S_lcmp (pc := 4) dX12_isInt_4 ?_
  refine S_if_lt (pc := 5) (tgt := 20) dX12_isInt_5 (by decide) ?_ ?_
  · refine S_iconst (pc := 20) dX12_isInt_20 ic_0 ?_
    exact Sim.fin ⟨dX12_isInt_21, rfl, rfl, x_nar (Or.inl rfl)⟩ rfl
  · refine S_lload_n (pc := 8) 0 rfl dX12_isInt_8 rfl ?_
    refine S_ldc2 (pc := 9) wd_1150 dX12_isInt_9 ?_
    refine S_lcmp (pc := 12) dX12_isInt_12 ?_
    refine S_if_gt (pc := 13) (tgt := 20) dX12_isInt_13 (by decide) ?_ ?_
    · refine S_iconst (pc := 20) dX12_isInt_20 ic_0 ?_
      exact Sim.fin ⟨dX12_isInt_21, rfl, rfl, x_nar (Or.inl rfl)⟩ rfl
    · refine S_iconst (pc := 16) dX12_isInt_16 ic_1 ?_
      refine S_goto (pc := 17) (tgt := 21) dX12_isInt_17 (by decide) ?_
      exact Sim.fin ⟨dX12_isInt_21, rfl, rfl, x_nar (Or.inr rfl)⟩ rfl
theorem M_X12_isInt (l : Launch) (a0 : Int64) (h : xH) {q : Int32 × xH} (hq : f_X12_isInt a0 h = some q) : xM l yX12_isInt cX12_isInt 2 (some .boolean) 0 [.long a0] h (some (.int q.1)) q.2 := xM_z (by decide +kernel) (Nat.le_of_ble_eq_true rfl) (fun K L => W_X12_isInt K L a0 h) hq
theorem dX12_isPlace_0 : decode cX12_isPlace 0 = .ok (.iload_n 1, 1) := by decide +kernel
theorem dX12_isPlace_1 : decode cX12_isPlace 1 = .ok (.invokestatic 130, 3) := by decide +kernel
theorem dX12_isPlace_4 : decode cX12_isPlace 4 = .ok (.ifCond .eq 20, 3) := by decide +kernel
theorem dX12_isPlace_7 : decode cX12_isPlace 7 = .ok (.iload_n 2, 1) := by decide +kernel
theorem dX12_isPlace_8 : decode cX12_isPlace 8 = .ok (.iconst 0, 1) := by decide +kernel
theorem dX12_isPlace_9 : decode cX12_isPlace 9 = .ok (.aload_n 0, 1) := by decide +kernel
theorem dX12_isPlace_10 : decode cX12_isPlace 10 = .ok (.iload_n 1, 1) := by decide +kernel
theorem dX12_isPlace_11 : decode cX12_isPlace 11 = .ok (.invokevirtual 167, 3) := by decide +kernel
theorem dX12_isPlace_14 : decode cX12_isPlace 14 = .ok (.invokestatic 65, 3) := by decide +kernel
theorem dX12_isPlace_17 : decode cX12_isPlace 17 = .ok (.ifCond .eq 7, 3) := by decide +kernel
theorem dX12_isPlace_20 : decode cX12_isPlace 20 = .ok (.iconst 1, 1) := by decide +kernel
theorem dX12_isPlace_21 : decode cX12_isPlace 21 = .ok (.goto 4, 3) := by decide +kernel
theorem dX12_isPlace_24 : decode cX12_isPlace 24 = .ok (.iconst 0, 1) := by decide +kernel
theorem dX12_isPlace_25 : decode cX12_isPlace 25 = .ok (.ireturn, 1) := by decide +kernel
set_option maxRecDepth 20000 in
set_option maxHeartbeats 4000000 in
theorem W_X12_isPlace (K : xK) (L : xL) (a0 : Nat) (a1 : Int32) (a2 : Int32) (h : xH) : Sim K L cX12_isPlace RX12 "isPlace" 3 2 (fun q : Int32 × xH => q.2) (xRz cX12_isPlace) 0 [(0, .ref a0), (1, .int a1), (2, .int a2)] [] h (f_X12_isPlace a0 a1 a2 h) := by
  unfold f_X12_isPlace
  refine S_iload_n (pc := 0) 1 rfl dX12_isPlace_0 rfl ?_
  refine S_call_i (pc := 1) (rest := []) (fun q hq => R_S (av := [.int a1]) (M_X12_isVector _ a1 h hq) wd_947 wd_945 wd_946 wd_50 hd_X12_isVector ⟨Nat.le_of_ble_eq_true rfl, Nat.le_of_ble_eq_true rfl⟩ rfl (Nat.le_of_ble_eq_true rfl) dX12_isPlace_1) (fun _ h => absurd h List.not_mem_nil) (fun q1 => ?_)
  refine S_if_eq (pc := 4) (tgt := 24) dX12_isPlace_4 (by decide) ?_ ?_
  · refine S_iconst (pc := 24) dX12_isPlace_24 ic_0 ?_
    exact Sim.fin ⟨dX12_isPlace_25, rfl, rfl, x_nar (Or.inl rfl)⟩ rfl
  · refine S_iload_n (pc := 7) 2 rfl dX12_isPlace_7 rfl ?_
    refine S_iconst (pc := 8) dX12_isPlace_8 ic_0 ?_
    refine S_aload_n (pc := 9) 0 rfl dX12_isPlace_9 rfl ?_
    refine S_iload_n (pc := 10) 1 rfl dX12_isPlace_10 rfl ?_
    refine S_call_i (pc := 11) (rest := [.int (0 : Int32), .int a2]) (fun q hq => (x_if hq).elim (fun z => R_V (av := [.int a1]) (q := (RX12, TX12, 28)) (M_X12_bitsOf _ a0 a1 q1.2 z.2) z.1 rfl wd_1012 wd_1009 wd_1011 wd_50 wd_28 ⟨rfl, hd_X12_bitsOf⟩ ⟨Nat.le_of_ble_eq_true rfl, Nat.le_of_ble_eq_true rfl⟩ rfl (Nat.le_of_ble_eq_true rfl) dX12_isPlace_11) (fun hq => (by cases hq))) (fun _ h => List.mem_cons_of_mem _ (List.mem_cons_of_mem _ (h))) (fun q2 => ?_)
    refine S_call_i (pc := 14) (rest := []) (fun q hq => R_S (av := [.int a2, .int (0 : Int32), .int q2.1]) (M_X12_in _ a2 (0 : Int32) q2.1 q2.2 hq) wd_902 wd_900 wd_901 wd_50 hd_X12_in ⟨Nat.le_of_ble_eq_true rfl, Nat.le_of_ble_eq_true rfl⟩ rfl (Nat.le_of_ble_eq_true rfl) dX12_isPlace_14) (fun _ h => absurd h List.not_mem_nil) (fun q3 => ?_)
    refine S_if_eq (pc := 17) (tgt := 24) dX12_isPlace_17 (by decide) ?_ ?_
    · refine S_iconst (pc := 24) dX12_isPlace_24 ic_0 ?_
      exact Sim.fin ⟨dX12_isPlace_25, rfl, rfl, x_nar (Or.inl rfl)⟩ rfl
    · refine S_iconst (pc := 20) dX12_isPlace_20 ic_1 ?_
      refine S_goto (pc := 21) (tgt := 25) dX12_isPlace_21 (by decide) ?_
      exact Sim.fin ⟨dX12_isPlace_25, rfl, rfl, x_nar (Or.inr rfl)⟩ rfl
theorem M_X12_isPlace (l : Launch) (a0 : Nat) (a1 : Int32) (a2 : Int32) (h : xH) {q : Int32 × xH} (hq : f_X12_isPlace a0 a1 a2 h = some q) : xM l yX12_isPlace cX12_isPlace 3 (some .boolean) 2 [.ref a0, .int a1, .int a2] h (some (.int q.1)) q.2 := xM_z (by decide +kernel) (Nat.le_of_ble_eq_true rfl) (fun K L => W_X12_isPlace K L a0 a1 a2 h) hq
theorem dX12_join_0 : decode cX12_join 0 = .ok (.iload_n 1, 1) := by decide +kernel
theorem dX12_join_1 : decode cX12_join 1 = .ok (.iconst 0, 1) := by decide +kernel
theorem dX12_join_2 : decode cX12_join 2 = .ok (.iconst 3, 1) := by decide +kernel
theorem dX12_join_3 : decode cX12_join 3 = .ok (.invokestatic 65, 3) := by decide +kernel
theorem dX12_join_6 : decode cX12_join 6 = .ok (.ifCond .eq 25, 3) := by decide +kernel
theorem dX12_join_9 : decode cX12_join 9 = .ok (.iload_n 2, 1) := by decide +kernel
theorem dX12_join_10 : decode cX12_join 10 = .ok (.invokestatic 130, 3) := by decide +kernel
theorem dX12_join_13 : decode cX12_join 13 = .ok (.ifCond .eq 18, 3) := by decide +kernel
theorem dX12_join_16 : decode cX12_join 16 = .ok (.iload_n 3, 1) := by decide +kernel
theorem dX12_join_17 : decode cX12_join 17 = .ok (.invokestatic 130, 3) := by decide +kernel
theorem dX12_join_20 : decode cX12_join 20 = .ok (.ifCond .eq 11, 3) := by decide +kernel
theorem dX12_join_23 : decode cX12_join 23 = .ok (.iload 4, 2) := by decide +kernel
theorem dX12_join_25 : decode cX12_join 25 = .ok (.invokestatic 130, 3) := by decide +kernel
theorem dX12_join_28 : decode cX12_join 28 = .ok (.ifCond .ne 6, 3) := by decide +kernel
theorem dX12_join_31 : decode cX12_join 31 = .ok (.ldc 73, 2) := by decide +kernel
theorem dX12_join_33 : decode cX12_join 33 = .ok (.ireturn, 1) := by decide +kernel
theorem dX12_join_34 : decode cX12_join 34 = .ok (.aload_n 0, 1) := by decide +kernel
theorem dX12_join_35 : decode cX12_join 35 = .ok (.invokevirtual 143, 3) := by decide +kernel
theorem dX12_join_38 : decode cX12_join 38 = .ok (.aload_n 0, 1) := by decide +kernel
theorem dX12_join_39 : decode cX12_join 39 = .ok (.iload_n 2, 1) := by decide +kernel
theorem dX12_join_40 : decode cX12_join 40 = .ok (.invokevirtual 167, 3) := by decide +kernel
theorem dX12_join_43 : decode cX12_join 43 = .ok (.aload_n 0, 1) := by decide +kernel
theorem dX12_join_44 : decode cX12_join 44 = .ok (.iload_n 3, 1) := by decide +kernel
theorem dX12_join_45 : decode cX12_join 45 = .ok (.invokevirtual 167, 3) := by decide +kernel
theorem dX12_join_48 : decode cX12_join 48 = .ok (.if_icmp .le 11, 3) := by decide +kernel
theorem dX12_join_51 : decode cX12_join 51 = .ok (.aload_n 0, 1) := by decide +kernel
theorem dX12_join_52 : decode cX12_join 52 = .ok (.iload_n 2, 1) := by decide +kernel
theorem dX12_join_53 : decode cX12_join 53 = .ok (.invokevirtual 167, 3) := by decide +kernel
theorem dX12_join_56 : decode cX12_join 56 = .ok (.goto 8, 3) := by decide +kernel
theorem dX12_join_59 : decode cX12_join 59 = .ok (.aload_n 0, 1) := by decide +kernel
theorem dX12_join_60 : decode cX12_join 60 = .ok (.iload_n 3, 1) := by decide +kernel
theorem dX12_join_61 : decode cX12_join 61 = .ok (.invokevirtual 167, 3) := by decide +kernel
theorem dX12_join_64 : decode cX12_join 64 = .ok (.istore 5, 2) := by decide +kernel
theorem dX12_join_66 : decode cX12_join 66 = .ok (.iconst 1, 1) := by decide +kernel
theorem dX12_join_67 : decode cX12_join 67 = .ok (.istore 6, 2) := by decide +kernel
theorem dX12_join_69 : decode cX12_join 69 = .ok (.iload 6, 2) := by decide +kernel
theorem dX12_join_71 : decode cX12_join 71 = .ok (.bipush 33, 2) := by decide +kernel
theorem dX12_join_73 : decode cX12_join 73 = .ok (.if_icmp .ge 95, 3) := by decide +kernel
theorem dX12_join_76 : decode cX12_join 76 = .ok (.aload_n 0, 1) := by decide +kernel
theorem dX12_join_77 : decode cX12_join 77 = .ok (.getfield 25, 3) := by decide +kernel
theorem dX12_join_80 : decode cX12_join 80 = .ok (.bipush 33, 2) := by decide +kernel
theorem dX12_join_82 : decode cX12_join 82 = .ok (.iload_n 2, 1) := by decide +kernel
theorem dX12_join_83 : decode cX12_join 83 = .ok (.imul, 1) := by decide +kernel
theorem dX12_join_84 : decode cX12_join 84 = .ok (.iload 6, 2) := by decide +kernel
theorem dX12_join_86 : decode cX12_join 86 = .ok (.iadd, 1) := by decide +kernel
theorem dX12_join_87 : decode cX12_join 87 = .ok (.iaload, 1) := by decide +kernel
theorem dX12_join_88 : decode cX12_join 88 = .ok (.istore 7, 2) := by decide +kernel
theorem dX12_join_90 : decode cX12_join 90 = .ok (.aload_n 0, 1) := by decide +kernel
theorem dX12_join_91 : decode cX12_join 91 = .ok (.getfield 25, 3) := by decide +kernel
theorem dX12_join_94 : decode cX12_join 94 = .ok (.bipush 33, 2) := by decide +kernel
theorem dX12_join_96 : decode cX12_join 96 = .ok (.iload_n 3, 1) := by decide +kernel
theorem dX12_join_97 : decode cX12_join 97 = .ok (.imul, 1) := by decide +kernel
theorem dX12_join_98 : decode cX12_join 98 = .ok (.iload 6, 2) := by decide +kernel
theorem dX12_join_100 : decode cX12_join 100 = .ok (.iadd, 1) := by decide +kernel
theorem dX12_join_101 : decode cX12_join 101 = .ok (.iaload, 1) := by decide +kernel
theorem dX12_join_102 : decode cX12_join 102 = .ok (.istore 8, 2) := by decide +kernel
theorem dX12_join_104 : decode cX12_join 104 = .ok (.aload_n 0, 1) := by decide +kernel
theorem dX12_join_105 : decode cX12_join 105 = .ok (.getfield 25, 3) := by decide +kernel
theorem dX12_join_108 : decode cX12_join 108 = .ok (.bipush 33, 2) := by decide +kernel
theorem dX12_join_110 : decode cX12_join 110 = .ok (.iload 4, 2) := by decide +kernel
theorem dX12_join_112 : decode cX12_join 112 = .ok (.imul, 1) := by decide +kernel
theorem dX12_join_113 : decode cX12_join 113 = .ok (.iload 6, 2) := by decide +kernel
theorem dX12_join_115 : decode cX12_join 115 = .ok (.iadd, 1) := by decide +kernel
theorem dX12_join_116 : decode cX12_join 116 = .ok (.iload_n 1, 1) := by decide +kernel
theorem dX12_join_117 : decode cX12_join 117 = .ok (.ifCond .ne 11, 3) := by decide +kernel
theorem dX12_join_120 : decode cX12_join 120 = .ok (.iload 7, 2) := by decide +kernel
theorem dX12_join_122 : decode cX12_join 122 = .ok (.iload 8, 2) := by decide +kernel
theorem dX12_join_124 : decode cX12_join 124 = .ok (.iand, 1) := by decide +kernel
theorem dX12_join_125 : decode cX12_join 125 = .ok (.goto 36, 3) := by decide +kernel
theorem dX12_join_128 : decode cX12_join 128 = .ok (.iload_n 1, 1) := by decide +kernel
theorem dX12_join_129 : decode cX12_join 129 = .ok (.iconst 1, 1) := by decide +kernel
theorem dX12_join_130 : decode cX12_join 130 = .ok (.if_icmp .ne 11, 3) := by decide +kernel
theorem dX12_join_133 : decode cX12_join 133 = .ok (.iload 7, 2) := by decide +kernel
theorem dX12_join_135 : decode cX12_join 135 = .ok (.iload 8, 2) := by decide +kernel
theorem dX12_join_137 : decode cX12_join 137 = .ok (.ior, 1) := by decide +kernel
theorem dX12_join_138 : decode cX12_join 138 = .ok (.goto 23, 3) := by decide +kernel
theorem dX12_join_141 : decode cX12_join 141 = .ok (.iload_n 1, 1) := by decide +kernel
theorem dX12_join_142 : decode cX12_join 142 = .ok (.iconst 2, 1) := by decide +kernel
theorem dX12_join_143 : decode cX12_join 143 = .ok (.if_icmp .ne 11, 3) := by decide +kernel
theorem dX12_join_146 : decode cX12_join 146 = .ok (.iload 7, 2) := by decide +kernel
theorem dX12_join_148 : decode cX12_join 148 = .ok (.iload 8, 2) := by decide +kernel
theorem dX12_join_150 : decode cX12_join 150 = .ok (.ixor, 1) := by decide +kernel
theorem dX12_join_151 : decode cX12_join 151 = .ok (.goto 10, 3) := by decide +kernel
theorem dX12_join_154 : decode cX12_join 154 = .ok (.iload 7, 2) := by decide +kernel
theorem dX12_join_156 : decode cX12_join 156 = .ok (.iload 8, 2) := by decide +kernel
theorem dX12_join_158 : decode cX12_join 158 = .ok (.iconst (-1), 1) := by decide +kernel
theorem dX12_join_159 : decode cX12_join 159 = .ok (.ixor, 1) := by decide +kernel
theorem dX12_join_160 : decode cX12_join 160 = .ok (.iand, 1) := by decide +kernel
theorem dX12_join_161 : decode cX12_join 161 = .ok (.iastore, 1) := by decide +kernel
theorem dX12_join_162 : decode cX12_join 162 = .ok (.iinc 6 1, 3) := by decide +kernel
theorem dX12_join_165 : decode cX12_join 165 = .ok (.goto (-96), 3) := by decide +kernel
theorem dX12_join_168 : decode cX12_join 168 = .ok (.aload_n 0, 1) := by decide +kernel
theorem dX12_join_169 : decode cX12_join 169 = .ok (.getfield 25, 3) := by decide +kernel
theorem dX12_join_172 : decode cX12_join 172 = .ok (.bipush 33, 2) := by decide +kernel
theorem dX12_join_174 : decode cX12_join 174 = .ok (.iload 4, 2) := by decide +kernel
theorem dX12_join_176 : decode cX12_join 176 = .ok (.imul, 1) := by decide +kernel
theorem dX12_join_177 : decode cX12_join 177 = .ok (.iload 5, 2) := by decide +kernel
theorem dX12_join_179 : decode cX12_join 179 = .ok (.iastore, 1) := by decide +kernel
theorem dX12_join_180 : decode cX12_join 180 = .ok (.aload_n 0, 1) := by decide +kernel
theorem dX12_join_181 : decode cX12_join 181 = .ok (.iload 4, 2) := by decide +kernel
theorem dX12_join_183 : decode cX12_join 183 = .ok (.invokevirtual 187, 3) := by decide +kernel
theorem dX12_join_186 : decode cX12_join 186 = .ok (.ireturn, 1) := by decide +kernel
set_option maxRecDepth 20000 in
set_option maxHeartbeats 4000000 in
theorem L_X12_join_69 (K : xK) (L : xL) : ∀ (n : Nat) (a0 : Nat) (a1 : Int32) (a2 : Int32) (a3 : Int32) (a4 : Int32) (a5 : Int32) (a6 : Int32) (h : xH), Sim K L cX12_join RX12 "join" 9 3 (fun q : Int32 × xH => q.2) (fun q pc' ls' st' h' => pc' = 168 ∧ ls' = [(0, .ref a0), (1, .int a1), (2, .int a2), (3, .int a3), (4, .int a4), (5, .int a5), (6, .int q.1)] ∧ st' = [] ∧ h' = q.2) 69 [(0, .ref a0), (1, .int a1), (2, .int a2), (3, .int a3), (4, .int a4), (5, .int a5), (6, .int a6)] [] h (f_X12_join_L69 n a0 a1 a2 a3 a4 a5 a6 h) := by
  intro n
  induction n with
  | zero =>
    intro a0 a1 a2 a3 a4 a5 a6 h
    exact Sim.none
  | succ n ih =>
    intro a0 a1 a2 a3 a4 a5 a6 h
    unfold f_X12_join_L69
    refine S_iload (pc := 69) 6 rfl dX12_join_69 ?_
    refine S_bipush (pc := 71) dX12_join_71 bi_33 ?_
    refine S_icmp_ge (pc := 73) (tgt := 168) dX12_join_73 (by decide) ?_ ?_
    · refine S_sub [0, 1, 2, 3, 4, 5, 6] rfl ?_
      exact Sim.fin ⟨rfl, rfl, rfl, rfl⟩ rfl
    · refine S_aload_n (pc := 76) 0 rfl dX12_join_76 rfl ?_
      refine S_getR (pc := 77) fd_X12_now wd_821 dX12_join_77 (fun v11 => ?_)
      refine S_bipush (pc := 80) dX12_join_80 bi_33 ?_
      refine S_iload_n (pc := 82) 2 rfl dX12_join_82 rfl ?_
      refine S_imul (pc := 83) dX12_join_83 ?_
      refine S_iload (pc := 84) 6 rfl dX12_join_84 ?_
      refine S_iadd (pc := 86) dX12_join_86 ?_
      refine S_aI (pc := 87) dX12_join_87 (fun v12 => ?_)
      refine S_istore (pc := 88) dX12_join_88 (Nat.le_of_ble_eq_true rfl) rfl ?_
      refine S_aload_n (pc := 90) 1 rfl dX12_join_90 rfl ?_
      refine S_getR (pc := 91) fd_X12_now wd_821 dX12_join_91 (fun v13 => ?_)
      refine S_bipush (pc := 94) dX12_join_94 bi_33 ?_
      refine S_iload_n (pc := 96) 4 rfl dX12_join_96 rfl ?_
      refine S_imul (pc := 97) dX12_join_97 ?_
      refine S_iload (pc := 98) 7 rfl dX12_join_98 ?_
      refine S_iadd (pc := 100) dX12_join_100 ?_
      refine S_aI (pc := 101) dX12_join_101 (fun v14 => ?_)
      refine S_istore (pc := 102) dX12_join_102 (Nat.le_of_ble_eq_true rfl) rfl ?_
      refine S_aload_n (pc := 104) 2 rfl dX12_join_104 rfl ?_
      refine S_getR (pc := 105) fd_X12_now wd_821 dX12_join_105 (fun v15 => ?_)
      refine S_bipush (pc := 108) dX12_join_108 bi_33 ?_
      refine S_iload (pc := 110) 6 rfl dX12_join_110 ?_
      refine S_imul (pc := 112) dX12_join_112 ?_
      refine S_iload (pc := 113) 8 rfl dX12_join_113 ?_
      refine S_iadd (pc := 115) dX12_join_115 ?_
      refine S_iload_n (pc := 116) 3 rfl dX12_join_116 rfl ?_
      refine S_if_ne (pc := 117) (tgt := 128) dX12_join_117 (by decide) ?_ ?_
      · refine S_iload (pc := 120) 1 rfl dX12_join_120 ?_
        refine S_iload (pc := 122) 0 rfl dX12_join_122 ?_
        refine S_iand (pc := 124) dX12_join_124 ?_
        refine S_goto (pc := 125) (tgt := 161) dX12_join_125 (by decide) ?_
        refine S_uI (pc := 161) dX12_join_161 (fun h16 => ?_)
        refine S_iinc (pc := 162) (v := a6 + (1 : Int32)) 8 rfl dX12_join_162 (x_inc ic_1) (Nat.le_of_ble_eq_true rfl) rfl ?_
        refine S_goto (pc := 165) (tgt := 69) dX12_join_165 (by decide) ?_
        refine S_sub [3, 4, 5, 6, 7, 8, 0] rfl ?_
        exact ih a0 a1 a2 a3 a4 a5 (a6 + (1 : Int32)) h16
      · refine S_iload_n (pc := 128) 3 rfl dX12_join_128 rfl ?_
        refine S_iconst (pc := 129) dX12_join_129 ic_1 ?_
        refine S_icmp_ne (pc := 130) (tgt := 141) dX12_join_130 (by decide) ?_ ?_
        · refine S_iload (pc := 133) 1 rfl dX12_join_133 ?_
          refine S_iload (pc := 135) 0 rfl dX12_join_135 ?_
          refine S_ior (pc := 137) dX12_join_137 ?_
          refine S_goto (pc := 138) (tgt := 161) dX12_join_138 (by decide) ?_
          refine S_uI (pc := 161) dX12_join_161 (fun h17 => ?_)
          refine S_iinc (pc := 162) (v := a6 + (1 : Int32)) 8 rfl dX12_join_162 (x_inc ic_1) (Nat.le_of_ble_eq_true rfl) rfl ?_
          refine S_goto (pc := 165) (tgt := 69) dX12_join_165 (by decide) ?_
          refine S_sub [3, 4, 5, 6, 7, 8, 0] rfl ?_
          exact ih a0 a1 a2 a3 a4 a5 (a6 + (1 : Int32)) h17
        · refine S_iload_n (pc := 141) 3 rfl dX12_join_141 rfl ?_
          refine S_iconst (pc := 142) dX12_join_142 ic_2 ?_
          refine S_icmp_ne (pc := 143) (tgt := 154) dX12_join_143 (by decide) ?_ ?_
          · refine S_iload (pc := 146) 1 rfl dX12_join_146 ?_
            refine S_iload (pc := 148) 0 rfl dX12_join_148 ?_
            refine S_ixor (pc := 150) dX12_join_150 ?_
            refine S_goto (pc := 151) (tgt := 161) dX12_join_151 (by decide) ?_
            refine S_uI (pc := 161) dX12_join_161 (fun h18 => ?_)
            refine S_iinc (pc := 162) (v := a6 + (1 : Int32)) 8 rfl dX12_join_162 (x_inc ic_1) (Nat.le_of_ble_eq_true rfl) rfl ?_
            refine S_goto (pc := 165) (tgt := 69) dX12_join_165 (by decide) ?_
            refine S_sub [3, 4, 5, 6, 7, 8, 0] rfl ?_
            exact ih a0 a1 a2 a3 a4 a5 (a6 + (1 : Int32)) h18
          · refine S_iload (pc := 154) 1 rfl dX12_join_154 ?_
            refine S_iload (pc := 156) 0 rfl dX12_join_156 ?_
            refine S_iconst (pc := 158) dX12_join_158 ic_m1 ?_
            refine S_ixor (pc := 159) dX12_join_159 ?_
            refine S_iand (pc := 160) dX12_join_160 ?_
            refine S_uI (pc := 161) dX12_join_161 (fun h19 => ?_)
            refine S_iinc (pc := 162) (v := a6 + (1 : Int32)) 8 rfl dX12_join_162 (x_inc ic_1) (Nat.le_of_ble_eq_true rfl) rfl ?_
            refine S_goto (pc := 165) (tgt := 69) dX12_join_165 (by decide) ?_
            refine S_sub [3, 4, 5, 6, 7, 8, 0] rfl ?_
            exact ih a0 a1 a2 a3 a4 a5 (a6 + (1 : Int32)) h19
set_option maxRecDepth 20000 in
set_option maxHeartbeats 4000000 in
theorem W_X12_join (K : xK) (L : xL) (a0 : Nat) (a1 : Int32) (a2 : Int32) (a3 : Int32) (a4 : Int32) (h : xH) : Sim K L cX12_join RX12 "join" 9 3 (fun q : Int32 × xH => q.2) (xRi cX12_join) 0 [(0, .ref a0), (1, .int a1), (2, .int a2), (3, .int a3), (4, .int a4)] [] h (f_X12_join a0 a1 a2 a3 a4 h) := by
  unfold f_X12_join
  refine S_iload_n (pc := 0) 1 rfl dX12_join_0 rfl ?_
  refine S_iconst (pc := 1) dX12_join_1 ic_0 ?_
  refine S_iconst (pc := 2) dX12_join_2 ic_3 ?_
  refine S_call_i (pc := 3) (rest := []) (fun q hq => R_S (av := [.int a1, .int (0 : Int32), .int (3 : Int32)]) (M_X12_in _ a1 (0 : Int32) (3 : Int32) h hq) wd_902 wd_900 wd_901 wd_50 hd_X12_in ⟨Nat.le_of_ble_eq_true rfl, Nat.le_of_ble_eq_true rfl⟩ rfl (Nat.le_of_ble_eq_true rfl) dX12_join_3) (fun _ h => absurd h List.not_mem_nil) (fun q1 => ?_)
  refine S_if_eq (pc := 6) (tgt := 31) dX12_join_6 (by decide) ?_ ?_
  · refine S_ldc (pc := 31) wd_903 dX12_join_31 ?_
    exact Sim.fin ⟨dX12_join_33, rfl, rfl⟩ rfl
  · refine S_iload_n (pc := 9) 2 rfl dX12_join_9 rfl ?_
    refine S_call_i (pc := 10) (rest := []) (fun q hq => R_S (av := [.int a2]) (M_X12_isVector _ a2 q1.2 hq) wd_947 wd_945 wd_946 wd_50 hd_X12_isVector ⟨Nat.le_of_ble_eq_true rfl, Nat.le_of_ble_eq_true rfl⟩ rfl (Nat.le_of_ble_eq_true rfl) dX12_join_10) (fun _ h => absurd h List.not_mem_nil) (fun q2 => ?_)
    refine S_if_eq (pc := 13) (tgt := 31) dX12_join_13 (by decide) ?_ ?_
    · refine S_ldc (pc := 31) wd_903 dX12_join_31 ?_
      exact Sim.fin ⟨dX12_join_33, rfl, rfl⟩ rfl
    · refine S_iload_n (pc := 16) 3 rfl dX12_join_16 rfl ?_
      refine S_call_i (pc := 17) (rest := []) (fun q hq => R_S (av := [.int a3]) (M_X12_isVector _ a3 q2.2 hq) wd_947 wd_945 wd_946 wd_50 hd_X12_isVector ⟨Nat.le_of_ble_eq_true rfl, Nat.le_of_ble_eq_true rfl⟩ rfl (Nat.le_of_ble_eq_true rfl) dX12_join_17) (fun _ h => absurd h List.not_mem_nil) (fun q3 => ?_)
      refine S_if_eq (pc := 20) (tgt := 31) dX12_join_20 (by decide) ?_ ?_
      · refine S_ldc (pc := 31) wd_903 dX12_join_31 ?_
        exact Sim.fin ⟨dX12_join_33, rfl, rfl⟩ rfl
      · refine S_iload (pc := 23) 4 rfl dX12_join_23 ?_
        refine S_call_i (pc := 25) (rest := []) (fun q hq => R_S (av := [.int a4]) (M_X12_isVector _ a4 q3.2 hq) wd_947 wd_945 wd_946 wd_50 hd_X12_isVector ⟨Nat.le_of_ble_eq_true rfl, Nat.le_of_ble_eq_true rfl⟩ rfl (Nat.le_of_ble_eq_true rfl) dX12_join_25) (fun _ h => absurd h List.not_mem_nil) (fun q4 => ?_)
        refine S_if_ne (pc := 28) (tgt := 34) dX12_join_28 (by decide) ?_ ?_
        · refine S_ldc (pc := 31) wd_903 dX12_join_31 ?_
          exact Sim.fin ⟨dX12_join_33, rfl, rfl⟩ rfl
        · refine S_aload_n (pc := 34) 0 rfl dX12_join_34 rfl ?_
          refine S_call_v (pc := 35) (rest := []) (fun q hq => (x_if hq).elim (fun z => R_V (av := []) (q := (RX12, TX12, 28)) (M_X12_notes _ a0 q4.2 z.2) z.1 rfl wd_979 wd_976 wd_978 wd_50 wd_24 ⟨rfl, hd_X12_notes⟩ ⟨Nat.le_of_ble_eq_true rfl, Nat.le_of_ble_eq_true rfl⟩ rfl (Nat.le_of_ble_eq_true rfl) dX12_join_35) (fun hq => (by cases hq))) (fun _ h => absurd h List.not_mem_nil) (fun q5 => ?_)
          refine S_aload_n (pc := 38) 0 rfl dX12_join_38 rfl ?_
          refine S_iload_n (pc := 39) 2 rfl dX12_join_39 rfl ?_
          refine S_call_i (pc := 40) (rest := []) (fun q hq => (x_if hq).elim (fun z => R_V (av := [.int a2]) (q := (RX12, TX12, 28)) (M_X12_bitsOf _ a0 a2 q5 z.2) z.1 rfl wd_1012 wd_1009 wd_1011 wd_50 wd_28 ⟨rfl, hd_X12_bitsOf⟩ ⟨Nat.le_of_ble_eq_true rfl, Nat.le_of_ble_eq_true rfl⟩ rfl (Nat.le_of_ble_eq_true rfl) dX12_join_40) (fun hq => (by cases hq))) (fun _ h => absurd h List.not_mem_nil) (fun q6 => ?_)
          refine S_aload_n (pc := 43) 0 rfl dX12_join_43 rfl ?_
          refine S_iload_n (pc := 44) 3 rfl dX12_join_44 rfl ?_
          refine S_call_i (pc := 45) (rest := [.int q6.1]) (fun q hq => (x_if hq).elim (fun z => R_V (av := [.int a3]) (q := (RX12, TX12, 28)) (M_X12_bitsOf _ a0 a3 q6.2 z.2) z.1 rfl wd_1012 wd_1009 wd_1011 wd_50 wd_28 ⟨rfl, hd_X12_bitsOf⟩ ⟨Nat.le_of_ble_eq_true rfl, Nat.le_of_ble_eq_true rfl⟩ rfl (Nat.le_of_ble_eq_true rfl) dX12_join_45) (fun hq => (by cases hq))) (fun _ h => List.mem_cons_of_mem _ (List.mem_cons_of_mem _ (h))) (fun q7 => ?_)
          refine Sim.bindS (hs := fun q10 : Int32 × xH => q10.2) (px := 64) (lsx := fun q10 => [(0, .ref a0), (1, .int a1), (2, .int a2), (3, .int a3), (4, .int a4)]) (stx := fun q10 => [.int q10.1]) ?_ (fun q10 => ?_)
          · refine S_icmp_le (pc := 48) (tgt := 59) dX12_join_48 (by decide) ?_ ?_
            · refine S_aload_n (pc := 59) 0 rfl dX12_join_59 rfl ?_
              refine S_iload_n (pc := 60) 3 rfl dX12_join_60 rfl ?_
              refine S_call_i (pc := 61) (rest := []) (fun q hq => (x_if hq).elim (fun z => R_V (av := [.int a3]) (q := (RX12, TX12, 28)) (M_X12_bitsOf _ a0 a3 q7.2 z.2) z.1 rfl wd_1012 wd_1009 wd_1011 wd_50 wd_28 ⟨rfl, hd_X12_bitsOf⟩ ⟨Nat.le_of_ble_eq_true rfl, Nat.le_of_ble_eq_true rfl⟩ rfl (Nat.le_of_ble_eq_true rfl) dX12_join_61) (fun hq => (by cases hq))) (fun _ h => absurd h List.not_mem_nil) (fun q8 => ?_)
              refine S_sub [0, 1, 2, 3, 4] rfl ?_
              exact Sim.fin ⟨rfl, rfl, rfl, rfl⟩ rfl
            · refine S_aload_n (pc := 51) 0 rfl dX12_join_51 rfl ?_
              refine S_iload_n (pc := 52) 2 rfl dX12_join_52 rfl ?_
              refine S_call_i (pc := 53) (rest := []) (fun q hq => (x_if hq).elim (fun z => R_V (av := [.int a2]) (q := (RX12, TX12, 28)) (M_X12_bitsOf _ a0 a2 q7.2 z.2) z.1 rfl wd_1012 wd_1009 wd_1011 wd_50 wd_28 ⟨rfl, hd_X12_bitsOf⟩ ⟨Nat.le_of_ble_eq_true rfl, Nat.le_of_ble_eq_true rfl⟩ rfl (Nat.le_of_ble_eq_true rfl) dX12_join_53) (fun hq => (by cases hq))) (fun _ h => absurd h List.not_mem_nil) (fun q9 => ?_)
              refine S_goto (pc := 56) (tgt := 64) dX12_join_56 (by decide) ?_
              refine S_sub [0, 1, 2, 3, 4] rfl ?_
              exact Sim.fin ⟨rfl, rfl, rfl, rfl⟩ rfl
          · refine S_istore (pc := 64) dX12_join_64 (Nat.le_of_ble_eq_true rfl) rfl ?_
            refine S_iconst (pc := 66) dX12_join_66 ic_1 ?_
            refine S_istore (pc := 67) dX12_join_67 (Nat.le_of_ble_eq_true rfl) rfl ?_
            refine S_sub [2, 3, 4, 5, 6, 1, 0] rfl ?_
            refine Sim.bind (hs := fun q20 : Int32 × xH => q20.2) (px := 168) (lsx := fun q20 => [(0, .ref a0), (1, .int a1), (2, .int a2), (3, .int a3), (4, .int a4), (5, .int q10.1), (6, .int q20.1)]) (L_X12_join_69 K L xN a0 a1 a2 a3 a4 q10.1 (1 : Int32) q10.2) (fun q20 => ?_)
            refine S_aload_n (pc := 168) 0 rfl dX12_join_168 rfl ?_
            refine S_getR (pc := 169) fd_X12_now wd_821 dX12_join_169 (fun v21 => ?_)
            refine S_bipush (pc := 172) dX12_join_172 bi_33 ?_
            refine S_iload (pc := 174) 4 rfl dX12_join_174 ?_
            refine S_imul (pc := 176) dX12_join_176 ?_
            refine S_iload (pc := 177) 5 rfl dX12_join_177 ?_
            refine S_uI (pc := 179) dX12_join_179 (fun h22 => ?_)
            refine S_aload_n (pc := 180) 0 rfl dX12_join_180 rfl ?_
            refine S_iload (pc := 181) 4 rfl dX12_join_181 ?_
            refine S_call_i (pc := 183) (rest := []) (fun q hq => (x_if hq).elim (fun z => R_V (av := [.int a4]) (q := (RX12, TX12, 28)) (M_X12_allOnes _ a0 a4 h22 z.2) z.1 rfl wd_1034 wd_1031 wd_1033 wd_50 wd_29 ⟨rfl, hd_X12_allOnes⟩ ⟨Nat.le_of_ble_eq_true rfl, Nat.le_of_ble_eq_true rfl⟩ rfl (Nat.le_of_ble_eq_true rfl) dX12_join_183) (fun hq => (by cases hq))) (fun _ h => absurd h List.not_mem_nil) (fun q23 => ?_)
            exact Sim.fin ⟨dX12_join_186, rfl, rfl⟩ rfl
theorem M_X12_join (l : Launch) (a0 : Nat) (a1 : Int32) (a2 : Int32) (a3 : Int32) (a4 : Int32) (h : xH) {q : Int32 × xH} (hq : f_X12_join a0 a1 a2 a3 a4 h = some q) : xM l yX12_join cX12_join 9 (some .int) 3 [.ref a0, .int a1, .int a2, .int a3, .int a4] h (some (.int q.1)) q.2 := xM_i (by decide +kernel) (Nat.le_of_ble_eq_true rfl) (fun K L => W_X12_join K L a0 a1 a2 a3 a4 h) hq
