theorem dX1_init_0 : decode cX1_init 0 = .ok (.aload_n 0, 1) := by decide +kernel
theorem dX1_init_1 : decode cX1_init 1 = .ok (.invokespecial 3, 3) := by decide +kernel
theorem dX1_init_4 : decode cX1_init 4 = .ok (.aload_n 0, 1) := by decide +kernel
theorem dX1_init_5 : decode cX1_init 5 = .ok (.bipush 32, 2) := by decide +kernel
theorem dX1_init_7 : decode cX1_init 7 = .ok (.newarray .int, 2) := by decide +kernel
theorem dX1_init_9 : decode cX1_init 9 = .ok (.putfield 9, 3) := by decide +kernel
theorem dX1_init_12 : decode cX1_init 12 = .ok (.return_, 1) := by decide +kernel
set_option maxRecDepth 20000 in
set_option maxHeartbeats 4000000 in
theorem W_X1_init (K : xK) (L : xL) (a0 : Nat) (h : xH) : Sim K L cX1_init RX1 "<init>" 1 1 (fun q : xH => q) (xRv cX1_init) 0 [(0, .ref a0)] [] h (f_X1_init a0 h) := by
  unfold f_X1_init
  refine S_aload_n (pc := 0) 0 rfl dX1_init_0 rfl ?_
  refine S_objInit (pc := 1) (Nat.le_of_ble_eq_true rfl) wd_77 wd_67 wd_68 (Nat.le_of_ble_eq_true rfl) dX1_init_1 ?_
  refine S_aload_n (pc := 4) 0 rfl dX1_init_4 rfl ?_
  refine S_bipush (pc := 5) dX1_init_5 bi_32 ?_
  refine S_newI (pc := 7) (N := 32) wd_88 (by decide) (by decide) (by decide) dX1_init_7 ?_
  refine S_putRF (pc := 9) fd_X1_masks wd_78 (fun _ => rfl) (fun _ => rfl) dX1_init_9 (fun h1 => ?_)
  exact Sim.fin ⟨dX1_init_12, rfl, rfl⟩ rfl
theorem M_X1_init (l : Launch) (a0 : Nat) (h : xH) {q : xH} (hq : f_X1_init a0 h = some q) : xM l yX1_init cX1_init 1 none 1 [.ref a0] h none q := xM_v (by decide +kernel) (Nat.le_of_ble_eq_true rfl) (fun K L => W_X1_init K L a0 h) hq
theorem dX3_init_0 : decode cX3_init 0 = .ok (.aload_n 0, 1) := by decide +kernel
theorem dX3_init_1 : decode cX3_init 1 = .ok (.invokespecial 3, 3) := by decide +kernel
theorem dX3_init_4 : decode cX3_init 4 = .ok (.aload_n 0, 1) := by decide +kernel
theorem dX3_init_5 : decode cX3_init 5 = .ok (.bipush 12, 2) := by decide +kernel
theorem dX3_init_7 : decode cX3_init 7 = .ok (.anewarray 9, 3) := by decide +kernel
theorem dX3_init_10 : decode cX3_init 10 = .ok (.putfield 11, 3) := by decide +kernel
theorem dX3_init_13 : decode cX3_init 13 = .ok (.aload_n 0, 1) := by decide +kernel
theorem dX3_init_14 : decode cX3_init 14 = .ok (.bipush 12, 2) := by decide +kernel
theorem dX3_init_16 : decode cX3_init 16 = .ok (.newarray .int, 2) := by decide +kernel
theorem dX3_init_18 : decode cX3_init 18 = .ok (.putfield 17, 3) := by decide +kernel
theorem dX3_init_21 : decode cX3_init 21 = .ok (.iconst 0, 1) := by decide +kernel
theorem dX3_init_22 : decode cX3_init 22 = .ok (.istore_n 1, 1) := by decide +kernel
theorem dX3_init_23 : decode cX3_init 23 = .ok (.iload_n 1, 1) := by decide +kernel
theorem dX3_init_24 : decode cX3_init 24 = .ok (.bipush 12, 2) := by decide +kernel
theorem dX3_init_26 : decode cX3_init 26 = .ok (.if_icmp .ge 22, 3) := by decide +kernel
theorem dX3_init_29 : decode cX3_init 29 = .ok (.aload_n 0, 1) := by decide +kernel
theorem dX3_init_30 : decode cX3_init 30 = .ok (.getfield 11, 3) := by decide +kernel
theorem dX3_init_33 : decode cX3_init 33 = .ok (.iload_n 1, 1) := by decide +kernel
theorem dX3_init_34 : decode cX3_init 34 = .ok (.new 9, 3) := by decide +kernel
theorem dX3_init_37 : decode cX3_init 37 = .ok (.dup, 1) := by decide +kernel
theorem dX3_init_38 : decode cX3_init 38 = .ok (.invokespecial 21, 3) := by decide +kernel
theorem dX3_init_41 : decode cX3_init 41 = .ok (.aastore, 1) := by decide +kernel
theorem dX3_init_42 : decode cX3_init 42 = .ok (.iinc 1 1, 3) := by decide +kernel
theorem dX3_init_45 : decode cX3_init 45 = .ok (.goto (-22), 3) := by decide +kernel
theorem dX3_init_48 : decode cX3_init 48 = .ok (.return_, 1) := by decide +kernel
set_option maxRecDepth 20000 in
set_option maxHeartbeats 4000000 in
theorem L_X3_init_23 (K : xK) (L : xL) : ∀ (n : Nat) (a0 : Nat) (a1 : Int32) (h : xH), Sim K L cX3_init RX3 "<init>" 2 2 (fun q : Int32 × xH => q.2) (fun q pc' ls' st' h' => pc' = 48 ∧ ls' = [(0, .ref a0), (1, .int q.1)] ∧ st' = [] ∧ h' = q.2) 23 [(0, .ref a0), (1, .int a1)] [] h (f_X3_init_L23 n a0 a1 h) := by
  intro n
  induction n with
  | zero =>
    intro a0 a1 h
    exact Sim.none
  | succ n ih =>
    intro a0 a1 h
    unfold f_X3_init_L23
    refine S_iload_n (pc := 23) 1 rfl dX3_init_23 rfl ?_
    refine S_bipush (pc := 24) dX3_init_24 bi_12 ?_
    refine S_icmp_ge (pc := 26) (tgt := 48) dX3_init_26 (by decide) ?_ ?_
    · refine S_sub [0, 1] rfl ?_
      exact Sim.fin ⟨rfl, rfl, rfl, rfl⟩ rfl
    · refine S_aload_n (pc := 29) 0 rfl dX3_init_29 rfl ?_
      refine S_getR (pc := 30) fd_X3_before wd_97 dX3_init_30 (fun v3 => ?_)
      refine S_iload_n (pc := 33) 1 rfl dX3_init_33 rfl ?_
      refine S_new (pc := 34) (ci := 1) (fs := [.null, .int 0]) rfl inG1 tyX1_ok wd_95 wd_73 wd_45 nf_1 rfl (fun _ => rfl) nc_1 dX3_init_34 ?_
      refine S_dup (pc := 37) rfl dX3_init_37 ?_
      refine S_call_v (pc := 38) (rest := [.ref h.length, .int a1, .ref v3]) (fun q hq => R_IN (host := RX11) (av := []) (M_X1_init _ h.length (h ++ [.inr (1, [.null, .int 0])]) hq) wd_76 (by decide +kernel) wd_75 wd_45 rfl hd_X1_init ⟨Nat.le_of_ble_eq_true rfl, Nat.le_of_ble_eq_true rfl⟩ rfl (Nat.le_of_ble_eq_true rfl) dX3_init_38) (fun _ h => List.mem_cons_of_mem _ (h)) (fun q4 => ?_)
      refine Sim.ite (fun hk7 => ?_) (fun _ => ?_)
      · refine S_uR (pc := 41) (fun _ => rfl) hk7 rfl (Or.inl rfl) dX3_init_41 (fun h6 => ?_)
        refine S_iinc (pc := 42) (v := a1 + (1 : Int32)) 1 rfl dX3_init_42 (x_inc ic_1) (Nat.le_of_ble_eq_true rfl) rfl ?_
        refine S_goto (pc := 45) (tgt := 23) dX3_init_45 (by decide) ?_
        refine S_sub [1, 0] rfl ?_
        exact ih a0 (a1 + (1 : Int32)) h6
      exact Sim.none
set_option maxRecDepth 20000 in
set_option maxHeartbeats 4000000 in
theorem W_X3_init (K : xK) (L : xL) (a0 : Nat) (h : xH) : Sim K L cX3_init RX3 "<init>" 2 2 (fun q : xH => q) (xRv cX3_init) 0 [(0, .ref a0)] [] h (f_X3_init a0 h) := by
  unfold f_X3_init
  refine S_aload_n (pc := 0) 0 rfl dX3_init_0 rfl ?_
  refine S_objInit (pc := 1) (Nat.le_of_ble_eq_true rfl) wd_94 wd_67 wd_68 (Nat.le_of_ble_eq_true rfl) dX3_init_1 ?_
  refine S_aload_n (pc := 4) 0 rfl dX3_init_4 rfl ?_
  refine S_bipush (pc := 5) dX3_init_5 bi_12 ?_
  refine S_newQ (pc := 7) (t := 3) (N := 12) (fun _ => rfl) (by decide +kernel) wd_95 (by decide) (by decide) (by decide) dX3_init_7 ?_
  refine S_putRF (pc := 10) fd_X3_before wd_97 (fun _ => rfl) (fun _ => rfl) dX3_init_10 (fun h1 => ?_)
  refine S_aload_n (pc := 13) 0 rfl dX3_init_13 rfl ?_
  refine S_bipush (pc := 14) dX3_init_14 bi_12 ?_
  refine S_newI (pc := 16) (N := 12) wd_88 (by decide) (by decide) (by decide) dX3_init_16 ?_
  refine S_putRF (pc := 18) fd_X3_changed wd_98 (fun _ => rfl) (fun _ => rfl) dX3_init_18 (fun h2 => ?_)
  refine S_iconst (pc := 21) dX3_init_21 ic_0 ?_
  refine S_istore_n (pc := 22) dX3_init_22 rfl (Nat.le_of_ble_eq_true rfl) rfl ?_
  refine S_sub [1, 0] rfl ?_
  refine Sim.bind (hs := fun q8 : Int32 × xH => q8.2) (px := 48) (lsx := fun q8 => [(0, .ref a0), (1, .int q8.1)]) (L_X3_init_23 K L xN a0 (0 : Int32) h2) (fun q8 => ?_)
  exact Sim.fin ⟨dX3_init_48, rfl, rfl⟩ rfl
theorem M_X3_init (l : Launch) (a0 : Nat) (h : xH) {q : xH} (hq : f_X3_init a0 h = some q) : xM l yX3_init cX3_init 2 none 2 [.ref a0] h none q := xM_v (by decide +kernel) (Nat.le_of_ble_eq_true rfl) (fun K L => W_X3_init K L a0 h) hq
theorem dX5_init_0 : decode cX5_init 0 = .ok (.aload_n 0, 1) := by decide +kernel
theorem dX5_init_1 : decode cX5_init 1 = .ok (.invokespecial 3, 3) := by decide +kernel
theorem dX5_init_4 : decode cX5_init 4 = .ok (.aload_n 0, 1) := by decide +kernel
theorem dX5_init_5 : decode cX5_init 5 = .ok (.bipush 40, 2) := by decide +kernel
theorem dX5_init_7 : decode cX5_init 7 = .ok (.newarray .int, 2) := by decide +kernel
theorem dX5_init_9 : decode cX5_init 9 = .ok (.putfield 9, 3) := by decide +kernel
theorem dX5_init_12 : decode cX5_init 12 = .ok (.aload_n 0, 1) := by decide +kernel
theorem dX5_init_13 : decode cX5_init 13 = .ok (.iconst 1, 1) := by decide +kernel
theorem dX5_init_14 : decode cX5_init 14 = .ok (.putfield 15, 3) := by decide +kernel
theorem dX5_init_17 : decode cX5_init 17 = .ok (.return_, 1) := by decide +kernel
set_option maxRecDepth 20000 in
set_option maxHeartbeats 4000000 in
theorem W_X5_init (K : xK) (L : xL) (a0 : Nat) (h : xH) : Sim K L cX5_init RX5 "<init>" 1 1 (fun q : xH => q) (xRv cX5_init) 0 [(0, .ref a0)] [] h (f_X5_init a0 h) := by
  unfold f_X5_init
  refine S_aload_n (pc := 0) 0 rfl dX5_init_0 rfl ?_
  refine S_objInit (pc := 1) (Nat.le_of_ble_eq_true rfl) wd_171 wd_67 wd_68 (Nat.le_of_ble_eq_true rfl) dX5_init_1 ?_
  refine S_aload_n (pc := 4) 0 rfl dX5_init_4 rfl ?_
  refine S_bipush (pc := 5) dX5_init_5 bi_40 ?_
  refine S_newI (pc := 7) (N := 40) wd_88 (by decide) (by decide) (by decide) dX5_init_7 ?_
  refine S_putRF (pc := 9) fd_X5_items wd_172 (fun _ => rfl) (fun _ => rfl) dX5_init_9 (fun h1 => ?_)
  refine S_aload_n (pc := 12) 0 rfl dX5_init_12 rfl ?_
  refine S_iconst (pc := 13) dX5_init_13 ic_1 ?_
  refine S_putI (pc := 14) fd_X5_missing wd_174 rfl rfl dX5_init_14 (fun h2 => ?_)
  exact Sim.fin ⟨dX5_init_17, rfl, rfl⟩ rfl
theorem M_X5_init (l : Launch) (a0 : Nat) (h : xH) {q : xH} (hq : f_X5_init a0 h = some q) : xM l yX5_init cX5_init 1 none 1 [.ref a0] h none q := xM_v (by decide +kernel) (Nat.le_of_ble_eq_true rfl) (fun K L => W_X5_init K L a0 h) hq
theorem dX7_init_0 : decode cX7_init 0 = .ok (.aload_n 0, 1) := by decide +kernel
theorem dX7_init_1 : decode cX7_init 1 = .ok (.invokespecial 3, 3) := by decide +kernel
theorem dX7_init_4 : decode cX7_init 4 = .ok (.aload_n 0, 1) := by decide +kernel
theorem dX7_init_5 : decode cX7_init 5 = .ok (.bipush 60, 2) := by decide +kernel
theorem dX7_init_7 : decode cX7_init 7 = .ok (.newarray .int, 2) := by decide +kernel
theorem dX7_init_9 : decode cX7_init 9 = .ok (.putfield 9, 3) := by decide +kernel
theorem dX7_init_12 : decode cX7_init 12 = .ok (.aload_n 0, 1) := by decide +kernel
theorem dX7_init_13 : decode cX7_init 13 = .ok (.bipush 12, 2) := by decide +kernel
theorem dX7_init_15 : decode cX7_init 15 = .ok (.newarray .int, 2) := by decide +kernel
theorem dX7_init_17 : decode cX7_init 17 = .ok (.putfield 15, 3) := by decide +kernel
theorem dX7_init_20 : decode cX7_init 20 = .ok (.aload_n 0, 1) := by decide +kernel
theorem dX7_init_21 : decode cX7_init 21 = .ok (.bipush 12, 2) := by decide +kernel
theorem dX7_init_23 : decode cX7_init 23 = .ok (.newarray .int, 2) := by decide +kernel
theorem dX7_init_25 : decode cX7_init 25 = .ok (.putfield 18, 3) := by decide +kernel
theorem dX7_init_28 : decode cX7_init 28 = .ok (.return_, 1) := by decide +kernel
set_option maxRecDepth 20000 in
set_option maxHeartbeats 4000000 in
theorem W_X7_init (K : xK) (L : xL) (a0 : Nat) (h : xH) : Sim K L cX7_init RX7 "<init>" 1 1 (fun q : xH => q) (xRv cX7_init) 0 [(0, .ref a0)] [] h (f_X7_init a0 h) := by
  unfold f_X7_init
  refine S_aload_n (pc := 0) 0 rfl dX7_init_0 rfl ?_
  refine S_objInit (pc := 1) (Nat.le_of_ble_eq_true rfl) wd_116 wd_67 wd_68 (Nat.le_of_ble_eq_true rfl) dX7_init_1 ?_
  refine S_aload_n (pc := 4) 0 rfl dX7_init_4 rfl ?_
  refine S_bipush (pc := 5) dX7_init_5 bi_60 ?_
  refine S_newI (pc := 7) (N := 60) wd_88 (by decide) (by decide) (by decide) dX7_init_7 ?_
  refine S_putRF (pc := 9) fd_X7_tape wd_117 (fun _ => rfl) (fun _ => rfl) dX7_init_9 (fun h1 => ?_)
  refine S_aload_n (pc := 12) 0 rfl dX7_init_12 rfl ?_
  refine S_bipush (pc := 13) dX7_init_13 bi_12 ?_
  refine S_newI (pc := 15) (N := 12) wd_88 (by decide) (by decide) (by decide) dX7_init_15 ?_
  refine S_putRF (pc := 17) fd_X7_kinds wd_118 (fun _ => rfl) (fun _ => rfl) dX7_init_17 (fun h2 => ?_)
  refine S_aload_n (pc := 20) 0 rfl dX7_init_20 rfl ?_
  refine S_bipush (pc := 21) dX7_init_21 bi_12 ?_
  refine S_newI (pc := 23) (N := 12) wd_88 (by decide) (by decide) (by decide) dX7_init_23 ?_
  refine S_putRF (pc := 25) fd_X7_lengths wd_120 (fun _ => rfl) (fun _ => rfl) dX7_init_25 (fun h3 => ?_)
  exact Sim.fin ⟨dX7_init_28, rfl, rfl⟩ rfl
theorem M_X7_init (l : Launch) (a0 : Nat) (h : xH) {q : xH} (hq : f_X7_init a0 h = some q) : xM l yX7_init cX7_init 1 none 1 [.ref a0] h none q := xM_v (by decide +kernel) (Nat.le_of_ble_eq_true rfl) (fun K L => W_X7_init K L a0 h) hq
theorem dX9_init_0 : decode cX9_init 0 = .ok (.aload_n 0, 1) := by decide +kernel
theorem dX9_init_1 : decode cX9_init 1 = .ok (.invokespecial 3, 3) := by decide +kernel
theorem dX9_init_4 : decode cX9_init 4 = .ok (.aload_n 0, 1) := by decide +kernel
theorem dX9_init_5 : decode cX9_init 5 = .ok (.bipush 16, 2) := by decide +kernel
theorem dX9_init_7 : decode cX9_init 7 = .ok (.newarray .int, 2) := by decide +kernel
theorem dX9_init_9 : decode cX9_init 9 = .ok (.putfield 9, 3) := by decide +kernel
theorem dX9_init_12 : decode cX9_init 12 = .ok (.return_, 1) := by decide +kernel
set_option maxRecDepth 20000 in
set_option maxHeartbeats 4000000 in
theorem W_X9_init (K : xK) (L : xL) (a0 : Nat) (h : xH) : Sim K L cX9_init RX9 "<init>" 1 1 (fun q : xH => q) (xRv cX9_init) 0 [(0, .ref a0)] [] h (f_X9_init a0 h) := by
  unfold f_X9_init
  refine S_aload_n (pc := 0) 0 rfl dX9_init_0 rfl ?_
  refine S_objInit (pc := 1) (Nat.le_of_ble_eq_true rfl) wd_157 wd_67 wd_68 (Nat.le_of_ble_eq_true rfl) dX9_init_1 ?_
  refine S_aload_n (pc := 4) 0 rfl dX9_init_4 rfl ?_
  refine S_bipush (pc := 5) dX9_init_5 bi_16 ?_
  refine S_newI (pc := 7) (N := 16) wd_88 (by decide) (by decide) (by decide) dX9_init_7 ?_
  refine S_putRF (pc := 9) fd_X9_numbers wd_158 (fun _ => rfl) (fun _ => rfl) dX9_init_9 (fun h1 => ?_)
  exact Sim.fin ⟨dX9_init_12, rfl, rfl⟩ rfl
theorem M_X9_init (l : Launch) (a0 : Nat) (h : xH) {q : xH} (hq : f_X9_init a0 h = some q) : xM l yX9_init cX9_init 1 none 1 [.ref a0] h none q := xM_v (by decide +kernel) (Nat.le_of_ble_eq_true rfl) (fun K L => W_X9_init K L a0 h) hq
theorem dX11_init_0 : decode cX11_init 0 = .ok (.aload_n 0, 1) := by decide +kernel
theorem dX11_init_1 : decode cX11_init 1 = .ok (.invokespecial 1, 3) := by decide +kernel
theorem dX11_init_4 : decode cX11_init 4 = .ok (.aload_n 0, 1) := by decide +kernel
theorem dX11_init_5 : decode cX11_init 5 = .ok (.bipush 8, 2) := by decide +kernel
theorem dX11_init_7 : decode cX11_init 7 = .ok (.anewarray 9, 3) := by decide +kernel
theorem dX11_init_10 : decode cX11_init 10 = .ok (.putfield 11, 3) := by decide +kernel
theorem dX11_init_13 : decode cX11_init 13 = .ok (.aload_n 0, 1) := by decide +kernel
theorem dX11_init_14 : decode cX11_init 14 = .ok (.iconst 4, 1) := by decide +kernel
theorem dX11_init_15 : decode cX11_init 15 = .ok (.anewarray 15, 3) := by decide +kernel
theorem dX11_init_18 : decode cX11_init 18 = .ok (.putfield 17, 3) := by decide +kernel
theorem dX11_init_21 : decode cX11_init 21 = .ok (.aload_n 0, 1) := by decide +kernel
theorem dX11_init_22 : decode cX11_init 22 = .ok (.bipush 8, 2) := by decide +kernel
theorem dX11_init_24 : decode cX11_init 24 = .ok (.anewarray 15, 3) := by decide +kernel
theorem dX11_init_27 : decode cX11_init 27 = .ok (.putfield 21, 3) := by decide +kernel
theorem dX11_init_30 : decode cX11_init 30 = .ok (.aload_n 0, 1) := by decide +kernel
theorem dX11_init_31 : decode cX11_init 31 = .ok (.iconst 2, 1) := by decide +kernel
theorem dX11_init_32 : decode cX11_init 32 = .ok (.newarray .boolean, 2) := by decide +kernel
theorem dX11_init_34 : decode cX11_init 34 = .ok (.putfield 24, 3) := by decide +kernel
theorem dX11_init_37 : decode cX11_init 37 = .ok (.aload_n 0, 1) := by decide +kernel
theorem dX11_init_38 : decode cX11_init 38 = .ok (.new 15, 3) := by decide +kernel
theorem dX11_init_41 : decode cX11_init 41 = .ok (.dup, 1) := by decide +kernel
theorem dX11_init_42 : decode cX11_init 42 = .ok (.invokespecial 28, 3) := by decide +kernel
theorem dX11_init_45 : decode cX11_init 45 = .ok (.putfield 29, 3) := by decide +kernel
theorem dX11_init_48 : decode cX11_init 48 = .ok (.aload_n 0, 1) := by decide +kernel
theorem dX11_init_49 : decode cX11_init 49 = .ok (.new 33, 3) := by decide +kernel
theorem dX11_init_52 : decode cX11_init 52 = .ok (.dup, 1) := by decide +kernel
theorem dX11_init_53 : decode cX11_init 53 = .ok (.invokespecial 35, 3) := by decide +kernel
theorem dX11_init_56 : decode cX11_init 56 = .ok (.putfield 36, 3) := by decide +kernel
theorem dX11_init_59 : decode cX11_init 59 = .ok (.aload_n 0, 1) := by decide +kernel
theorem dX11_init_60 : decode cX11_init 60 = .ok (.new 40, 3) := by decide +kernel
theorem dX11_init_63 : decode cX11_init 63 = .ok (.dup, 1) := by decide +kernel
theorem dX11_init_64 : decode cX11_init 64 = .ok (.invokespecial 42, 3) := by decide +kernel
theorem dX11_init_67 : decode cX11_init 67 = .ok (.putfield 43, 3) := by decide +kernel
theorem dX11_init_70 : decode cX11_init 70 = .ok (.aload_n 0, 1) := by decide +kernel
theorem dX11_init_71 : decode cX11_init 71 = .ok (.bipush 12, 2) := by decide +kernel
theorem dX11_init_73 : decode cX11_init 73 = .ok (.anewarray 47, 3) := by decide +kernel
theorem dX11_init_76 : decode cX11_init 76 = .ok (.putfield 49, 3) := by decide +kernel
theorem dX11_init_79 : decode cX11_init 79 = .ok (.aload_n 0, 1) := by decide +kernel
theorem dX11_init_80 : decode cX11_init 80 = .ok (.new 53, 3) := by decide +kernel
theorem dX11_init_83 : decode cX11_init 83 = .ok (.dup, 1) := by decide +kernel
theorem dX11_init_84 : decode cX11_init 84 = .ok (.invokespecial 55, 3) := by decide +kernel
theorem dX11_init_87 : decode cX11_init 87 = .ok (.putfield 56, 3) := by decide +kernel
theorem dX11_init_90 : decode cX11_init 90 = .ok (.iconst 0, 1) := by decide +kernel
theorem dX11_init_91 : decode cX11_init 91 = .ok (.istore_n 1, 1) := by decide +kernel
theorem dX11_init_92 : decode cX11_init 92 = .ok (.iload_n 1, 1) := by decide +kernel
theorem dX11_init_93 : decode cX11_init 93 = .ok (.bipush 8, 2) := by decide +kernel
theorem dX11_init_95 : decode cX11_init 95 = .ok (.if_icmp .ge 22, 3) := by decide +kernel
theorem dX11_init_98 : decode cX11_init 98 = .ok (.aload_n 0, 1) := by decide +kernel
theorem dX11_init_99 : decode cX11_init 99 = .ok (.getfield 11, 3) := by decide +kernel
theorem dX11_init_102 : decode cX11_init 102 = .ok (.iload_n 1, 1) := by decide +kernel
theorem dX11_init_103 : decode cX11_init 103 = .ok (.new 9, 3) := by decide +kernel
theorem dX11_init_106 : decode cX11_init 106 = .ok (.dup, 1) := by decide +kernel
theorem dX11_init_107 : decode cX11_init 107 = .ok (.invokespecial 60, 3) := by decide +kernel
theorem dX11_init_110 : decode cX11_init 110 = .ok (.aastore, 1) := by decide +kernel
theorem dX11_init_111 : decode cX11_init 111 = .ok (.iinc 1 1, 3) := by decide +kernel
theorem dX11_init_114 : decode cX11_init 114 = .ok (.goto (-22), 3) := by decide +kernel
theorem dX11_init_117 : decode cX11_init 117 = .ok (.iconst 0, 1) := by decide +kernel
theorem dX11_init_118 : decode cX11_init 118 = .ok (.istore_n 1, 1) := by decide +kernel
theorem dX11_init_119 : decode cX11_init 119 = .ok (.iload_n 1, 1) := by decide +kernel
theorem dX11_init_120 : decode cX11_init 120 = .ok (.iconst 4, 1) := by decide +kernel
theorem dX11_init_121 : decode cX11_init 121 = .ok (.if_icmp .ge 22, 3) := by decide +kernel
theorem dX11_init_124 : decode cX11_init 124 = .ok (.aload_n 0, 1) := by decide +kernel
theorem dX11_init_125 : decode cX11_init 125 = .ok (.getfield 17, 3) := by decide +kernel
theorem dX11_init_128 : decode cX11_init 128 = .ok (.iload_n 1, 1) := by decide +kernel
theorem dX11_init_129 : decode cX11_init 129 = .ok (.new 15, 3) := by decide +kernel
theorem dX11_init_132 : decode cX11_init 132 = .ok (.dup, 1) := by decide +kernel
theorem dX11_init_133 : decode cX11_init 133 = .ok (.invokespecial 28, 3) := by decide +kernel
theorem dX11_init_136 : decode cX11_init 136 = .ok (.aastore, 1) := by decide +kernel
theorem dX11_init_137 : decode cX11_init 137 = .ok (.iinc 1 1, 3) := by decide +kernel
theorem dX11_init_140 : decode cX11_init 140 = .ok (.goto (-21), 3) := by decide +kernel
theorem dX11_init_143 : decode cX11_init 143 = .ok (.iconst 0, 1) := by decide +kernel
theorem dX11_init_144 : decode cX11_init 144 = .ok (.istore_n 1, 1) := by decide +kernel
theorem dX11_init_145 : decode cX11_init 145 = .ok (.iload_n 1, 1) := by decide +kernel
theorem dX11_init_146 : decode cX11_init 146 = .ok (.bipush 8, 2) := by decide +kernel
theorem dX11_init_148 : decode cX11_init 148 = .ok (.if_icmp .ge 22, 3) := by decide +kernel
theorem dX11_init_151 : decode cX11_init 151 = .ok (.aload_n 0, 1) := by decide +kernel
theorem dX11_init_152 : decode cX11_init 152 = .ok (.getfield 21, 3) := by decide +kernel
theorem dX11_init_155 : decode cX11_init 155 = .ok (.iload_n 1, 1) := by decide +kernel
theorem dX11_init_156 : decode cX11_init 156 = .ok (.new 15, 3) := by decide +kernel
theorem dX11_init_159 : decode cX11_init 159 = .ok (.dup, 1) := by decide +kernel
theorem dX11_init_160 : decode cX11_init 160 = .ok (.invokespecial 28, 3) := by decide +kernel
theorem dX11_init_163 : decode cX11_init 163 = .ok (.aastore, 1) := by decide +kernel
theorem dX11_init_164 : decode cX11_init 164 = .ok (.iinc 1 1, 3) := by decide +kernel
theorem dX11_init_167 : decode cX11_init 167 = .ok (.goto (-22), 3) := by decide +kernel
theorem dX11_init_170 : decode cX11_init 170 = .ok (.return_, 1) := by decide +kernel
set_option maxRecDepth 20000 in
set_option maxHeartbeats 4000000 in
theorem L_X11_init_92 (K : xK) (L : xL) : ∀ (n : Nat) (a0 : Nat) (a1 : Int32) (h : xH), Sim K L cX11_init RX11 "<init>" 2 3 (fun q : Int32 × xH => q.2) (fun q pc' ls' st' h' => pc' = 117 ∧ ls' = [(0, .ref a0), (1, .int q.1)] ∧ st' = [] ∧ h' = q.2) 92 [(0, .ref a0), (1, .int a1)] [] h (f_X11_init_L92 n a0 a1 h) := by
  intro n
  induction n with
  | zero =>
    intro a0 a1 h
    exact Sim.none
  | succ n ih =>
    intro a0 a1 h
    unfold f_X11_init_L92
    refine S_iload_n (pc := 92) 1 rfl dX11_init_92 rfl ?_
    refine S_bipush (pc := 93) dX11_init_93 bi_8 ?_
    refine S_icmp_ge (pc := 95) (tgt := 117) dX11_init_95 (by decide) ?_ ?_
    · refine S_sub [0, 1] rfl ?_
      exact Sim.fin ⟨rfl, rfl, rfl, rfl⟩ rfl
    · refine S_aload_n (pc := 98) 0 rfl dX11_init_98 rfl ?_
      refine S_getR (pc := 99) fd_X11_rows wd_189 dX11_init_99 (fun v14 => ?_)
      refine S_iload_n (pc := 102) 1 rfl dX11_init_102 rfl ?_
      refine S_new (pc := 103) (ci := 5) (fs := [.null, .int 0, .int 0, .int 0]) rfl inG5 tyX5_ok wd_69 wd_167 wd_49 nf_5 rfl (fun _ => rfl) nc_5 dX11_init_103 ?_
      refine S_dup (pc := 106) rfl dX11_init_106 ?_
      refine S_call_v (pc := 107) (rest := [.ref h.length, .int a1, .ref v14]) (fun q hq => R_IN (host := RX11) (av := []) (M_X5_init _ h.length (h ++ [.inr (5, [.null, .int 0, .int 0, .int 0])]) hq) wd_170 (by decide +kernel) wd_169 wd_49 rfl hd_X5_init ⟨Nat.le_of_ble_eq_true rfl, Nat.le_of_ble_eq_true rfl⟩ rfl (Nat.le_of_ble_eq_true rfl) dX11_init_107) (fun _ h => List.mem_cons_of_mem _ (h)) (fun q15 => ?_)
      refine Sim.ite (fun hk18 => ?_) (fun _ => ?_)
      · refine S_uR (pc := 110) (fun _ => rfl) hk18 rfl (Or.inl rfl) dX11_init_110 (fun h17 => ?_)
        refine S_iinc (pc := 111) (v := a1 + (1 : Int32)) 1 rfl dX11_init_111 (x_inc ic_1) (Nat.le_of_ble_eq_true rfl) rfl ?_
        refine S_goto (pc := 114) (tgt := 92) dX11_init_114 (by decide) ?_
        refine S_sub [1, 0] rfl ?_
        exact ih a0 (a1 + (1 : Int32)) h17
      exact Sim.none
set_option maxRecDepth 20000 in
set_option maxHeartbeats 4000000 in
theorem L_X11_init_119 (K : xK) (L : xL) : ∀ (n : Nat) (a0 : Nat) (a1 : Int32) (h : xH), Sim K L cX11_init RX11 "<init>" 2 3 (fun q : Int32 × xH => q.2) (fun q pc' ls' st' h' => pc' = 143 ∧ ls' = [(0, .ref a0), (1, .int q.1)] ∧ st' = [] ∧ h' = q.2) 119 [(0, .ref a0), (1, .int a1)] [] h (f_X11_init_L119 n a0 a1 h) := by
  intro n
  induction n with
  | zero =>
    intro a0 a1 h
    exact Sim.none
  | succ n ih =>
    intro a0 a1 h
    unfold f_X11_init_L119
    refine S_iload_n (pc := 119) 1 rfl dX11_init_119 rfl ?_
    refine S_iconst (pc := 120) dX11_init_120 ic_4 ?_
    refine S_icmp_ge (pc := 121) (tgt := 143) dX11_init_121 (by decide) ?_ ?_
    · refine S_sub [0, 1] rfl ?_
      exact Sim.fin ⟨rfl, rfl, rfl, rfl⟩ rfl
    · refine S_aload_n (pc := 124) 0 rfl dX11_init_124 rfl ?_
      refine S_getR (pc := 125) fd_X11_vectors wd_190 dX11_init_125 (fun v20 => ?_)
      refine S_iload_n (pc := 128) 1 rfl dX11_init_128 rfl ?_
      refine S_new (pc := 129) (ci := 1) (fs := [.null, .int 0]) rfl inG1 tyX1_ok wd_71 wd_73 wd_45 nf_1 rfl (fun _ => rfl) nc_1 dX11_init_129 ?_
      refine S_dup (pc := 132) rfl dX11_init_132 ?_
      refine S_call_v (pc := 133) (rest := [.ref h.length, .int a1, .ref v20]) (fun q hq => R_IN (host := RX11) (av := []) (M_X1_init _ h.length (h ++ [.inr (1, [.null, .int 0])]) hq) wd_76 (by decide +kernel) wd_75 wd_45 rfl hd_X1_init ⟨Nat.le_of_ble_eq_true rfl, Nat.le_of_ble_eq_true rfl⟩ rfl (Nat.le_of_ble_eq_true rfl) dX11_init_133) (fun _ h => List.mem_cons_of_mem _ (h)) (fun q21 => ?_)
      refine Sim.ite (fun hk24 => ?_) (fun _ => ?_)
      · refine S_uR (pc := 136) (fun _ => rfl) hk24 rfl (Or.inl rfl) dX11_init_136 (fun h23 => ?_)
        refine S_iinc (pc := 137) (v := a1 + (1 : Int32)) 1 rfl dX11_init_137 (x_inc ic_1) (Nat.le_of_ble_eq_true rfl) rfl ?_
        refine S_goto (pc := 140) (tgt := 119) dX11_init_140 (by decide) ?_
        refine S_sub [1, 0] rfl ?_
        exact ih a0 (a1 + (1 : Int32)) h23
      exact Sim.none
set_option maxRecDepth 20000 in
set_option maxHeartbeats 4000000 in
theorem L_X11_init_145 (K : xK) (L : xL) : ∀ (n : Nat) (a0 : Nat) (a1 : Int32) (h : xH), Sim K L cX11_init RX11 "<init>" 2 3 (fun q : Int32 × xH => q.2) (fun q pc' ls' st' h' => pc' = 170 ∧ ls' = [(0, .ref a0), (1, .int q.1)] ∧ st' = [] ∧ h' = q.2) 145 [(0, .ref a0), (1, .int a1)] [] h (f_X11_init_L145 n a0 a1 h) := by
  intro n
  induction n with
  | zero =>
    intro a0 a1 h
    exact Sim.none
  | succ n ih =>
    intro a0 a1 h
    unfold f_X11_init_L145
    refine S_iload_n (pc := 145) 1 rfl dX11_init_145 rfl ?_
    refine S_bipush (pc := 146) dX11_init_146 bi_8 ?_
    refine S_icmp_ge (pc := 148) (tgt := 170) dX11_init_148 (by decide) ?_ ?_
    · refine S_sub [0, 1] rfl ?_
      exact Sim.fin ⟨rfl, rfl, rfl, rfl⟩ rfl
    · refine S_aload_n (pc := 151) 0 rfl dX11_init_151 rfl ?_
      refine S_getR (pc := 152) fd_X11_images wd_191 dX11_init_152 (fun v26 => ?_)
      refine S_iload_n (pc := 155) 1 rfl dX11_init_155 rfl ?_
      refine S_new (pc := 156) (ci := 1) (fs := [.null, .int 0]) rfl inG1 tyX1_ok wd_71 wd_73 wd_45 nf_1 rfl (fun _ => rfl) nc_1 dX11_init_156 ?_
      refine S_dup (pc := 159) rfl dX11_init_159 ?_
      refine S_call_v (pc := 160) (rest := [.ref h.length, .int a1, .ref v26]) (fun q hq => R_IN (host := RX11) (av := []) (M_X1_init _ h.length (h ++ [.inr (1, [.null, .int 0])]) hq) wd_76 (by decide +kernel) wd_75 wd_45 rfl hd_X1_init ⟨Nat.le_of_ble_eq_true rfl, Nat.le_of_ble_eq_true rfl⟩ rfl (Nat.le_of_ble_eq_true rfl) dX11_init_160) (fun _ h => List.mem_cons_of_mem _ (h)) (fun q27 => ?_)
      refine Sim.ite (fun hk30 => ?_) (fun _ => ?_)
      · refine S_uR (pc := 163) (fun _ => rfl) hk30 rfl (Or.inl rfl) dX11_init_163 (fun h29 => ?_)
        refine S_iinc (pc := 164) (v := a1 + (1 : Int32)) 1 rfl dX11_init_164 (x_inc ic_1) (Nat.le_of_ble_eq_true rfl) rfl ?_
        refine S_goto (pc := 167) (tgt := 145) dX11_init_167 (by decide) ?_
        refine S_sub [1, 0] rfl ?_
        exact ih a0 (a1 + (1 : Int32)) h29
      exact Sim.none
set_option maxRecDepth 20000 in
set_option maxHeartbeats 4000000 in
theorem W_X11_init (K : xK) (L : xL) (a0 : Nat) (h : xH) : Sim K L cX11_init RX11 "<init>" 2 3 (fun q : xH => q) (xRv cX11_init) 0 [(0, .ref a0)] [] h (f_X11_init a0 h) := by
  unfold f_X11_init
  refine S_aload_n (pc := 0) 0 rfl dX11_init_0 rfl ?_
  refine S_objInit (pc := 1) (Nat.le_of_ble_eq_true rfl) wd_66 wd_67 wd_68 (Nat.le_of_ble_eq_true rfl) dX11_init_1 ?_
  refine S_aload_n (pc := 4) 0 rfl dX11_init_4 rfl ?_
  refine S_bipush (pc := 5) dX11_init_5 bi_8 ?_
  refine S_newQ (pc := 7) (t := 2) (N := 8) (fun _ => rfl) (by decide +kernel) wd_69 (by decide) (by decide) (by decide) dX11_init_7 ?_
  refine S_putRF (pc := 10) fd_X11_rows wd_189 (fun _ => rfl) (fun _ => rfl) dX11_init_10 (fun h1 => ?_)
  refine S_aload_n (pc := 13) 0 rfl dX11_init_13 rfl ?_
  refine S_iconst (pc := 14) dX11_init_14 ic_4 ?_
  refine S_newQ (pc := 15) (t := 3) (N := 4) (fun _ => rfl) (by decide +kernel) wd_71 (by decide) (by decide) (by decide) dX11_init_15 ?_
  refine S_putRF (pc := 18) fd_X11_vectors wd_190 (fun _ => rfl) (fun _ => rfl) dX11_init_18 (fun h2 => ?_)
  refine S_aload_n (pc := 21) 0 rfl dX11_init_21 rfl ?_
  refine S_bipush (pc := 22) dX11_init_22 bi_8 ?_
  refine S_newQ (pc := 24) (t := 3) (N := 8) (fun _ => rfl) (by decide +kernel) wd_71 (by decide) (by decide) (by decide) dX11_init_24 ?_
  refine S_putRF (pc := 27) fd_X11_images wd_191 (fun _ => rfl) (fun _ => rfl) dX11_init_27 (fun h3 => ?_)
  refine S_aload_n (pc := 30) 0 rfl dX11_init_30 rfl ?_
  refine S_iconst (pc := 31) dX11_init_31 ic_2 ?_
  refine S_newZ (pc := 32) (N := 2) wd_87 (by decide) (by decide) (by decide) dX11_init_32 ?_
  refine S_putRF (pc := 34) fd_X11_imageKept wd_192 (fun _ => rfl) (fun _ => rfl) dX11_init_34 (fun h4 => ?_)
  refine S_aload_n (pc := 37) 0 rfl dX11_init_37 rfl ?_
  refine S_new (pc := 38) (ci := 1) (fs := [.null, .int 0]) rfl inG1 tyX1_ok wd_71 wd_73 wd_45 nf_1 rfl (fun _ => rfl) nc_1 dX11_init_38 ?_
  refine S_dup (pc := 41) rfl dX11_init_41 ?_
  refine S_call_v (pc := 42) (rest := [.ref h4.length, .ref a0]) (fun q hq => R_IN (host := RX11) (av := []) (M_X1_init _ h4.length (h4 ++ [.inr (1, [.null, .int 0])]) hq) wd_76 (by decide +kernel) wd_75 wd_45 rfl hd_X1_init ⟨Nat.le_of_ble_eq_true rfl, Nat.le_of_ble_eq_true rfl⟩ rfl (Nat.le_of_ble_eq_true rfl) dX11_init_42) (fun _ h => List.mem_cons_of_mem _ (h)) (fun q5 => ?_)
  refine S_putRF (pc := 45) fd_X11_scratch wd_193 (fun _ => rfl) (fun _ => rfl) dX11_init_45 (fun h6 => ?_)
  refine S_aload_n (pc := 48) 0 rfl dX11_init_48 rfl ?_
  refine S_new (pc := 49) (ci := 3) (fs := [.null, .null, .int 0, .int 0]) rfl inG3 tyX3_ok wd_89 wd_90 wd_46 nf_3 rfl (fun _ => rfl) nc_3 dX11_init_49 ?_
  refine S_dup (pc := 52) rfl dX11_init_52 ?_
  refine S_call_v (pc := 53) (rest := [.ref h6.length, .ref a0]) (fun q hq => R_I (av := []) (M_X3_init _ h6.length (h6 ++ [.inr (3, [.null, .null, .int 0, .int 0])]) hq) wd_93 wd_91 wd_92 wd_46 rfl hd_X3_init ⟨Nat.le_of_ble_eq_true rfl, Nat.le_of_ble_eq_true rfl⟩ rfl (Nat.le_of_ble_eq_true rfl) dX11_init_53) (fun _ h => List.mem_cons_of_mem _ (h)) (fun q7 => ?_)
  refine S_putRF (pc := 56) fd_X11_history wd_194 (fun _ => rfl) (fun _ => rfl) dX11_init_56 (fun h8 => ?_)
  refine S_aload_n (pc := 59) 0 rfl dX11_init_59 rfl ?_
  refine S_new (pc := 60) (ci := 6) (fs := [.null, .null, .null, .int 0, .int 0, .int 0, .int 0, .int 0, .int 0]) rfl inG7 tyX7_ok wd_111 wd_112 wd_47 nf_6 rfl (fun _ => rfl) nc_6 dX11_init_60 ?_
  refine S_dup (pc := 63) rfl dX11_init_63 ?_
  refine S_call_v (pc := 64) (rest := [.ref h8.length, .ref a0]) (fun q hq => R_IN (host := RX11) (av := []) (M_X7_init _ h8.length (h8 ++ [.inr (6, [.null, .null, .null, .int 0, .int 0, .int 0, .int 0, .int 0, .int 0])]) hq) wd_115 (by decide +kernel) wd_114 wd_47 rfl hd_X7_init ⟨Nat.le_of_ble_eq_true rfl, Nat.le_of_ble_eq_true rfl⟩ rfl (Nat.le_of_ble_eq_true rfl) dX11_init_64) (fun _ h => List.mem_cons_of_mem _ (h)) (fun q9 => ?_)
  refine S_putRF (pc := 67) fd_X11_reader wd_195 (fun _ => rfl) (fun _ => rfl) dX11_init_67 (fun h10 => ?_)
  refine S_aload_n (pc := 70) 0 rfl dX11_init_70 rfl ?_
  refine S_bipush (pc := 71) dX11_init_71 bi_12 ?_
  refine S_newQ (pc := 73) (t := 4) (N := 12) (fun _ => rfl) (by decide +kernel) wd_150 (by decide) (by decide) (by decide) dX11_init_73 ?_
  refine S_putRF (pc := 76) fd_X11_runs wd_196 (fun _ => rfl) (fun _ => rfl) dX11_init_76 (fun h11 => ?_)
  refine S_aload_n (pc := 79) 0 rfl dX11_init_79 rfl ?_
  refine S_new (pc := 80) (ci := 8) (fs := [.null, .int 0]) rfl inG9 tyX9_ok wd_152 wd_153 wd_48 nf_8 rfl (fun _ => rfl) nc_8 dX11_init_80 ?_
  refine S_dup (pc := 83) rfl dX11_init_83 ?_
  refine S_call_v (pc := 84) (rest := [.ref h11.length, .ref a0]) (fun q hq => R_IN (host := RX11) (av := []) (M_X9_init _ h11.length (h11 ++ [.inr (8, [.null, .int 0])]) hq) wd_156 (by decide +kernel) wd_155 wd_48 rfl hd_X9_init ⟨Nat.le_of_ble_eq_true rfl, Nat.le_of_ble_eq_true rfl⟩ rfl (Nat.le_of_ble_eq_true rfl) dX11_init_84) (fun _ h => List.mem_cons_of_mem _ (h)) (fun q12 => ?_)
  refine S_putRF (pc := 87) fd_X11_asked wd_197 (fun _ => rfl) (fun _ => rfl) dX11_init_87 (fun h13 => ?_)
  refine S_iconst (pc := 90) dX11_init_90 ic_0 ?_
  refine S_istore_n (pc := 91) dX11_init_91 rfl (Nat.le_of_ble_eq_true rfl) rfl ?_
  refine S_sub [1, 0] rfl ?_
  refine Sim.bind (hs := fun q19 : Int32 × xH => q19.2) (px := 117) (lsx := fun q19 => [(0, .ref a0), (1, .int q19.1)]) (L_X11_init_92 K L xN a0 (0 : Int32) h13) (fun q19 => ?_)
  refine S_iconst (pc := 117) dX11_init_117 ic_0 ?_
  refine S_istore_n (pc := 118) dX11_init_118 rfl (Nat.le_of_ble_eq_true rfl) rfl ?_
  refine S_sub [1, 0] rfl ?_
  refine Sim.bind (hs := fun q25 : Int32 × xH => q25.2) (px := 143) (lsx := fun q25 => [(0, .ref a0), (1, .int q25.1)]) (L_X11_init_119 K L xN a0 (0 : Int32) q19.2) (fun q25 => ?_)
  refine S_iconst (pc := 143) dX11_init_143 ic_0 ?_
  refine S_istore_n (pc := 144) dX11_init_144 rfl (Nat.le_of_ble_eq_true rfl) rfl ?_
  refine S_sub [1, 0] rfl ?_
  refine Sim.bind (hs := fun q31 : Int32 × xH => q31.2) (px := 170) (lsx := fun q31 => [(0, .ref a0), (1, .int q31.1)]) (L_X11_init_145 K L xN a0 (0 : Int32) q25.2) (fun q31 => ?_)
  exact Sim.fin ⟨dX11_init_170, rfl, rfl⟩ rfl
theorem M_X11_init (l : Launch) (a0 : Nat) (h : xH) {q : xH} (hq : f_X11_init a0 h = some q) : xM l yX11_init cX11_init 2 none 3 [.ref a0] h none q := xM_v (by decide +kernel) (Nat.le_of_ble_eq_true rfl) (fun K L => W_X11_init K L a0 h) hq
theorem dX11_isValue_0 : decode cX11_isValue 0 = .ok (.iload_n 0, 1) := by decide +kernel
theorem dX11_isValue_1 : decode cX11_isValue 1 = .ok (.ifCond .eq 8, 3) := by decide +kernel
theorem dX11_isValue_4 : decode cX11_isValue 4 = .ok (.iload_n 0, 1) := by decide +kernel
theorem dX11_isValue_5 : decode cX11_isValue 5 = .ok (.iconst 1, 1) := by decide +kernel
theorem dX11_isValue_6 : decode cX11_isValue 6 = .ok (.if_icmp .ne 7, 3) := by decide +kernel
theorem dX11_isValue_9 : decode cX11_isValue 9 = .ok (.iconst 1, 1) := by decide +kernel
theorem dX11_isValue_10 : decode cX11_isValue 10 = .ok (.goto 4, 3) := by decide +kernel
theorem dX11_isValue_13 : decode cX11_isValue 13 = .ok (.iconst 0, 1) := by decide +kernel
theorem dX11_isValue_14 : decode cX11_isValue 14 = .ok (.ireturn, 1) := by decide +kernel
set_option maxRecDepth 20000 in
set_option maxHeartbeats 4000000 in
theorem W_X11_isValue (K : xK) (L : xL) (a0 : Int32) (h : xH) : Sim K L cX11_isValue RX11 "isValue" 1 0 (fun q : Int32 × xH => q.2) (xRz cX11_isValue) 0 [(0, .int a0)] [] h (f_X11_isValue a0 h) := by
  unfold f_X11_isValue
  refine S_iload_n (pc := 0) 0 rfl dX11_isValue_0 rfl ?_
  refine S_if_eq (pc := 1) (tgt := 9) dX11_isValue_1 (by decide) ?_ ?_
  · refine S_iconst (pc := 9) dX11_isValue_9 ic_1 ?_
    refine S_goto (pc := 10) (tgt := 14) dX11_isValue_10 (by decide) ?_
    exact Sim.fin ⟨dX11_isValue_14, rfl, rfl, x_nar (Or.inr rfl)⟩ rfl
  · refine S_iload_n (pc := 4) 0 rfl dX11_isValue_4 rfl ?_
    refine S_iconst (pc := 5) dX11_isValue_5 ic_1 ?_
    refine S_icmp_ne (pc := 6) (tgt := 13) dX11_isValue_6 (by decide) ?_ ?_
    · refine S_iconst (pc := 9) dX11_isValue_9 ic_1 ?_
      refine S_goto (pc := 10) (tgt := 14) dX11_isValue_10 (by decide) ?_
      exact Sim.fin ⟨dX11_isValue_14, rfl, rfl, x_nar (Or.inr rfl)⟩ rfl
    · refine S_iconst (pc := 13) dX11_isValue_13 ic_0 ?_
      exact Sim.fin ⟨dX11_isValue_14, rfl, rfl, x_nar (Or.inl rfl)⟩ rfl
theorem M_X11_isValue (l : Launch) (a0 : Int32) (h : xH) {q : Int32 × xH} (hq : f_X11_isValue a0 h = some q) : xM l yX11_isValue cX11_isValue 1 (some .boolean) 0 [.int a0] h (some (.int q.1)) q.2 := xM_z (by decide +kernel) (Nat.le_of_ble_eq_true rfl) (fun K L => W_X11_isValue K L a0 h) hq
theorem dX11_isVector_0 : decode cX11_isVector 0 = .ok (.iload_n 0, 1) := by decide +kernel
theorem dX11_isVector_1 : decode cX11_isVector 1 = .ok (.ifCond .lt 12, 3) := by decide +kernel
theorem dX11_isVector_4 : decode cX11_isVector 4 = .ok (.iload_n 0, 1) := by decide +kernel
theorem dX11_isVector_5 : decode cX11_isVector 5 = .ok (.iconst 4, 1) := by decide +kernel
theorem dX11_isVector_6 : decode cX11_isVector 6 = .ok (.if_icmp .ge 7, 3) := by decide +kernel
theorem dX11_isVector_9 : decode cX11_isVector 9 = .ok (.iconst 1, 1) := by decide +kernel
theorem dX11_isVector_10 : decode cX11_isVector 10 = .ok (.goto 4, 3) := by decide +kernel
theorem dX11_isVector_13 : decode cX11_isVector 13 = .ok (.iconst 0, 1) := by decide +kernel
theorem dX11_isVector_14 : decode cX11_isVector 14 = .ok (.ireturn, 1) := by decide +kernel
set_option maxRecDepth 20000 in
set_option maxHeartbeats 4000000 in
theorem W_X11_isVector (K : xK) (L : xL) (a0 : Int32) (h : xH) : Sim K L cX11_isVector RX11 "isVector" 1 0 (fun q : Int32 × xH => q.2) (xRz cX11_isVector) 0 [(0, .int a0)] [] h (f_X11_isVector a0 h) := by
  unfold f_X11_isVector
  refine S_iload_n (pc := 0) 0 rfl dX11_isVector_0 rfl ?_
  refine S_if_lt (pc := 1) (tgt := 13) dX11_isVector_1 (by decide) ?_ ?_
  · refine S_iconst (pc := 13) dX11_isVector_13 ic_0 ?_
    exact Sim.fin ⟨dX11_isVector_14, rfl, rfl, x_nar (Or.inl rfl)⟩ rfl
  · refine S_iload_n (pc := 4) 0 rfl dX11_isVector_4 rfl ?_
    refine S_iconst (pc := 5) dX11_isVector_5 ic_4 ?_
    refine S_icmp_ge (pc := 6) (tgt := 13) dX11_isVector_6 (by decide) ?_ ?_
    · refine S_iconst (pc := 13) dX11_isVector_13 ic_0 ?_
      exact Sim.fin ⟨dX11_isVector_14, rfl, rfl, x_nar (Or.inl rfl)⟩ rfl
    · refine S_iconst (pc := 9) dX11_isVector_9 ic_1 ?_
      refine S_goto (pc := 10) (tgt := 14) dX11_isVector_10 (by decide) ?_
      exact Sim.fin ⟨dX11_isVector_14, rfl, rfl, x_nar (Or.inr rfl)⟩ rfl
theorem M_X11_isVector (l : Launch) (a0 : Int32) (h : xH) {q : Int32 × xH} (hq : f_X11_isVector a0 h = some q) : xM l yX11_isVector cX11_isVector 1 (some .boolean) 0 [.int a0] h (some (.int q.1)) q.2 := xM_z (by decide +kernel) (Nat.le_of_ble_eq_true rfl) (fun K L => W_X11_isVector K L a0 h) hq
theorem dX1_copyFrom_0 : decode cX1_copyFrom 0 = .ok (.aload_n 0, 1) := by decide +kernel
theorem dX1_copyFrom_1 : decode cX1_copyFrom 1 = .ok (.aload_n 1, 1) := by decide +kernel
theorem dX1_copyFrom_2 : decode cX1_copyFrom 2 = .ok (.getfield 15, 3) := by decide +kernel
theorem dX1_copyFrom_5 : decode cX1_copyFrom 5 = .ok (.putfield 15, 3) := by decide +kernel
theorem dX1_copyFrom_8 : decode cX1_copyFrom 8 = .ok (.aload_n 1, 1) := by decide +kernel
theorem dX1_copyFrom_9 : decode cX1_copyFrom 9 = .ok (.getfield 9, 3) := by decide +kernel
theorem dX1_copyFrom_12 : decode cX1_copyFrom 12 = .ok (.iconst 0, 1) := by decide +kernel
theorem dX1_copyFrom_13 : decode cX1_copyFrom 13 = .ok (.aload_n 0, 1) := by decide +kernel
theorem dX1_copyFrom_14 : decode cX1_copyFrom 14 = .ok (.getfield 9, 3) := by decide +kernel
theorem dX1_copyFrom_17 : decode cX1_copyFrom 17 = .ok (.iconst 0, 1) := by decide +kernel
theorem dX1_copyFrom_18 : decode cX1_copyFrom 18 = .ok (.bipush 32, 2) := by decide +kernel
theorem dX1_copyFrom_20 : decode cX1_copyFrom 20 = .ok (.invokestatic 43, 3) := by decide +kernel
theorem dX1_copyFrom_23 : decode cX1_copyFrom 23 = .ok (.return_, 1) := by decide +kernel
set_option maxRecDepth 20000 in
set_option maxHeartbeats 4000000 in
theorem W_X1_copyFrom (K : xK) (L : xL) (a0 : Nat) (a1 : Nat) (h : xH) : Sim K L cX1_copyFrom RX1 "copyFrom" 2 1 (fun q : xH => q) (xRv cX1_copyFrom) 0 [(0, .ref a0), (1, .ref a1)] [] h (f_X1_copyFrom a0 a1 h) := by
  unfold f_X1_copyFrom
  refine S_aload_n (pc := 0) 0 rfl dX1_copyFrom_0 rfl ?_
  refine S_aload_n (pc := 1) 1 rfl dX1_copyFrom_1 rfl ?_
  refine S_getI (pc := 2) fd_X1_length wd_80 dX1_copyFrom_2 (fun v1 => ?_)
  refine S_putI (pc := 5) fd_X1_length wd_80 rfl rfl dX1_copyFrom_5 (fun h2 => ?_)
  refine S_aload_n (pc := 8) 1 rfl dX1_copyFrom_8 rfl ?_
  refine S_getR (pc := 9) fd_X1_masks wd_78 dX1_copyFrom_9 (fun v3 => ?_)
  refine S_iconst (pc := 12) dX1_copyFrom_12 ic_0 ?_
  refine S_aload_n (pc := 13) 0 rfl dX1_copyFrom_13 rfl ?_
  refine S_getR (pc := 14) fd_X1_masks wd_78 dX1_copyFrom_14 (fun v4 => ?_)
  refine S_iconst (pc := 17) dX1_copyFrom_17 ic_0 ?_
  refine S_bipush (pc := 18) dX1_copyFrom_18 bi_32 ?_
  refine S_acp (pc := 20) (Nat.le_of_ble_eq_true rfl) wd_403 wd_268 wd_267 wd_52 (Nat.le_of_ble_eq_true rfl) dX1_copyFrom_20 (fun h5 => ?_)
  exact Sim.fin ⟨dX1_copyFrom_23, rfl, rfl⟩ rfl
theorem M_X1_copyFrom (l : Launch) (a0 : Nat) (a1 : Nat) (h : xH) {q : xH} (hq : f_X1_copyFrom a0 a1 h = some q) : xM l yX1_copyFrom cX1_copyFrom 2 none 1 [.ref a0, .ref a1] h none q := xM_v (by decide +kernel) (Nat.le_of_ble_eq_true rfl) (fun K L => W_X1_copyFrom K L a0 a1 h) hq
theorem dX3_keep_0 : decode cX3_keep 0 = .ok (.aload_n 0, 1) := by decide +kernel
theorem dX3_keep_1 : decode cX3_keep 1 = .ok (.getfield 22, 3) := by decide +kernel
theorem dX3_keep_4 : decode cX3_keep 4 = .ok (.aload_n 0, 1) := by decide +kernel
theorem dX3_keep_5 : decode cX3_keep 5 = .ok (.getfield 26, 3) := by decide +kernel
theorem dX3_keep_8 : decode cX3_keep 8 = .ok (.iadd, 1) := by decide +kernel
theorem dX3_keep_9 : decode cX3_keep 9 = .ok (.bipush 12, 2) := by decide +kernel
theorem dX3_keep_11 : decode cX3_keep 11 = .ok (.irem, 1) := by decide +kernel
theorem dX3_keep_12 : decode cX3_keep 12 = .ok (.istore_n 3, 1) := by decide +kernel
theorem dX3_keep_13 : decode cX3_keep 13 = .ok (.aload_n 0, 1) := by decide +kernel
theorem dX3_keep_14 : decode cX3_keep 14 = .ok (.getfield 11, 3) := by decide +kernel
theorem dX3_keep_17 : decode cX3_keep 17 = .ok (.iload_n 3, 1) := by decide +kernel
theorem dX3_keep_18 : decode cX3_keep 18 = .ok (.aaload, 1) := by decide +kernel
theorem dX3_keep_19 : decode cX3_keep 19 = .ok (.aload_n 2, 1) := by decide +kernel
theorem dX3_keep_20 : decode cX3_keep 20 = .ok (.invokevirtual 29, 3) := by decide +kernel
theorem dX3_keep_23 : decode cX3_keep 23 = .ok (.aload_n 0, 1) := by decide +kernel
theorem dX3_keep_24 : decode cX3_keep 24 = .ok (.getfield 17, 3) := by decide +kernel
theorem dX3_keep_27 : decode cX3_keep 27 = .ok (.iload_n 3, 1) := by decide +kernel
theorem dX3_keep_28 : decode cX3_keep 28 = .ok (.iload_n 1, 1) := by decide +kernel
theorem dX3_keep_29 : decode cX3_keep 29 = .ok (.iastore, 1) := by decide +kernel
theorem dX3_keep_30 : decode cX3_keep 30 = .ok (.aload_n 0, 1) := by decide +kernel
theorem dX3_keep_31 : decode cX3_keep 31 = .ok (.getfield 26, 3) := by decide +kernel
theorem dX3_keep_34 : decode cX3_keep 34 = .ok (.bipush 12, 2) := by decide +kernel
theorem dX3_keep_36 : decode cX3_keep 36 = .ok (.if_icmp .ge 16, 3) := by decide +kernel
theorem dX3_keep_39 : decode cX3_keep 39 = .ok (.aload_n 0, 1) := by decide +kernel
theorem dX3_keep_40 : decode cX3_keep 40 = .ok (.dup, 1) := by decide +kernel
theorem dX3_keep_41 : decode cX3_keep 41 = .ok (.getfield 26, 3) := by decide +kernel
theorem dX3_keep_44 : decode cX3_keep 44 = .ok (.iconst 1, 1) := by decide +kernel
theorem dX3_keep_45 : decode cX3_keep 45 = .ok (.iadd, 1) := by decide +kernel
theorem dX3_keep_46 : decode cX3_keep 46 = .ok (.putfield 26, 3) := by decide +kernel
theorem dX3_keep_49 : decode cX3_keep 49 = .ok (.goto 16, 3) := by decide +kernel
theorem dX3_keep_52 : decode cX3_keep 52 = .ok (.aload_n 0, 1) := by decide +kernel
theorem dX3_keep_53 : decode cX3_keep 53 = .ok (.aload_n 0, 1) := by decide +kernel
theorem dX3_keep_54 : decode cX3_keep 54 = .ok (.getfield 22, 3) := by decide +kernel
theorem dX3_keep_57 : decode cX3_keep 57 = .ok (.iconst 1, 1) := by decide +kernel
theorem dX3_keep_58 : decode cX3_keep 58 = .ok (.iadd, 1) := by decide +kernel
theorem dX3_keep_59 : decode cX3_keep 59 = .ok (.bipush 12, 2) := by decide +kernel
theorem dX3_keep_61 : decode cX3_keep 61 = .ok (.irem, 1) := by decide +kernel
theorem dX3_keep_62 : decode cX3_keep 62 = .ok (.putfield 22, 3) := by decide +kernel
theorem dX3_keep_65 : decode cX3_keep 65 = .ok (.return_, 1) := by decide +kernel
set_option maxRecDepth 20000 in
set_option maxHeartbeats 4000000 in
theorem W_X3_keep (K : xK) (L : xL) (a0 : Nat) (a1 : Int32) (a2 : Nat) (h : xH) : Sim K L cX3_keep RX3 "keep" 4 2 (fun q : xH => q) (xRv cX3_keep) 0 [(0, .ref a0), (1, .int a1), (2, .ref a2)] [] h (f_X3_keep a0 a1 a2 h) := by
  unfold f_X3_keep
  refine S_aload_n (pc := 0) 0 rfl dX3_keep_0 rfl ?_
  refine S_getI (pc := 1) fd_X3_oldest wd_99 dX3_keep_1 (fun v1 => ?_)
  refine S_aload_n (pc := 4) 0 rfl dX3_keep_4 rfl ?_
  refine S_getI (pc := 5) fd_X3_held wd_100 dX3_keep_5 (fun v2 => ?_)
  refine S_iadd (pc := 8) dX3_keep_8 ?_
  refine S_bipush (pc := 9) dX3_keep_9 bi_12 ?_
  refine S_irem (pc := 11) (by decide) dX3_keep_11 ?_
  refine S_istore_n (pc := 12) dX3_keep_12 rfl (Nat.le_of_ble_eq_true rfl) rfl ?_
  refine S_aload_n (pc := 13) 1 rfl dX3_keep_13 rfl ?_
  refine S_getR (pc := 14) fd_X3_before wd_97 dX3_keep_14 (fun v3 => ?_)
  refine S_iload_n (pc := 17) 0 rfl dX3_keep_17 rfl ?_
  refine S_aR (pc := 18) (fun _ => rfl) dX3_keep_18 (fun v4 => ?_)
  refine S_aload_n (pc := 19) 3 rfl dX3_keep_19 rfl ?_
  refine S_call_v (pc := 20) (rest := []) (fun q hq => (x_if hq).elim (fun z => R_V (av := [.ref a2]) (q := (RX1, TX1, 2)) (M_X1_copyFrom _ v4 a2 h z.2) z.1 rfl wd_402 wd_399 wd_400 wd_45 wd_401 ⟨rfl, hd_X1_copyFrom⟩ ⟨Nat.le_of_ble_eq_true rfl, Nat.le_of_ble_eq_true rfl⟩ rfl (Nat.le_of_ble_eq_true rfl) dX3_keep_20) (fun hq => (by cases hq))) (fun _ h => absurd h List.not_mem_nil) (fun q5 => ?_)
  refine S_aload_n (pc := 23) 1 rfl dX3_keep_23 rfl ?_
  refine S_getR (pc := 24) fd_X3_changed wd_98 dX3_keep_24 (fun v6 => ?_)
  refine S_iload_n (pc := 27) 0 rfl dX3_keep_27 rfl ?_
  refine S_iload_n (pc := 28) 2 rfl dX3_keep_28 rfl ?_
  refine S_uI (pc := 29) dX3_keep_29 (fun h7 => ?_)
  refine S_aload_n (pc := 30) 1 rfl dX3_keep_30 rfl ?_
  refine S_getI (pc := 31) fd_X3_held wd_100 dX3_keep_31 (fun v8 => ?_)
  refine S_bipush (pc := 34) dX3_keep_34 bi_12 ?_
  refine S_icmp_ge (pc := 36) (tgt := 52) dX3_keep_36 (by decide) ?_ ?_
  · refine S_aload_n (pc := 52) 1 rfl dX3_keep_52 rfl ?_
    refine S_aload_n (pc := 53) 1 rfl dX3_keep_53 rfl ?_
    refine S_getI (pc := 54) fd_X3_oldest wd_99 dX3_keep_54 (fun v9 => ?_)
    refine S_iconst (pc := 57) dX3_keep_57 ic_1 ?_
    refine S_iadd (pc := 58) dX3_keep_58 ?_
    refine S_bipush (pc := 59) dX3_keep_59 bi_12 ?_
    refine S_irem (pc := 61) (by decide) dX3_keep_61 ?_
    refine S_putI (pc := 62) fd_X3_oldest wd_99 rfl rfl dX3_keep_62 (fun h10 => ?_)
    exact Sim.fin ⟨dX3_keep_65, rfl, rfl⟩ rfl
  · refine S_aload_n (pc := 39) 1 rfl dX3_keep_39 rfl ?_
    refine S_dup (pc := 40) rfl dX3_keep_40 ?_
    refine S_getI (pc := 41) fd_X3_held wd_100 dX3_keep_41 (fun v11 => ?_)
    refine S_iconst (pc := 44) dX3_keep_44 ic_1 ?_
    refine S_iadd (pc := 45) dX3_keep_45 ?_
    refine S_putI (pc := 46) fd_X3_held wd_100 rfl rfl dX3_keep_46 (fun h12 => ?_)
    refine S_goto (pc := 49) (tgt := 65) dX3_keep_49 (by decide) ?_
    exact Sim.fin ⟨dX3_keep_65, rfl, rfl⟩ rfl
theorem M_X3_keep (l : Launch) (a0 : Nat) (a1 : Int32) (a2 : Nat) (h : xH) {q : xH} (hq : f_X3_keep a0 a1 a2 h = some q) : xM l yX3_keep cX3_keep 4 none 2 [.ref a0, .int a1, .ref a2] h none q := xM_v (by decide +kernel) (Nat.le_of_ble_eq_true rfl) (fun K L => W_X3_keep K L a0 a1 a2 h) hq
theorem dX11_vectorToChange_0 : decode cX11_vectorToChange 0 = .ok (.aload_n 0, 1) := by decide +kernel
theorem dX11_vectorToChange_1 : decode cX11_vectorToChange 1 = .ok (.getfield 36, 3) := by decide +kernel
theorem dX11_vectorToChange_4 : decode cX11_vectorToChange 4 = .ok (.iload_n 1, 1) := by decide +kernel
theorem dX11_vectorToChange_5 : decode cX11_vectorToChange 5 = .ok (.aload_n 0, 1) := by decide +kernel
theorem dX11_vectorToChange_6 : decode cX11_vectorToChange 6 = .ok (.getfield 17, 3) := by decide +kernel
theorem dX11_vectorToChange_9 : decode cX11_vectorToChange 9 = .ok (.iload_n 1, 1) := by decide +kernel
theorem dX11_vectorToChange_10 : decode cX11_vectorToChange 10 = .ok (.aaload, 1) := by decide +kernel
theorem dX11_vectorToChange_11 : decode cX11_vectorToChange 11 = .ok (.invokevirtual 287, 3) := by decide +kernel
theorem dX11_vectorToChange_14 : decode cX11_vectorToChange 14 = .ok (.aload_n 0, 1) := by decide +kernel
theorem dX11_vectorToChange_15 : decode cX11_vectorToChange 15 = .ok (.getfield 17, 3) := by decide +kernel
theorem dX11_vectorToChange_18 : decode cX11_vectorToChange 18 = .ok (.iload_n 1, 1) := by decide +kernel
theorem dX11_vectorToChange_19 : decode cX11_vectorToChange 19 = .ok (.aaload, 1) := by decide +kernel
theorem dX11_vectorToChange_20 : decode cX11_vectorToChange 20 = .ok (.areturn, 1) := by decide +kernel
set_option maxRecDepth 20000 in
set_option maxHeartbeats 4000000 in
theorem W_X11_vectorToChange (K : xK) (L : xL) (a0 : Nat) (a1 : Int32) (h : xH) : Sim K L cX11_vectorToChange RX11 "vectorToChange" 2 3 (fun q : Nat × xH => q.2) (xRr cX11_vectorToChange) 0 [(0, .ref a0), (1, .int a1)] [] h (f_X11_vectorToChange a0 a1 h) := by
  unfold f_X11_vectorToChange
  refine S_aload_n (pc := 0) 0 rfl dX11_vectorToChange_0 rfl ?_
  refine S_getR (pc := 1) fd_X11_history wd_194 dX11_vectorToChange_1 (fun v1 => ?_)
  refine S_iload_n (pc := 4) 1 rfl dX11_vectorToChange_4 rfl ?_
  refine S_aload_n (pc := 5) 0 rfl dX11_vectorToChange_5 rfl ?_
  refine S_getR (pc := 6) fd_X11_vectors wd_190 dX11_vectorToChange_6 (fun v2 => ?_)
  refine S_iload_n (pc := 9) 1 rfl dX11_vectorToChange_9 rfl ?_
  refine S_aR (pc := 10) (fun _ => rfl) dX11_vectorToChange_10 (fun v3 => ?_)
  refine S_call_v (pc := 11) (rest := []) (fun q hq => (x_if hq).elim (fun z => R_V (av := [.int a1, .ref v3]) (q := (RX3, TX3, 4)) (M_X3_keep _ v1 a1 v3 h z.2) z.1 rfl wd_398 wd_395 wd_396 wd_46 wd_397 ⟨rfl, hd_X3_keep⟩ ⟨Nat.le_of_ble_eq_true rfl, Nat.le_of_ble_eq_true rfl⟩ rfl (Nat.le_of_ble_eq_true rfl) dX11_vectorToChange_11) (fun hq => (by cases hq))) (fun _ h => absurd h List.not_mem_nil) (fun q4 => ?_)
  refine S_aload_n (pc := 14) 0 rfl dX11_vectorToChange_14 rfl ?_
  refine S_getR (pc := 15) fd_X11_vectors wd_190 dX11_vectorToChange_15 (fun v5 => ?_)
  refine S_iload_n (pc := 18) 1 rfl dX11_vectorToChange_18 rfl ?_
  refine S_aR (pc := 19) (fun _ => rfl) dX11_vectorToChange_19 (fun v6 => ?_)
  exact Sim.fin ⟨dX11_vectorToChange_20, rfl, rfl⟩ rfl
theorem M_X11_vectorToChange (l : Launch) (a0 : Nat) (a1 : Int32) (h : xH) {q : Nat × xH} (hq : f_X11_vectorToChange a0 a1 h = some q) : xM l yX11_vectorToChange cX11_vectorToChange 2 (some (.object "ClassBits$BitVector")) 3 [.ref a0, .int a1] h (some (.ref q.1)) q.2 := xM_r (by decide +kernel) (Nat.le_of_ble_eq_true rfl) (fun K L => W_X11_vectorToChange K L a0 a1 h) hq
theorem dX1_write_0 : decode cX1_write 0 = .ok (.iload_n 1, 1) := by decide +kernel
theorem dX1_write_1 : decode cX1_write 1 = .ok (.ifCond .lt 11, 3) := by decide +kernel
theorem dX1_write_4 : decode cX1_write 4 = .ok (.iload_n 1, 1) := by decide +kernel
theorem dX1_write_5 : decode cX1_write 5 = .ok (.aload_n 0, 1) := by decide +kernel
theorem dX1_write_6 : decode cX1_write 6 = .ok (.getfield 15, 3) := by decide +kernel
theorem dX1_write_9 : decode cX1_write 9 = .ok (.if_icmp .lt 4, 3) := by decide +kernel
theorem dX1_write_12 : decode cX1_write 12 = .ok (.return_, 1) := by decide +kernel
theorem dX1_write_13 : decode cX1_write 13 = .ok (.iload_n 1, 1) := by decide +kernel
theorem dX1_write_14 : decode cX1_write 14 = .ok (.bipush 15, 2) := by decide +kernel
theorem dX1_write_16 : decode cX1_write 16 = .ok (.idiv, 1) := by decide +kernel
theorem dX1_write_17 : decode cX1_write 17 = .ok (.istore_n 3, 1) := by decide +kernel
theorem dX1_write_18 : decode cX1_write 18 = .ok (.iconst 1, 1) := by decide +kernel
theorem dX1_write_19 : decode cX1_write 19 = .ok (.iload_n 1, 1) := by decide +kernel
theorem dX1_write_20 : decode cX1_write 20 = .ok (.bipush 15, 2) := by decide +kernel
theorem dX1_write_22 : decode cX1_write 22 = .ok (.irem, 1) := by decide +kernel
theorem dX1_write_23 : decode cX1_write 23 = .ok (.ishl, 1) := by decide +kernel
theorem dX1_write_24 : decode cX1_write 24 = .ok (.istore 4, 2) := by decide +kernel
theorem dX1_write_26 : decode cX1_write 26 = .ok (.aload_n 0, 1) := by decide +kernel
theorem dX1_write_27 : decode cX1_write 27 = .ok (.getfield 9, 3) := by decide +kernel
theorem dX1_write_30 : decode cX1_write 30 = .ok (.iload_n 3, 1) := by decide +kernel
theorem dX1_write_31 : decode cX1_write 31 = .ok (.iload_n 2, 1) := by decide +kernel
theorem dX1_write_32 : decode cX1_write 32 = .ok (.iconst 1, 1) := by decide +kernel
theorem dX1_write_33 : decode cX1_write 33 = .ok (.if_icmp .ne 15, 3) := by decide +kernel
theorem dX1_write_36 : decode cX1_write 36 = .ok (.aload_n 0, 1) := by decide +kernel
theorem dX1_write_37 : decode cX1_write 37 = .ok (.getfield 9, 3) := by decide +kernel
theorem dX1_write_40 : decode cX1_write 40 = .ok (.iload_n 3, 1) := by decide +kernel
theorem dX1_write_41 : decode cX1_write 41 = .ok (.iaload, 1) := by decide +kernel
theorem dX1_write_42 : decode cX1_write 42 = .ok (.iload 4, 2) := by decide +kernel
theorem dX1_write_44 : decode cX1_write 44 = .ok (.ior, 1) := by decide +kernel
theorem dX1_write_45 : decode cX1_write 45 = .ok (.goto 14, 3) := by decide +kernel
theorem dX1_write_48 : decode cX1_write 48 = .ok (.aload_n 0, 1) := by decide +kernel
theorem dX1_write_49 : decode cX1_write 49 = .ok (.getfield 9, 3) := by decide +kernel
theorem dX1_write_52 : decode cX1_write 52 = .ok (.iload_n 3, 1) := by decide +kernel
theorem dX1_write_53 : decode cX1_write 53 = .ok (.iaload, 1) := by decide +kernel
theorem dX1_write_54 : decode cX1_write 54 = .ok (.iload 4, 2) := by decide +kernel
theorem dX1_write_56 : decode cX1_write 56 = .ok (.iconst (-1), 1) := by decide +kernel
theorem dX1_write_57 : decode cX1_write 57 = .ok (.ixor, 1) := by decide +kernel
theorem dX1_write_58 : decode cX1_write 58 = .ok (.iand, 1) := by decide +kernel
theorem dX1_write_59 : decode cX1_write 59 = .ok (.iastore, 1) := by decide +kernel
theorem dX1_write_60 : decode cX1_write 60 = .ok (.return_, 1) := by decide +kernel
set_option maxRecDepth 20000 in
set_option maxHeartbeats 4000000 in
theorem W_X1_write (K : xK) (L : xL) (a0 : Nat) (a1 : Int32) (a2 : Int32) (h : xH) : Sim K L cX1_write RX1 "write" 5 0 (fun q : xH => q) (xRv cX1_write) 0 [(0, .ref a0), (1, .int a1), (2, .int a2)] [] h (f_X1_write a0 a1 a2 h) := by
  unfold f_X1_write
  refine S_iload_n (pc := 0) 1 rfl dX1_write_0 rfl ?_
  refine S_if_lt (pc := 1) (tgt := 12) dX1_write_1 (by decide) ?_ ?_
  · exact Sim.fin ⟨dX1_write_12, rfl, rfl⟩ rfl
  · refine S_iload_n (pc := 4) 1 rfl dX1_write_4 rfl ?_
    refine S_aload_n (pc := 5) 0 rfl dX1_write_5 rfl ?_
    refine S_getI (pc := 6) fd_X1_length wd_80 dX1_write_6 (fun v1 => ?_)
    refine S_icmp_lt (pc := 9) (tgt := 13) dX1_write_9 (by decide) ?_ ?_
    · refine S_iload_n (pc := 13) 1 rfl dX1_write_13 rfl ?_
      refine S_bipush (pc := 14) dX1_write_14 bi_15 ?_
      refine S_idiv (pc := 16) (by decide) dX1_write_16 ?_
      refine S_istore_n (pc := 17) dX1_write_17 rfl (Nat.le_of_ble_eq_true rfl) rfl ?_
      refine S_iconst (pc := 18) dX1_write_18 ic_1 ?_
      refine S_iload_n (pc := 19) 2 rfl dX1_write_19 rfl ?_
      refine S_bipush (pc := 20) dX1_write_20 bi_15 ?_
      refine S_irem (pc := 22) (by decide) dX1_write_22 ?_
      refine S_ishl (pc := 23) dX1_write_23 ?_
      refine S_istore (pc := 24) dX1_write_24 (Nat.le_of_ble_eq_true rfl) rfl ?_
      refine S_aload_n (pc := 26) 2 rfl dX1_write_26 rfl ?_
      refine S_getR (pc := 27) fd_X1_masks wd_78 dX1_write_27 (fun v2 => ?_)
      refine S_iload_n (pc := 30) 1 rfl dX1_write_30 rfl ?_
      refine S_iload_n (pc := 31) 4 rfl dX1_write_31 rfl ?_
      refine S_iconst (pc := 32) dX1_write_32 ic_1 ?_
      refine S_icmp_ne (pc := 33) (tgt := 48) dX1_write_33 (by decide) ?_ ?_
      · refine S_aload_n (pc := 36) 2 rfl dX1_write_36 rfl ?_
        refine S_getR (pc := 37) fd_X1_masks wd_78 dX1_write_37 (fun v3 => ?_)
        refine S_iload_n (pc := 40) 1 rfl dX1_write_40 rfl ?_
        refine S_aI (pc := 41) dX1_write_41 (fun v4 => ?_)
        refine S_iload (pc := 42) 0 rfl dX1_write_42 ?_
        refine S_ior (pc := 44) dX1_write_44 ?_
        refine S_goto (pc := 45) (tgt := 59) dX1_write_45 (by decide) ?_
        refine S_uI (pc := 59) dX1_write_59 (fun h5 => ?_)
        exact Sim.fin ⟨dX1_write_60, rfl, rfl⟩ rfl
      · refine S_aload_n (pc := 48) 2 rfl dX1_write_48 rfl ?_
        refine S_getR (pc := 49) fd_X1_masks wd_78 dX1_write_49 (fun v6 => ?_)
        refine S_iload_n (pc := 52) 1 rfl dX1_write_52 rfl ?_
        refine S_aI (pc := 53) dX1_write_53 (fun v7 => ?_)
        refine S_iload (pc := 54) 0 rfl dX1_write_54 ?_
        refine S_iconst (pc := 56) dX1_write_56 ic_m1 ?_
        refine S_ixor (pc := 57) dX1_write_57 ?_
        refine S_iand (pc := 58) dX1_write_58 ?_
        refine S_uI (pc := 59) dX1_write_59 (fun h8 => ?_)
        exact Sim.fin ⟨dX1_write_60, rfl, rfl⟩ rfl
    · exact Sim.fin ⟨dX1_write_12, rfl, rfl⟩ rfl
theorem M_X1_write (l : Launch) (a0 : Nat) (a1 : Int32) (a2 : Int32) (h : xH) {q : xH} (hq : f_X1_write a0 a1 a2 h = some q) : xM l yX1_write cX1_write 5 none 0 [.ref a0, .int a1, .int a2] h none q := xM_v (by decide +kernel) (Nat.le_of_ble_eq_true rfl) (fun K L => W_X1_write K L a0 a1 a2 h) hq
theorem dX1_append_0 : decode cX1_append 0 = .ok (.aload_n 0, 1) := by decide +kernel
theorem dX1_append_1 : decode cX1_append 1 = .ok (.getfield 15, 3) := by decide +kernel
theorem dX1_append_4 : decode cX1_append 4 = .ok (.sipush 480, 3) := by decide +kernel
theorem dX1_append_7 : decode cX1_append 7 = .ok (.if_icmp .ge 24, 3) := by decide +kernel
theorem dX1_append_10 : decode cX1_append 10 = .ok (.aload_n 0, 1) := by decide +kernel
theorem dX1_append_11 : decode cX1_append 11 = .ok (.dup, 1) := by decide +kernel
theorem dX1_append_12 : decode cX1_append 12 = .ok (.getfield 15, 3) := by decide +kernel
theorem dX1_append_15 : decode cX1_append 15 = .ok (.iconst 1, 1) := by decide +kernel
theorem dX1_append_16 : decode cX1_append 16 = .ok (.iadd, 1) := by decide +kernel
theorem dX1_append_17 : decode cX1_append 17 = .ok (.putfield 15, 3) := by decide +kernel
theorem dX1_append_20 : decode cX1_append 20 = .ok (.aload_n 0, 1) := by decide +kernel
theorem dX1_append_21 : decode cX1_append 21 = .ok (.aload_n 0, 1) := by decide +kernel
theorem dX1_append_22 : decode cX1_append 22 = .ok (.getfield 15, 3) := by decide +kernel
theorem dX1_append_25 : decode cX1_append 25 = .ok (.iconst 1, 1) := by decide +kernel
theorem dX1_append_26 : decode cX1_append 26 = .ok (.isub, 1) := by decide +kernel
theorem dX1_append_27 : decode cX1_append 27 = .ok (.iload_n 1, 1) := by decide +kernel
theorem dX1_append_28 : decode cX1_append 28 = .ok (.invokevirtual 19, 3) := by decide +kernel
theorem dX1_append_31 : decode cX1_append 31 = .ok (.return_, 1) := by decide +kernel
set_option maxRecDepth 20000 in
set_option maxHeartbeats 4000000 in
theorem W_X1_append (K : xK) (L : xL) (a0 : Nat) (a1 : Int32) (h : xH) : Sim K L cX1_append RX1 "append" 2 1 (fun q : xH => q) (xRv cX1_append) 0 [(0, .ref a0), (1, .int a1)] [] h (f_X1_append a0 a1 h) := by
  unfold f_X1_append
  refine S_aload_n (pc := 0) 0 rfl dX1_append_0 rfl ?_
  refine S_getI (pc := 1) fd_X1_length wd_80 dX1_append_1 (fun v1 => ?_)
  refine S_sipush (pc := 4) dX1_append_4 si_480 ?_
  refine S_icmp_ge (pc := 7) (tgt := 31) dX1_append_7 (by decide) ?_ ?_
  · exact Sim.fin ⟨dX1_append_31, rfl, rfl⟩ rfl
  · refine S_aload_n (pc := 10) 0 rfl dX1_append_10 rfl ?_
    refine S_dup (pc := 11) rfl dX1_append_11 ?_
    refine S_getI (pc := 12) fd_X1_length wd_80 dX1_append_12 (fun v2 => ?_)
    refine S_iconst (pc := 15) dX1_append_15 ic_1 ?_
    refine S_iadd (pc := 16) dX1_append_16 ?_
    refine S_putI (pc := 17) fd_X1_length wd_80 rfl rfl dX1_append_17 (fun h3 => ?_)
    refine S_aload_n (pc := 20) 0 rfl dX1_append_20 rfl ?_
    refine S_aload_n (pc := 21) 0 rfl dX1_append_21 rfl ?_
    refine S_getI (pc := 22) fd_X1_length wd_80 dX1_append_22 (fun v4 => ?_)
    refine S_iconst (pc := 25) dX1_append_25 ic_1 ?_
    refine S_isub (pc := 26) dX1_append_26 ?_
    refine S_iload_n (pc := 27) 1 rfl dX1_append_27 rfl ?_
    refine S_call_v (pc := 28) (rest := []) (fun q hq => (x_if hq).elim (fun z => R_V (av := [.int (v4 - (1 : Int32)), .int a1]) (q := (RX1, TX1, 2)) (M_X1_write _ a0 (v4 - (1 : Int32)) a1 h3 z.2) z.1 rfl wd_439 wd_436 wd_437 wd_45 wd_438 ⟨rfl, hd_X1_write⟩ ⟨Nat.le_of_ble_eq_true rfl, Nat.le_of_ble_eq_true rfl⟩ rfl (Nat.le_of_ble_eq_true rfl) dX1_append_28) (fun hq => (by cases hq))) (fun _ h => absurd h List.not_mem_nil) (fun q5 => ?_)
    exact Sim.fin ⟨dX1_append_31, rfl, rfl⟩ rfl
theorem M_X1_append (l : Launch) (a0 : Nat) (a1 : Int32) (h : xH) {q : xH} (hq : f_X1_append a0 a1 h = some q) : xM l yX1_append cX1_append 2 none 1 [.ref a0, .int a1] h none q := xM_v (by decide +kernel) (Nat.le_of_ble_eq_true rfl) (fun K L => W_X1_append K L a0 a1 h) hq
theorem dX11_add_0 : decode cX11_add 0 = .ok (.iload_n 1, 1) := by decide +kernel
theorem dX11_add_1 : decode cX11_add 1 = .ok (.invokestatic 113, 3) := by decide +kernel
theorem dX11_add_4 : decode cX11_add 4 = .ok (.ifCond .eq 22, 3) := by decide +kernel
theorem dX11_add_7 : decode cX11_add 7 = .ok (.iload_n 2, 1) := by decide +kernel
theorem dX11_add_8 : decode cX11_add 8 = .ok (.invokestatic 149, 3) := by decide +kernel
theorem dX11_add_11 : decode cX11_add 11 = .ok (.ifCond .eq 15, 3) := by decide +kernel
theorem dX11_add_14 : decode cX11_add 14 = .ok (.iload_n 3, 1) := by decide +kernel
theorem dX11_add_15 : decode cX11_add 15 = .ok (.iconst 1, 1) := by decide +kernel
theorem dX11_add_16 : decode cX11_add 16 = .ok (.if_icmp .lt 10, 3) := by decide +kernel
theorem dX11_add_19 : decode cX11_add 19 = .ok (.iload_n 3, 1) := by decide +kernel
theorem dX11_add_20 : decode cX11_add 20 = .ok (.sipush 480, 3) := by decide +kernel
theorem dX11_add_23 : decode cX11_add 23 = .ok (.if_icmp .le 6, 3) := by decide +kernel
theorem dX11_add_26 : decode cX11_add 26 = .ok (.ldc 65, 2) := by decide +kernel
theorem dX11_add_28 : decode cX11_add 28 = .ok (.ireturn, 1) := by decide +kernel
theorem dX11_add_29 : decode cX11_add 29 = .ok (.aload_n 0, 1) := by decide +kernel
theorem dX11_add_30 : decode cX11_add 30 = .ok (.getfield 17, 3) := by decide +kernel
theorem dX11_add_33 : decode cX11_add 33 = .ok (.iload_n 1, 1) := by decide +kernel
theorem dX11_add_34 : decode cX11_add 34 = .ok (.aaload, 1) := by decide +kernel
theorem dX11_add_35 : decode cX11_add 35 = .ok (.getfield 148, 3) := by decide +kernel
theorem dX11_add_38 : decode cX11_add 38 = .ok (.iload_n 3, 1) := by decide +kernel
theorem dX11_add_39 : decode cX11_add 39 = .ok (.iadd, 1) := by decide +kernel
theorem dX11_add_40 : decode cX11_add 40 = .ok (.sipush 480, 3) := by decide +kernel
theorem dX11_add_43 : decode cX11_add 43 = .ok (.if_icmp .le 6, 3) := by decide +kernel
theorem dX11_add_46 : decode cX11_add 46 = .ok (.ldc 109, 2) := by decide +kernel
theorem dX11_add_48 : decode cX11_add 48 = .ok (.ireturn, 1) := by decide +kernel
theorem dX11_add_49 : decode cX11_add 49 = .ok (.aload_n 0, 1) := by decide +kernel
theorem dX11_add_50 : decode cX11_add 50 = .ok (.iload_n 1, 1) := by decide +kernel
theorem dX11_add_51 : decode cX11_add 51 = .ok (.invokevirtual 133, 3) := by decide +kernel
theorem dX11_add_54 : decode cX11_add 54 = .ok (.astore 4, 2) := by decide +kernel
theorem dX11_add_56 : decode cX11_add 56 = .ok (.iconst 0, 1) := by decide +kernel
theorem dX11_add_57 : decode cX11_add 57 = .ok (.istore 5, 2) := by decide +kernel
theorem dX11_add_59 : decode cX11_add 59 = .ok (.iload 5, 2) := by decide +kernel
theorem dX11_add_61 : decode cX11_add 61 = .ok (.iload_n 3, 1) := by decide +kernel
theorem dX11_add_62 : decode cX11_add 62 = .ok (.if_icmp .ge 15, 3) := by decide +kernel
theorem dX11_add_65 : decode cX11_add 65 = .ok (.aload 4, 2) := by decide +kernel
theorem dX11_add_67 : decode cX11_add 67 = .ok (.iload_n 2, 1) := by decide +kernel
theorem dX11_add_68 : decode cX11_add 68 = .ok (.invokevirtual 158, 3) := by decide +kernel
theorem dX11_add_71 : decode cX11_add 71 = .ok (.iinc 5 1, 3) := by decide +kernel
theorem dX11_add_74 : decode cX11_add 74 = .ok (.goto (-15), 3) := by decide +kernel
theorem dX11_add_77 : decode cX11_add 77 = .ok (.aload 4, 2) := by decide +kernel
theorem dX11_add_79 : decode cX11_add 79 = .ok (.getfield 148, 3) := by decide +kernel
theorem dX11_add_82 : decode cX11_add 82 = .ok (.ireturn, 1) := by decide +kernel
set_option maxRecDepth 20000 in
set_option maxHeartbeats 4000000 in
theorem L_X11_add_59 (K : xK) (L : xL) : ∀ (n : Nat) (a2 : Int32) (a3 : Int32) (a4 : Nat) (a5 : Int32) (h : xH), Sim K L cX11_add RX11 "add" 6 4 (fun q : Int32 × xH => q.2) (fun q pc' ls' st' h' => pc' = 77 ∧ ls' = [(2, .int a2), (3, .int a3), (4, .ref a4), (5, .int q.1)] ∧ st' = [] ∧ h' = q.2) 59 [(2, .int a2), (3, .int a3), (4, .ref a4), (5, .int a5)] [] h (f_X11_add_L59 n a2 a3 a4 a5 h) := by
  intro n
  induction n with
  | zero =>
    intro a2 a3 a4 a5 h
    exact Sim.none
  | succ n ih =>
    intro a2 a3 a4 a5 h
    unfold f_X11_add_L59
    refine S_iload (pc := 59) 3 rfl dX11_add_59 ?_
    refine S_iload_n (pc := 61) 1 rfl dX11_add_61 rfl ?_
    refine S_icmp_ge (pc := 62) (tgt := 77) dX11_add_62 (by decide) ?_ ?_
    · refine S_sub [0, 1, 2, 3] rfl ?_
      exact Sim.fin ⟨rfl, rfl, rfl, rfl⟩ rfl
    · refine S_aload (pc := 65) 2 rfl dX11_add_65 ?_
      refine S_iload_n (pc := 67) 0 rfl dX11_add_67 rfl ?_
      refine S_call_v (pc := 68) (rest := []) (fun q hq => (x_if hq).elim (fun z => R_V (av := [.int a2]) (q := (RX1, TX1, 2)) (M_X1_append _ a4 a2 h z.2) z.1 rfl wd_435 wd_460 wd_433 wd_45 wd_434 ⟨rfl, hd_X1_append⟩ ⟨Nat.le_of_ble_eq_true rfl, Nat.le_of_ble_eq_true rfl⟩ rfl (Nat.le_of_ble_eq_true rfl) dX11_add_68) (fun hq => (by cases hq))) (fun _ h => absurd h List.not_mem_nil) (fun q7 => ?_)
      refine S_iinc (pc := 71) (v := a5 + (1 : Int32)) 3 rfl dX11_add_71 (x_inc ic_1) (Nat.le_of_ble_eq_true rfl) rfl ?_
      refine S_goto (pc := 74) (tgt := 59) dX11_add_74 (by decide) ?_
      refine S_sub [1, 2, 3, 0] rfl ?_
      exact ih a2 a3 a4 (a5 + (1 : Int32)) q7
set_option maxRecDepth 20000 in
set_option maxHeartbeats 4000000 in
theorem W_X11_add (K : xK) (L : xL) (a0 : Nat) (a1 : Int32) (a2 : Int32) (a3 : Int32) (h : xH) : Sim K L cX11_add RX11 "add" 6 4 (fun q : Int32 × xH => q.2) (xRi cX11_add) 0 [(0, .ref a0), (1, .int a1), (2, .int a2), (3, .int a3)] [] h (f_X11_add a0 a1 a2 a3 h) := by
  unfold f_X11_add
  refine S_iload_n (pc := 0) 1 rfl dX11_add_0 rfl ?_
  refine S_call_i (pc := 1) (rest := []) (fun q hq => R_S (av := [.int a1]) (M_X11_isVector _ a1 h hq) wd_293 wd_291 wd_292 wd_44 hd_X11_isVector ⟨Nat.le_of_ble_eq_true rfl, Nat.le_of_ble_eq_true rfl⟩ rfl (Nat.le_of_ble_eq_true rfl) dX11_add_1) (fun _ h => absurd h List.not_mem_nil) (fun q1 => ?_)
  refine S_if_eq (pc := 4) (tgt := 26) dX11_add_4 (by decide) ?_ ?_
  · refine S_ldc (pc := 26) wd_233 dX11_add_26 ?_
    exact Sim.fin ⟨dX11_add_28, rfl, rfl⟩ rfl
  · refine S_iload_n (pc := 7) 2 rfl dX11_add_7 rfl ?_
    refine S_call_i (pc := 8) (rest := []) (fun q hq => R_S (av := [.int a2]) (M_X11_isValue _ a2 q1.2 hq) wd_450 wd_448 wd_449 wd_44 hd_X11_isValue ⟨Nat.le_of_ble_eq_true rfl, Nat.le_of_ble_eq_true rfl⟩ rfl (Nat.le_of_ble_eq_true rfl) dX11_add_8) (fun _ h => absurd h List.not_mem_nil) (fun q2 => ?_)
    refine S_if_eq (pc := 11) (tgt := 26) dX11_add_11 (by decide) ?_ ?_
    · refine S_ldc (pc := 26) wd_233 dX11_add_26 ?_
      exact Sim.fin ⟨dX11_add_28, rfl, rfl⟩ rfl
    · refine S_iload_n (pc := 14) 3 rfl dX11_add_14 rfl ?_
      refine S_iconst (pc := 15) dX11_add_15 ic_1 ?_
      refine S_icmp_lt (pc := 16) (tgt := 26) dX11_add_16 (by decide) ?_ ?_
      · refine S_ldc (pc := 26) wd_233 dX11_add_26 ?_
        exact Sim.fin ⟨dX11_add_28, rfl, rfl⟩ rfl
      · refine S_iload_n (pc := 19) 3 rfl dX11_add_19 rfl ?_
        refine S_sipush (pc := 20) dX11_add_20 si_480 ?_
        refine S_icmp_le (pc := 23) (tgt := 29) dX11_add_23 (by decide) ?_ ?_
        · refine S_aload_n (pc := 29) 0 rfl dX11_add_29 rfl ?_
          refine S_getR (pc := 30) fd_X11_vectors wd_190 dX11_add_30 (fun v3 => ?_)
          refine S_iload_n (pc := 33) 1 rfl dX11_add_33 rfl ?_
          refine S_aR (pc := 34) (fun _ => rfl) dX11_add_34 (fun v4 => ?_)
          refine S_getI (pc := 35) fd_X1_length wd_81 dX11_add_35 (fun v5 => ?_)
          refine S_iload_n (pc := 38) 3 rfl dX11_add_38 rfl ?_
          refine S_iadd (pc := 39) dX11_add_39 ?_
          refine S_sipush (pc := 40) dX11_add_40 si_480 ?_
          refine S_icmp_le (pc := 43) (tgt := 49) dX11_add_43 (by decide) ?_ ?_
          · refine S_aload_n (pc := 49) 0 rfl dX11_add_49 rfl ?_
            refine S_iload_n (pc := 50) 1 rfl dX11_add_50 rfl ?_
            refine S_call_r (pc := 51) (rest := []) (fun q hq => (x_if hq).elim (fun z => R_V (av := [.int a1]) (q := (RX11, TX11, 12)) (M_X11_vectorToChange _ a0 a1 q2.2 z.2) z.1 rfl wd_394 wd_391 wd_393 wd_44 wd_8 ⟨rfl, hd_X11_vectorToChange⟩ ⟨Nat.le_of_ble_eq_true rfl, Nat.le_of_ble_eq_true rfl⟩ rfl (Nat.le_of_ble_eq_true rfl) dX11_add_51) (fun hq => (by cases hq))) (fun _ h => absurd h List.not_mem_nil) (fun q6 => ?_)
            refine S_astore (pc := 54) dX11_add_54 (Nat.le_of_ble_eq_true rfl) rfl ?_
            refine S_iconst (pc := 56) dX11_add_56 ic_0 ?_
            refine S_istore (pc := 57) dX11_add_57 (Nat.le_of_ble_eq_true rfl) rfl ?_
            refine S_sub [4, 5, 1, 0] rfl ?_
            refine Sim.bind (hs := fun q8 : Int32 × xH => q8.2) (px := 77) (lsx := fun q8 => [(2, .int a2), (3, .int a3), (4, .ref q6.1), (5, .int q8.1)]) (L_X11_add_59 K L xN a2 a3 q6.1 (0 : Int32) q6.2) (fun q8 => ?_)
            refine S_aload (pc := 77) 2 rfl dX11_add_77 ?_
            refine S_getI (pc := 79) fd_X1_length wd_81 dX11_add_79 (fun v9 => ?_)
            exact Sim.fin ⟨dX11_add_82, rfl, rfl⟩ rfl
          · refine S_ldc (pc := 46) wd_281 dX11_add_46 ?_
            exact Sim.fin ⟨dX11_add_48, rfl, rfl⟩ rfl
        · refine S_ldc (pc := 26) wd_233 dX11_add_26 ?_
          exact Sim.fin ⟨dX11_add_28, rfl, rfl⟩ rfl
theorem M_X11_add (l : Launch) (a0 : Nat) (a1 : Int32) (a2 : Int32) (a3 : Int32) (h : xH) {q : Int32 × xH} (hq : f_X11_add a0 a1 a2 a3 h = some q) : xM l yX11_add cX11_add 6 (some .int) 4 [.ref a0, .int a1, .int a2, .int a3] h (some (.int q.1)) q.2 := xM_i (by decide +kernel) (Nat.le_of_ble_eq_true rfl) (fun K L => W_X11_add K L a0 a1 a2 a3 h) hq
theorem dX11_commonDivisor_0 : decode cX11_commonDivisor 0 = .ok (.iload_n 0, 1) := by decide +kernel
theorem dX11_commonDivisor_1 : decode cX11_commonDivisor 1 = .ok (.istore_n 2, 1) := by decide +kernel
theorem dX11_commonDivisor_2 : decode cX11_commonDivisor 2 = .ok (.iload_n 1, 1) := by decide +kernel
theorem dX11_commonDivisor_3 : decode cX11_commonDivisor 3 = .ok (.istore_n 3, 1) := by decide +kernel
theorem dX11_commonDivisor_4 : decode cX11_commonDivisor 4 = .ok (.iconst 0, 1) := by decide +kernel
theorem dX11_commonDivisor_5 : decode cX11_commonDivisor 5 = .ok (.istore 4, 2) := by decide +kernel
theorem dX11_commonDivisor_7 : decode cX11_commonDivisor 7 = .ok (.iload 4, 2) := by decide +kernel
theorem dX11_commonDivisor_9 : decode cX11_commonDivisor 9 = .ok (.sipush 480, 3) := by decide +kernel
theorem dX11_commonDivisor_12 : decode cX11_commonDivisor 12 = .ok (.if_icmp .ge 23, 3) := by decide +kernel
theorem dX11_commonDivisor_15 : decode cX11_commonDivisor 15 = .ok (.iload_n 3, 1) := by decide +kernel
theorem dX11_commonDivisor_16 : decode cX11_commonDivisor 16 = .ok (.ifCond .eq 19, 3) := by decide +kernel
theorem dX11_commonDivisor_19 : decode cX11_commonDivisor 19 = .ok (.iload_n 2, 1) := by decide +kernel
theorem dX11_commonDivisor_20 : decode cX11_commonDivisor 20 = .ok (.iload_n 3, 1) := by decide +kernel
theorem dX11_commonDivisor_21 : decode cX11_commonDivisor 21 = .ok (.irem, 1) := by decide +kernel
theorem dX11_commonDivisor_22 : decode cX11_commonDivisor 22 = .ok (.istore 5, 2) := by decide +kernel
theorem dX11_commonDivisor_24 : decode cX11_commonDivisor 24 = .ok (.iload_n 3, 1) := by decide +kernel
theorem dX11_commonDivisor_25 : decode cX11_commonDivisor 25 = .ok (.istore_n 2, 1) := by decide +kernel
theorem dX11_commonDivisor_26 : decode cX11_commonDivisor 26 = .ok (.iload 5, 2) := by decide +kernel
theorem dX11_commonDivisor_28 : decode cX11_commonDivisor 28 = .ok (.istore_n 3, 1) := by decide +kernel
theorem dX11_commonDivisor_29 : decode cX11_commonDivisor 29 = .ok (.iinc 4 1, 3) := by decide +kernel
theorem dX11_commonDivisor_32 : decode cX11_commonDivisor 32 = .ok (.goto (-25), 3) := by decide +kernel
theorem dX11_commonDivisor_35 : decode cX11_commonDivisor 35 = .ok (.iconst 1, 1) := by decide +kernel
theorem dX11_commonDivisor_36 : decode cX11_commonDivisor 36 = .ok (.iload_n 2, 1) := by decide +kernel
theorem dX11_commonDivisor_37 : decode cX11_commonDivisor 37 = .ok (.invokestatic 310, 3) := by decide +kernel
theorem dX11_commonDivisor_40 : decode cX11_commonDivisor 40 = .ok (.ireturn, 1) := by decide +kernel
set_option maxRecDepth 20000 in
set_option maxHeartbeats 4000000 in
theorem L_X11_commonDivisor_7 (K : xK) (L : xL) : ∀ (n : Nat) (a2 : Int32) (a3 : Int32) (a4 : Int32) (h : xH), Sim K L cX11_commonDivisor RX11 "commonDivisor" 6 1 (fun q : Int32 × Int32 × Int32 × xH => q.2.2.2) (fun q pc' ls' st' h' => pc' = 35 ∧ ls' = [(2, .int q.1), (3, .int q.2.1), (4, .int q.2.2.1)] ∧ st' = [] ∧ h' = q.2.2.2) 7 [(2, .int a2), (3, .int a3), (4, .int a4)] [] h (f_X11_commonDivisor_L7 n a2 a3 a4 h) := by
  intro n
  induction n with
  | zero =>
    intro a2 a3 a4 h
    exact Sim.none
  | succ n ih =>
    intro a2 a3 a4 h
    unfold f_X11_commonDivisor_L7
    refine S_iload (pc := 7) 2 rfl dX11_commonDivisor_7 ?_
    refine S_sipush (pc := 9) dX11_commonDivisor_9 si_480 ?_
    refine S_icmp_ge (pc := 12) (tgt := 35) dX11_commonDivisor_12 (by decide) ?_ ?_
    · refine S_sub [0, 1, 2] rfl ?_
      exact Sim.fin ⟨rfl, rfl, rfl, rfl⟩ rfl
    · refine S_iload_n (pc := 15) 1 rfl dX11_commonDivisor_15 rfl ?_
      refine S_if_eq (pc := 16) (tgt := 35) dX11_commonDivisor_16 (by decide) ?_ ?_
      · refine S_sub [0, 1, 2] rfl ?_
        exact Sim.fin ⟨rfl, rfl, rfl, rfl⟩ rfl
      · refine S_iload_n (pc := 19) 0 rfl dX11_commonDivisor_19 rfl ?_
        refine S_iload_n (pc := 20) 1 rfl dX11_commonDivisor_20 rfl ?_
        refine Sim.ite (fun _ => Sim.none) (fun hz1 => ?_)
        refine S_irem (pc := 21) hz1 dX11_commonDivisor_21 ?_
        refine S_istore (pc := 22) dX11_commonDivisor_22 (Nat.le_of_ble_eq_true rfl) rfl ?_
        refine S_iload_n (pc := 24) 2 rfl dX11_commonDivisor_24 rfl ?_
        refine S_istore_n (pc := 25) dX11_commonDivisor_25 rfl (Nat.le_of_ble_eq_true rfl) rfl ?_
        refine S_iload (pc := 26) 1 rfl dX11_commonDivisor_26 ?_
        refine S_istore_n (pc := 28) dX11_commonDivisor_28 rfl (Nat.le_of_ble_eq_true rfl) rfl ?_
        refine S_iinc (pc := 29) (v := a4 + (1 : Int32)) 3 rfl dX11_commonDivisor_29 (x_inc ic_1) (Nat.le_of_ble_eq_true rfl) rfl ?_
        refine S_goto (pc := 32) (tgt := 7) dX11_commonDivisor_32 (by decide) ?_
        refine S_sub [2, 1, 0] rfl ?_
        exact ih a3 (a2 - a2 / a3 * a3) (a4 + (1 : Int32)) h
set_option maxRecDepth 20000 in
set_option maxHeartbeats 4000000 in
theorem W_X11_commonDivisor (K : xK) (L : xL) (a0 : Int32) (a1 : Int32) (h : xH) : Sim K L cX11_commonDivisor RX11 "commonDivisor" 6 1 (fun q : Int32 × xH => q.2) (xRi cX11_commonDivisor) 0 [(0, .int a0), (1, .int a1)] [] h (f_X11_commonDivisor a0 a1 h) := by
  unfold f_X11_commonDivisor
  refine S_iload_n (pc := 0) 0 rfl dX11_commonDivisor_0 rfl ?_
  refine S_istore_n (pc := 1) dX11_commonDivisor_1 rfl (Nat.le_of_ble_eq_true rfl) rfl ?_
  refine S_iload_n (pc := 2) 2 rfl dX11_commonDivisor_2 rfl ?_
  refine S_istore_n (pc := 3) dX11_commonDivisor_3 rfl (Nat.le_of_ble_eq_true rfl) rfl ?_
  refine S_iconst (pc := 4) dX11_commonDivisor_4 ic_0 ?_
  refine S_istore (pc := 5) dX11_commonDivisor_5 (Nat.le_of_ble_eq_true rfl) rfl ?_
  refine S_sub [2, 1, 0] rfl ?_
  refine Sim.bind (hs := fun q2 : Int32 × Int32 × Int32 × xH => q2.2.2.2) (px := 35) (lsx := fun q2 => [(2, .int q2.1), (3, .int q2.2.1), (4, .int q2.2.2.1)]) (L_X11_commonDivisor_7 K L xN a0 a1 (0 : Int32) h) (fun q2 => ?_)
  refine S_iconst (pc := 35) dX11_commonDivisor_35 ic_1 ?_
  refine S_iload_n (pc := 36) 0 rfl dX11_commonDivisor_36 rfl ?_
  refine S_mmax (pc := 37) (Nat.le_of_ble_eq_true rfl) wd_475 wd_476 wd_59 wdm_max (Nat.le_of_ble_eq_true rfl) dX11_commonDivisor_37 ?_
  exact Sim.fin ⟨dX11_commonDivisor_40, rfl, rfl⟩ rfl
theorem M_X11_commonDivisor (l : Launch) (a0 : Int32) (a1 : Int32) (h : xH) {q : Int32 × xH} (hq : f_X11_commonDivisor a0 a1 h = some q) : xM l yX11_commonDivisor cX11_commonDivisor 6 (some .int) 1 [.int a0, .int a1] h (some (.int q.1)) q.2 := xM_i (by decide +kernel) (Nat.le_of_ble_eq_true rfl) (fun K L => W_X11_commonDivisor K L a0 a1 h) hq
theorem dX1_joinedMask_0 : decode cX1_joinedMask 0 = .ok (.iload_n 0, 1) := by decide +kernel
theorem dX1_joinedMask_1 : decode cX1_joinedMask 1 = .ok (.tableswitch 39 0 2 #[27, 31, 35], 27) := by decide +kernel
theorem dX1_joinedMask_28 : decode cX1_joinedMask 28 = .ok (.iload_n 1, 1) := by decide +kernel
theorem dX1_joinedMask_29 : decode cX1_joinedMask 29 = .ok (.iload_n 2, 1) := by decide +kernel
theorem dX1_joinedMask_30 : decode cX1_joinedMask 30 = .ok (.iand, 1) := by decide +kernel
theorem dX1_joinedMask_31 : decode cX1_joinedMask 31 = .ok (.ireturn, 1) := by decide +kernel
theorem dX1_joinedMask_32 : decode cX1_joinedMask 32 = .ok (.iload_n 1, 1) := by decide +kernel
theorem dX1_joinedMask_33 : decode cX1_joinedMask 33 = .ok (.iload_n 2, 1) := by decide +kernel
theorem dX1_joinedMask_34 : decode cX1_joinedMask 34 = .ok (.ior, 1) := by decide +kernel
theorem dX1_joinedMask_35 : decode cX1_joinedMask 35 = .ok (.ireturn, 1) := by decide +kernel
theorem dX1_joinedMask_36 : decode cX1_joinedMask 36 = .ok (.iload_n 1, 1) := by decide +kernel
theorem dX1_joinedMask_37 : decode cX1_joinedMask 37 = .ok (.iload_n 2, 1) := by decide +kernel
theorem dX1_joinedMask_38 : decode cX1_joinedMask 38 = .ok (.ixor, 1) := by decide +kernel
theorem dX1_joinedMask_39 : decode cX1_joinedMask 39 = .ok (.ireturn, 1) := by decide +kernel
theorem dX1_joinedMask_40 : decode cX1_joinedMask 40 = .ok (.iload_n 1, 1) := by decide +kernel
theorem dX1_joinedMask_41 : decode cX1_joinedMask 41 = .ok (.iload_n 2, 1) := by decide +kernel
theorem dX1_joinedMask_42 : decode cX1_joinedMask 42 = .ok (.iconst (-1), 1) := by decide +kernel
theorem dX1_joinedMask_43 : decode cX1_joinedMask 43 = .ok (.ixor, 1) := by decide +kernel
theorem dX1_joinedMask_44 : decode cX1_joinedMask 44 = .ok (.iand, 1) := by decide +kernel
theorem dX1_joinedMask_45 : decode cX1_joinedMask 45 = .ok (.ireturn, 1) := by decide +kernel
set_option maxRecDepth 20000 in
set_option maxHeartbeats 4000000 in
theorem W_X1_joinedMask (K : xK) (L : xL) (a0 : Int32) (a1 : Int32) (a2 : Int32) (h : xH) : Sim K L cX1_joinedMask RX1 "joinedMask" 3 0 (fun q : Int32 × xH => q.2) (xRi cX1_joinedMask) 0 [(0, .int a0), (1, .int a1), (2, .int a2)] [] h (f_X1_joinedMask a0 a1 a2 h) := by
  unfold f_X1_joinedMask
  refine S_iload_n (pc := 0) 0 rfl dX1_joinedMask_0 rfl ?_
  refine S_tabIn (pc := 1) (v := 0) (tgt := 28) dX1_joinedMask_1 (by decide) (by decide) rfl (by decide) ?_ (fun hs1 => ?_)
  · refine S_iload_n (pc := 28) 1 rfl dX1_joinedMask_28 rfl ?_
    refine S_iload_n (pc := 29) 2 rfl dX1_joinedMask_29 rfl ?_
    refine S_iand (pc := 30) dX1_joinedMask_30 ?_
    exact Sim.fin ⟨dX1_joinedMask_31, rfl, rfl⟩ rfl
  refine S_tabIn (pc := 1) (v := 1) (tgt := 32) dX1_joinedMask_1 (by decide) (by decide) rfl (by decide) ?_ (fun hs2 => ?_)
  · refine S_iload_n (pc := 32) 1 rfl dX1_joinedMask_32 rfl ?_
    refine S_iload_n (pc := 33) 2 rfl dX1_joinedMask_33 rfl ?_
    refine S_ior (pc := 34) dX1_joinedMask_34 ?_
    exact Sim.fin ⟨dX1_joinedMask_35, rfl, rfl⟩ rfl
  refine S_tabIn (pc := 1) (v := 2) (tgt := 36) dX1_joinedMask_1 (by decide) (by decide) rfl (by decide) ?_ (fun hs3 => ?_)
  · refine S_iload_n (pc := 36) 1 rfl dX1_joinedMask_36 rfl ?_
    refine S_iload_n (pc := 37) 2 rfl dX1_joinedMask_37 rfl ?_
    refine S_ixor (pc := 38) dX1_joinedMask_38 ?_
    exact Sim.fin ⟨dX1_joinedMask_39, rfl, rfl⟩ rfl
  refine S_tabOut (pc := 1) (tgt := 40) dX1_joinedMask_1 (by have := lv_neT hs1 (show (0 : Int32).toInt = 0 from by decide); have := lv_neT hs2 (show (1 : Int32).toInt = 1 from by decide); have := lv_neT hs3 (show (2 : Int32).toInt = 2 from by decide); omega) (by decide) ?_
  refine S_iload_n (pc := 40) 1 rfl dX1_joinedMask_40 rfl ?_
  refine S_iload_n (pc := 41) 2 rfl dX1_joinedMask_41 rfl ?_
  refine S_iconst (pc := 42) dX1_joinedMask_42 ic_m1 ?_
  refine S_ixor (pc := 43) dX1_joinedMask_43 ?_
  refine S_iand (pc := 44) dX1_joinedMask_44 ?_
  exact Sim.fin ⟨dX1_joinedMask_45, rfl, rfl⟩ rfl
theorem M_X1_joinedMask (l : Launch) (a0 : Int32) (a1 : Int32) (a2 : Int32) (h : xH) {q : Int32 × xH} (hq : f_X1_joinedMask a0 a1 a2 h = some q) : xM l yX1_joinedMask cX1_joinedMask 3 (some .int) 0 [.int a0, .int a1, .int a2] h (some (.int q.1)) q.2 := xM_i (by decide +kernel) (Nat.le_of_ble_eq_true rfl) (fun K L => W_X1_joinedMask K L a0 a1 a2 h) hq
theorem dX1_becomeJoined_0 : decode cX1_becomeJoined 0 = .ok (.aload_n 0, 1) := by decide +kernel
theorem dX1_becomeJoined_1 : decode cX1_becomeJoined 1 = .ok (.aload_n 2, 1) := by decide +kernel
theorem dX1_becomeJoined_2 : decode cX1_becomeJoined 2 = .ok (.getfield 15, 3) := by decide +kernel
theorem dX1_becomeJoined_5 : decode cX1_becomeJoined 5 = .ok (.aload_n 3, 1) := by decide +kernel
theorem dX1_becomeJoined_6 : decode cX1_becomeJoined 6 = .ok (.getfield 15, 3) := by decide +kernel
theorem dX1_becomeJoined_9 : decode cX1_becomeJoined 9 = .ok (.invokestatic 49, 3) := by decide +kernel
theorem dX1_becomeJoined_12 : decode cX1_becomeJoined 12 = .ok (.putfield 15, 3) := by decide +kernel
theorem dX1_becomeJoined_15 : decode cX1_becomeJoined 15 = .ok (.iconst 0, 1) := by decide +kernel
theorem dX1_becomeJoined_16 : decode cX1_becomeJoined 16 = .ok (.istore 4, 2) := by decide +kernel
theorem dX1_becomeJoined_18 : decode cX1_becomeJoined 18 = .ok (.iload 4, 2) := by decide +kernel
theorem dX1_becomeJoined_20 : decode cX1_becomeJoined 20 = .ok (.bipush 32, 2) := by decide +kernel
theorem dX1_becomeJoined_22 : decode cX1_becomeJoined 22 = .ok (.if_icmp .ge 34, 3) := by decide +kernel
theorem dX1_becomeJoined_25 : decode cX1_becomeJoined 25 = .ok (.aload_n 0, 1) := by decide +kernel
theorem dX1_becomeJoined_26 : decode cX1_becomeJoined 26 = .ok (.getfield 9, 3) := by decide +kernel
theorem dX1_becomeJoined_29 : decode cX1_becomeJoined 29 = .ok (.iload 4, 2) := by decide +kernel
theorem dX1_becomeJoined_31 : decode cX1_becomeJoined 31 = .ok (.iload_n 1, 1) := by decide +kernel
theorem dX1_becomeJoined_32 : decode cX1_becomeJoined 32 = .ok (.aload_n 2, 1) := by decide +kernel
theorem dX1_becomeJoined_33 : decode cX1_becomeJoined 33 = .ok (.getfield 9, 3) := by decide +kernel
theorem dX1_becomeJoined_36 : decode cX1_becomeJoined 36 = .ok (.iload 4, 2) := by decide +kernel
theorem dX1_becomeJoined_38 : decode cX1_becomeJoined 38 = .ok (.iaload, 1) := by decide +kernel
theorem dX1_becomeJoined_39 : decode cX1_becomeJoined 39 = .ok (.aload_n 3, 1) := by decide +kernel
theorem dX1_becomeJoined_40 : decode cX1_becomeJoined 40 = .ok (.getfield 9, 3) := by decide +kernel
theorem dX1_becomeJoined_43 : decode cX1_becomeJoined 43 = .ok (.iload 4, 2) := by decide +kernel
theorem dX1_becomeJoined_45 : decode cX1_becomeJoined 45 = .ok (.iaload, 1) := by decide +kernel
theorem dX1_becomeJoined_46 : decode cX1_becomeJoined 46 = .ok (.invokestatic 55, 3) := by decide +kernel
theorem dX1_becomeJoined_49 : decode cX1_becomeJoined 49 = .ok (.iastore, 1) := by decide +kernel
theorem dX1_becomeJoined_50 : decode cX1_becomeJoined 50 = .ok (.iinc 4 1, 3) := by decide +kernel
theorem dX1_becomeJoined_53 : decode cX1_becomeJoined 53 = .ok (.goto (-35), 3) := by decide +kernel
theorem dX1_becomeJoined_56 : decode cX1_becomeJoined 56 = .ok (.return_, 1) := by decide +kernel
set_option maxRecDepth 20000 in
set_option maxHeartbeats 4000000 in
theorem L_X1_becomeJoined_18 (K : xK) (L : xL) : ∀ (n : Nat) (a0 : Nat) (a1 : Int32) (a2 : Nat) (a3 : Nat) (a4 : Int32) (h : xH), Sim K L cX1_becomeJoined RX1 "becomeJoined" 5 1 (fun q : Int32 × xH => q.2) (fun q pc' ls' st' h' => pc' = 56 ∧ ls' = [(0, .ref a0), (1, .int a1), (2, .ref a2), (3, .ref a3), (4, .int q.1)] ∧ st' = [] ∧ h' = q.2) 18 [(0, .ref a0), (1, .int a1), (2, .ref a2), (3, .ref a3), (4, .int a4)] [] h (f_X1_becomeJoined_L18 n a0 a1 a2 a3 a4 h) := by
  intro n
  induction n with
  | zero =>
    intro a0 a1 a2 a3 a4 h
    exact Sim.none
  | succ n ih =>
    intro a0 a1 a2 a3 a4 h
    unfold f_X1_becomeJoined_L18
    refine S_iload (pc := 18) 4 rfl dX1_becomeJoined_18 ?_
    refine S_bipush (pc := 20) dX1_becomeJoined_20 bi_32 ?_
    refine S_icmp_ge (pc := 22) (tgt := 56) dX1_becomeJoined_22 (by decide) ?_ ?_
    · refine S_sub [0, 1, 2, 3, 4] rfl ?_
      exact Sim.fin ⟨rfl, rfl, rfl, rfl⟩ rfl
    · refine S_aload_n (pc := 25) 0 rfl dX1_becomeJoined_25 rfl ?_
      refine S_getR (pc := 26) fd_X1_masks wd_78 dX1_becomeJoined_26 (fun v4 => ?_)
      refine S_iload (pc := 29) 4 rfl dX1_becomeJoined_29 ?_
      refine S_iload_n (pc := 31) 1 rfl dX1_becomeJoined_31 rfl ?_
      refine S_aload_n (pc := 32) 2 rfl dX1_becomeJoined_32 rfl ?_
      refine S_getR (pc := 33) fd_X1_masks wd_78 dX1_becomeJoined_33 (fun v5 => ?_)
      refine S_iload (pc := 36) 4 rfl dX1_becomeJoined_36 ?_
      refine S_aI (pc := 38) dX1_becomeJoined_38 (fun v6 => ?_)
      refine S_aload_n (pc := 39) 3 rfl dX1_becomeJoined_39 rfl ?_
      refine S_getR (pc := 40) fd_X1_masks wd_78 dX1_becomeJoined_40 (fun v7 => ?_)
      refine S_iload (pc := 43) 4 rfl dX1_becomeJoined_43 ?_
      refine S_aI (pc := 45) dX1_becomeJoined_45 (fun v8 => ?_)
      refine S_call_i (pc := 46) (rest := [.int a4, .ref v4]) (fun q hq => R_S (av := [.int a1, .int v6, .int v8]) (M_X1_joinedMask _ a1 v6 v8 h hq) wd_489 wd_487 wd_488 wd_45 hd_X1_joinedMask ⟨Nat.le_of_ble_eq_true rfl, Nat.le_of_ble_eq_true rfl⟩ rfl (Nat.le_of_ble_eq_true rfl) dX1_becomeJoined_46) (fun _ h => List.mem_cons_of_mem _ (List.mem_cons_of_mem _ (List.mem_cons_of_mem _ (h)))) (fun q9 => ?_)
      refine S_uI (pc := 49) dX1_becomeJoined_49 (fun h10 => ?_)
      refine S_iinc (pc := 50) (v := a4 + (1 : Int32)) 4 rfl dX1_becomeJoined_50 (x_inc ic_1) (Nat.le_of_ble_eq_true rfl) rfl ?_
      refine S_goto (pc := 53) (tgt := 18) dX1_becomeJoined_53 (by decide) ?_
      refine S_sub [1, 2, 3, 4, 0] rfl ?_
      exact ih a0 a1 a2 a3 (a4 + (1 : Int32)) h10
set_option maxRecDepth 20000 in
set_option maxHeartbeats 4000000 in
theorem W_X1_becomeJoined (K : xK) (L : xL) (a0 : Nat) (a1 : Int32) (a2 : Nat) (a3 : Nat) (h : xH) : Sim K L cX1_becomeJoined RX1 "becomeJoined" 5 1 (fun q : xH => q) (xRv cX1_becomeJoined) 0 [(0, .ref a0), (1, .int a1), (2, .ref a2), (3, .ref a3)] [] h (f_X1_becomeJoined a0 a1 a2 a3 h) := by
  unfold f_X1_becomeJoined
  refine S_aload_n (pc := 0) 0 rfl dX1_becomeJoined_0 rfl ?_
  refine S_aload_n (pc := 1) 2 rfl dX1_becomeJoined_1 rfl ?_
  refine S_getI (pc := 2) fd_X1_length wd_80 dX1_becomeJoined_2 (fun v1 => ?_)
  refine S_aload_n (pc := 5) 3 rfl dX1_becomeJoined_5 rfl ?_
  refine S_getI (pc := 6) fd_X1_length wd_80 dX1_becomeJoined_6 (fun v2 => ?_)
  refine S_mmax (pc := 9) (Nat.le_of_ble_eq_true rfl) wd_486 wd_476 wd_59 wdm_max (Nat.le_of_ble_eq_true rfl) dX1_becomeJoined_9 ?_
  refine S_putI (pc := 12) fd_X1_length wd_80 rfl rfl dX1_becomeJoined_12 (fun h3 => ?_)
  refine S_iconst (pc := 15) dX1_becomeJoined_15 ic_0 ?_
  refine S_istore (pc := 16) dX1_becomeJoined_16 (Nat.le_of_ble_eq_true rfl) rfl ?_
  refine S_sub [1, 2, 3, 4, 0] rfl ?_
  refine Sim.bind (hs := fun q11 : Int32 × xH => q11.2) (px := 56) (lsx := fun q11 => [(0, .ref a0), (1, .int a1), (2, .ref a2), (3, .ref a3), (4, .int q11.1)]) (L_X1_becomeJoined_18 K L xN a0 a1 a2 a3 (0 : Int32) h3) (fun q11 => ?_)
  exact Sim.fin ⟨dX1_becomeJoined_56, rfl, rfl⟩ rfl
theorem M_X1_becomeJoined (l : Launch) (a0 : Nat) (a1 : Int32) (a2 : Nat) (a3 : Nat) (h : xH) {q : xH} (hq : f_X1_becomeJoined a0 a1 a2 a3 h = some q) : xM l yX1_becomeJoined cX1_becomeJoined 5 none 1 [.ref a0, .int a1, .ref a2, .ref a3] h none q := xM_v (by decide +kernel) (Nat.le_of_ble_eq_true rfl) (fun K L => W_X1_becomeJoined K L a0 a1 a2 a3 h) hq
theorem dX11_firstPlaces_0 : decode cX11_firstPlaces 0 = .ok (.iconst 1, 1) := by decide +kernel
theorem dX11_firstPlaces_1 : decode cX11_firstPlaces 1 = .ok (.iconst 0, 1) := by decide +kernel
theorem dX11_firstPlaces_2 : decode cX11_firstPlaces 2 = .ok (.iload_n 0, 1) := by decide +kernel
theorem dX11_firstPlaces_3 : decode cX11_firstPlaces 3 = .ok (.bipush 15, 2) := by decide +kernel
theorem dX11_firstPlaces_5 : decode cX11_firstPlaces 5 = .ok (.invokestatic 305, 3) := by decide +kernel
theorem dX11_firstPlaces_8 : decode cX11_firstPlaces 8 = .ok (.invokestatic 310, 3) := by decide +kernel
theorem dX11_firstPlaces_11 : decode cX11_firstPlaces 11 = .ok (.ishl, 1) := by decide +kernel
theorem dX11_firstPlaces_12 : decode cX11_firstPlaces 12 = .ok (.iconst 1, 1) := by decide +kernel
theorem dX11_firstPlaces_13 : decode cX11_firstPlaces 13 = .ok (.isub, 1) := by decide +kernel
theorem dX11_firstPlaces_14 : decode cX11_firstPlaces 14 = .ok (.ireturn, 1) := by decide +kernel
set_option maxRecDepth 20000 in
set_option maxHeartbeats 4000000 in
theorem W_X11_firstPlaces (K : xK) (L : xL) (a0 : Int32) (h : xH) : Sim K L cX11_firstPlaces RX11 "firstPlaces" 1 1 (fun q : Int32 × xH => q.2) (xRi cX11_firstPlaces) 0 [(0, .int a0)] [] h (f_X11_firstPlaces a0 h) := by
  unfold f_X11_firstPlaces
  refine S_iconst (pc := 0) dX11_firstPlaces_0 ic_1 ?_
  refine S_iconst (pc := 1) dX11_firstPlaces_1 ic_0 ?_
  refine S_iload_n (pc := 2) 0 rfl dX11_firstPlaces_2 rfl ?_
  refine S_bipush (pc := 3) dX11_firstPlaces_3 bi_15 ?_
  refine S_mmin (pc := 5) (Nat.le_of_ble_eq_true rfl) wd_472 wd_473 wd_59 wdm_min (Nat.le_of_ble_eq_true rfl) dX11_firstPlaces_5 ?_
  refine S_mmax (pc := 8) (Nat.le_of_ble_eq_true rfl) wd_475 wd_476 wd_59 wdm_max (Nat.le_of_ble_eq_true rfl) dX11_firstPlaces_8 ?_
  refine S_ishl (pc := 11) dX11_firstPlaces_11 ?_
  refine S_iconst (pc := 12) dX11_firstPlaces_12 ic_1 ?_
  refine S_isub (pc := 13) dX11_firstPlaces_13 ?_
  exact Sim.fin ⟨dX11_firstPlaces_14, rfl, rfl⟩ rfl
theorem M_X11_firstPlaces (l : Launch) (a0 : Int32) (h : xH) {q : Int32 × xH} (hq : f_X11_firstPlaces a0 h = some q) : xM l yX11_firstPlaces cX11_firstPlaces 1 (some .int) 1 [.int a0] h (some (.int q.1)) q.2 := xM_i (by decide +kernel) (Nat.le_of_ble_eq_true rfl) (fun K L => W_X11_firstPlaces K L a0 h) hq
theorem dJ6_bitCount_0f7a4_0 : decode cJ6_bitCount_0f7a4 0 = .ok (.iload_n 0, 1) := by decide +kernel
theorem dJ6_bitCount_0f7a4_1 : decode cJ6_bitCount_0f7a4 1 = .ok (.iload_n 0, 1) := by decide +kernel
theorem dJ6_bitCount_0f7a4_2 : decode cJ6_bitCount_0f7a4 2 = .ok (.iconst 1, 1) := by decide +kernel
theorem dJ6_bitCount_0f7a4_3 : decode cJ6_bitCount_0f7a4 3 = .ok (.iushr, 1) := by decide +kernel
theorem dJ6_bitCount_0f7a4_4 : decode cJ6_bitCount_0f7a4 4 = .ok (.ldc_w 265, 3) := by decide +kernel
theorem dJ6_bitCount_0f7a4_7 : decode cJ6_bitCount_0f7a4 7 = .ok (.iand, 1) := by decide +kernel
theorem dJ6_bitCount_0f7a4_8 : decode cJ6_bitCount_0f7a4 8 = .ok (.isub, 1) := by decide +kernel
theorem dJ6_bitCount_0f7a4_9 : decode cJ6_bitCount_0f7a4 9 = .ok (.istore_n 0, 1) := by decide +kernel
theorem dJ6_bitCount_0f7a4_10 : decode cJ6_bitCount_0f7a4 10 = .ok (.iload_n 0, 1) := by decide +kernel
theorem dJ6_bitCount_0f7a4_11 : decode cJ6_bitCount_0f7a4 11 = .ok (.ldc_w 266, 3) := by decide +kernel
theorem dJ6_bitCount_0f7a4_14 : decode cJ6_bitCount_0f7a4 14 = .ok (.iand, 1) := by decide +kernel
theorem dJ6_bitCount_0f7a4_15 : decode cJ6_bitCount_0f7a4 15 = .ok (.iload_n 0, 1) := by decide +kernel
theorem dJ6_bitCount_0f7a4_16 : decode cJ6_bitCount_0f7a4 16 = .ok (.iconst 2, 1) := by decide +kernel
theorem dJ6_bitCount_0f7a4_17 : decode cJ6_bitCount_0f7a4 17 = .ok (.iushr, 1) := by decide +kernel
theorem dJ6_bitCount_0f7a4_18 : decode cJ6_bitCount_0f7a4 18 = .ok (.ldc_w 266, 3) := by decide +kernel
theorem dJ6_bitCount_0f7a4_21 : decode cJ6_bitCount_0f7a4 21 = .ok (.iand, 1) := by decide +kernel
theorem dJ6_bitCount_0f7a4_22 : decode cJ6_bitCount_0f7a4 22 = .ok (.iadd, 1) := by decide +kernel
theorem dJ6_bitCount_0f7a4_23 : decode cJ6_bitCount_0f7a4 23 = .ok (.istore_n 0, 1) := by decide +kernel
theorem dJ6_bitCount_0f7a4_24 : decode cJ6_bitCount_0f7a4 24 = .ok (.iload_n 0, 1) := by decide +kernel
theorem dJ6_bitCount_0f7a4_25 : decode cJ6_bitCount_0f7a4 25 = .ok (.iload_n 0, 1) := by decide +kernel
theorem dJ6_bitCount_0f7a4_26 : decode cJ6_bitCount_0f7a4 26 = .ok (.iconst 4, 1) := by decide +kernel
theorem dJ6_bitCount_0f7a4_27 : decode cJ6_bitCount_0f7a4 27 = .ok (.iushr, 1) := by decide +kernel
theorem dJ6_bitCount_0f7a4_28 : decode cJ6_bitCount_0f7a4 28 = .ok (.iadd, 1) := by decide +kernel
theorem dJ6_bitCount_0f7a4_29 : decode cJ6_bitCount_0f7a4 29 = .ok (.ldc_w 267, 3) := by decide +kernel
theorem dJ6_bitCount_0f7a4_32 : decode cJ6_bitCount_0f7a4 32 = .ok (.iand, 1) := by decide +kernel
theorem dJ6_bitCount_0f7a4_33 : decode cJ6_bitCount_0f7a4 33 = .ok (.istore_n 0, 1) := by decide +kernel
theorem dJ6_bitCount_0f7a4_34 : decode cJ6_bitCount_0f7a4 34 = .ok (.iload_n 0, 1) := by decide +kernel
theorem dJ6_bitCount_0f7a4_35 : decode cJ6_bitCount_0f7a4 35 = .ok (.iload_n 0, 1) := by decide +kernel
theorem dJ6_bitCount_0f7a4_36 : decode cJ6_bitCount_0f7a4 36 = .ok (.bipush 8, 2) := by decide +kernel
theorem dJ6_bitCount_0f7a4_38 : decode cJ6_bitCount_0f7a4 38 = .ok (.iushr, 1) := by decide +kernel
theorem dJ6_bitCount_0f7a4_39 : decode cJ6_bitCount_0f7a4 39 = .ok (.iadd, 1) := by decide +kernel
theorem dJ6_bitCount_0f7a4_40 : decode cJ6_bitCount_0f7a4 40 = .ok (.istore_n 0, 1) := by decide +kernel
theorem dJ6_bitCount_0f7a4_41 : decode cJ6_bitCount_0f7a4 41 = .ok (.iload_n 0, 1) := by decide +kernel
theorem dJ6_bitCount_0f7a4_42 : decode cJ6_bitCount_0f7a4 42 = .ok (.iload_n 0, 1) := by decide +kernel
theorem dJ6_bitCount_0f7a4_43 : decode cJ6_bitCount_0f7a4 43 = .ok (.bipush 16, 2) := by decide +kernel
theorem dJ6_bitCount_0f7a4_45 : decode cJ6_bitCount_0f7a4 45 = .ok (.iushr, 1) := by decide +kernel
theorem dJ6_bitCount_0f7a4_46 : decode cJ6_bitCount_0f7a4 46 = .ok (.iadd, 1) := by decide +kernel
theorem dJ6_bitCount_0f7a4_47 : decode cJ6_bitCount_0f7a4 47 = .ok (.istore_n 0, 1) := by decide +kernel
theorem dJ6_bitCount_0f7a4_48 : decode cJ6_bitCount_0f7a4 48 = .ok (.iload_n 0, 1) := by decide +kernel
theorem dJ6_bitCount_0f7a4_49 : decode cJ6_bitCount_0f7a4 49 = .ok (.bipush 63, 2) := by decide +kernel
theorem dJ6_bitCount_0f7a4_51 : decode cJ6_bitCount_0f7a4 51 = .ok (.iand, 1) := by decide +kernel
theorem dJ6_bitCount_0f7a4_52 : decode cJ6_bitCount_0f7a4 52 = .ok (.ireturn, 1) := by decide +kernel
set_option maxRecDepth 20000 in
set_option maxHeartbeats 4000000 in
theorem W_J6_bitCount_0f7a4 (K : xK) (L : xL) (a0 : Int32) (h : xH) : Sim K L cJ6_bitCount_0f7a4 RJ6 "bitCount" 1 0 (fun q : Int32 × xH => q.2) (xRi cJ6_bitCount_0f7a4) 0 [(0, .int a0)] [] h (f_J6_bitCount_0f7a4 a0 h) := by
  unfold f_J6_bitCount_0f7a4
  refine S_iload_n (pc := 0) 0 rfl dJ6_bitCount_0f7a4_0 rfl ?_
  refine S_iload_n (pc := 1) 0 rfl dJ6_bitCount_0f7a4_1 rfl ?_
  refine S_iconst (pc := 2) dJ6_bitCount_0f7a4_2 ic_1 ?_
  refine S_iushr (pc := 3) dJ6_bitCount_0f7a4_3 ?_
  refine S_ldcw (pc := 4) wd_501 dJ6_bitCount_0f7a4_4 ?_
  refine S_iand (pc := 7) dJ6_bitCount_0f7a4_7 ?_
  refine S_isub (pc := 8) dJ6_bitCount_0f7a4_8 ?_
  refine S_istore_n (pc := 9) dJ6_bitCount_0f7a4_9 rfl (Nat.le_of_ble_eq_true rfl) rfl ?_
  refine S_iload_n (pc := 10) 0 rfl dJ6_bitCount_0f7a4_10 rfl ?_
  refine S_ldcw (pc := 11) wd_502 dJ6_bitCount_0f7a4_11 ?_
  refine S_iand (pc := 14) dJ6_bitCount_0f7a4_14 ?_
  refine S_iload_n (pc := 15) 0 rfl dJ6_bitCount_0f7a4_15 rfl ?_
  refine S_iconst (pc := 16) dJ6_bitCount_0f7a4_16 ic_2 ?_
  refine S_iushr (pc := 17) dJ6_bitCount_0f7a4_17 ?_
  refine S_ldcw (pc := 18) wd_502 dJ6_bitCount_0f7a4_18 ?_
  refine S_iand (pc := 21) dJ6_bitCount_0f7a4_21 ?_
  refine S_iadd (pc := 22) dJ6_bitCount_0f7a4_22 ?_
  refine S_istore_n (pc := 23) dJ6_bitCount_0f7a4_23 rfl (Nat.le_of_ble_eq_true rfl) rfl ?_
  refine S_iload_n (pc := 24) 0 rfl dJ6_bitCount_0f7a4_24 rfl ?_
  refine S_iload_n (pc := 25) 0 rfl dJ6_bitCount_0f7a4_25 rfl ?_
  refine S_iconst (pc := 26) dJ6_bitCount_0f7a4_26 ic_4 ?_
  refine S_iushr (pc := 27) dJ6_bitCount_0f7a4_27 ?_
  refine S_iadd (pc := 28) dJ6_bitCount_0f7a4_28 ?_
  refine S_ldcw (pc := 29) wd_503 dJ6_bitCount_0f7a4_29 ?_
  refine S_iand (pc := 32) dJ6_bitCount_0f7a4_32 ?_
  refine S_istore_n (pc := 33) dJ6_bitCount_0f7a4_33 rfl (Nat.le_of_ble_eq_true rfl) rfl ?_
  refine S_iload_n (pc := 34) 0 rfl dJ6_bitCount_0f7a4_34 rfl ?_
  refine S_iload_n (pc := 35) 0 rfl dJ6_bitCount_0f7a4_35 rfl ?_
  refine S_bipush (pc := 36) dJ6_bitCount_0f7a4_36 bi_8 ?_
  refine S_iushr (pc := 38) dJ6_bitCount_0f7a4_38 ?_
  refine S_iadd (pc := 39) dJ6_bitCount_0f7a4_39 ?_
  refine S_istore_n (pc := 40) dJ6_bitCount_0f7a4_40 rfl (Nat.le_of_ble_eq_true rfl) rfl ?_
  refine S_iload_n (pc := 41) 0 rfl dJ6_bitCount_0f7a4_41 rfl ?_
  refine S_iload_n (pc := 42) 0 rfl dJ6_bitCount_0f7a4_42 rfl ?_
  refine S_bipush (pc := 43) dJ6_bitCount_0f7a4_43 bi_16 ?_
  refine S_iushr (pc := 45) dJ6_bitCount_0f7a4_45 ?_
  refine S_iadd (pc := 46) dJ6_bitCount_0f7a4_46 ?_
  refine S_istore_n (pc := 47) dJ6_bitCount_0f7a4_47 rfl (Nat.le_of_ble_eq_true rfl) rfl ?_
  refine S_iload_n (pc := 48) 0 rfl dJ6_bitCount_0f7a4_48 rfl ?_
  refine S_bipush (pc := 49) dJ6_bitCount_0f7a4_49 bi_63 ?_
  refine S_iand (pc := 51) dJ6_bitCount_0f7a4_51 ?_
  exact Sim.fin ⟨dJ6_bitCount_0f7a4_52, rfl, rfl⟩ rfl
theorem M_J6_bitCount_0f7a4 (l : Launch) (a0 : Int32) (h : xH) {q : Int32 × xH} (hq : f_J6_bitCount_0f7a4 a0 h = some q) : xM l yJ6_bitCount_0f7a4 cJ6_bitCount_0f7a4 1 (some .int) 0 [.int a0] h (some (.int q.1)) q.2 := xM_i (by decide +kernel) (Nat.le_of_ble_eq_true rfl) (fun K L => W_J6_bitCount_0f7a4 K L a0 h) hq
theorem dX1_onesAhead_0 : decode cX1_onesAhead 0 = .ok (.iconst 0, 1) := by decide +kernel
theorem dX1_onesAhead_1 : decode cX1_onesAhead 1 = .ok (.istore_n 2, 1) := by decide +kernel
theorem dX1_onesAhead_2 : decode cX1_onesAhead 2 = .ok (.iconst 0, 1) := by decide +kernel
theorem dX1_onesAhead_3 : decode cX1_onesAhead 3 = .ok (.istore_n 3, 1) := by decide +kernel
theorem dX1_onesAhead_4 : decode cX1_onesAhead 4 = .ok (.iload_n 3, 1) := by decide +kernel
theorem dX1_onesAhead_5 : decode cX1_onesAhead 5 = .ok (.bipush 32, 2) := by decide +kernel
theorem dX1_onesAhead_7 : decode cX1_onesAhead 7 = .ok (.if_icmp .ge 31, 3) := by decide +kernel
theorem dX1_onesAhead_10 : decode cX1_onesAhead 10 = .ok (.iload_n 2, 1) := by decide +kernel
theorem dX1_onesAhead_11 : decode cX1_onesAhead 11 = .ok (.aload_n 0, 1) := by decide +kernel
theorem dX1_onesAhead_12 : decode cX1_onesAhead 12 = .ok (.getfield 9, 3) := by decide +kernel
theorem dX1_onesAhead_15 : decode cX1_onesAhead 15 = .ok (.iload_n 3, 1) := by decide +kernel
theorem dX1_onesAhead_16 : decode cX1_onesAhead 16 = .ok (.iaload, 1) := by decide +kernel
theorem dX1_onesAhead_17 : decode cX1_onesAhead 17 = .ok (.iload_n 1, 1) := by decide +kernel
theorem dX1_onesAhead_18 : decode cX1_onesAhead 18 = .ok (.bipush 15, 2) := by decide +kernel
theorem dX1_onesAhead_20 : decode cX1_onesAhead 20 = .ok (.iload_n 3, 1) := by decide +kernel
theorem dX1_onesAhead_21 : decode cX1_onesAhead 21 = .ok (.imul, 1) := by decide +kernel
theorem dX1_onesAhead_22 : decode cX1_onesAhead 22 = .ok (.isub, 1) := by decide +kernel
theorem dX1_onesAhead_23 : decode cX1_onesAhead 23 = .ok (.invokestatic 40, 3) := by decide +kernel
theorem dX1_onesAhead_26 : decode cX1_onesAhead 26 = .ok (.iand, 1) := by decide +kernel
theorem dX1_onesAhead_27 : decode cX1_onesAhead 27 = .ok (.invokestatic 59, 3) := by decide +kernel
theorem dX1_onesAhead_30 : decode cX1_onesAhead 30 = .ok (.iadd, 1) := by decide +kernel
theorem dX1_onesAhead_31 : decode cX1_onesAhead 31 = .ok (.istore_n 2, 1) := by decide +kernel
theorem dX1_onesAhead_32 : decode cX1_onesAhead 32 = .ok (.iinc 3 1, 3) := by decide +kernel
theorem dX1_onesAhead_35 : decode cX1_onesAhead 35 = .ok (.goto (-31), 3) := by decide +kernel
theorem dX1_onesAhead_38 : decode cX1_onesAhead 38 = .ok (.iload_n 2, 1) := by decide +kernel
theorem dX1_onesAhead_39 : decode cX1_onesAhead 39 = .ok (.ireturn, 1) := by decide +kernel
set_option maxRecDepth 20000 in
set_option maxHeartbeats 4000000 in
theorem L_X1_onesAhead_4 (K : xK) (L : xL) : ∀ (n : Nat) (a0 : Nat) (a1 : Int32) (a2 : Int32) (a3 : Int32) (h : xH), Sim K L cX1_onesAhead RX1 "onesAhead" 4 2 (fun q : Int32 × Int32 × xH => q.2.2) (fun q pc' ls' st' h' => pc' = 38 ∧ ls' = [(0, .ref a0), (1, .int a1), (2, .int q.1), (3, .int q.2.1)] ∧ st' = [] ∧ h' = q.2.2) 4 [(0, .ref a0), (1, .int a1), (2, .int a2), (3, .int a3)] [] h (f_X1_onesAhead_L4 n a0 a1 a2 a3 h) := by
  intro n
  induction n with
  | zero =>
    intro a0 a1 a2 a3 h
    exact Sim.none
  | succ n ih =>
    intro a0 a1 a2 a3 h
    unfold f_X1_onesAhead_L4
    refine S_iload_n (pc := 4) 3 rfl dX1_onesAhead_4 rfl ?_
    refine S_bipush (pc := 5) dX1_onesAhead_5 bi_32 ?_
    refine S_icmp_ge (pc := 7) (tgt := 38) dX1_onesAhead_7 (by decide) ?_ ?_
    · refine S_sub [0, 1, 2, 3] rfl ?_
      exact Sim.fin ⟨rfl, rfl, rfl, rfl⟩ rfl
    · refine S_iload_n (pc := 10) 2 rfl dX1_onesAhead_10 rfl ?_
      refine S_aload_n (pc := 11) 0 rfl dX1_onesAhead_11 rfl ?_
      refine S_getR (pc := 12) fd_X1_masks wd_78 dX1_onesAhead_12 (fun v1 => ?_)
      refine S_iload_n (pc := 15) 3 rfl dX1_onesAhead_15 rfl ?_
      refine S_aI (pc := 16) dX1_onesAhead_16 (fun v2 => ?_)
      refine S_iload_n (pc := 17) 1 rfl dX1_onesAhead_17 rfl ?_
      refine S_bipush (pc := 18) dX1_onesAhead_18 bi_15 ?_
      refine S_iload_n (pc := 20) 3 rfl dX1_onesAhead_20 rfl ?_
      refine S_imul (pc := 21) dX1_onesAhead_21 ?_
      refine S_isub (pc := 22) dX1_onesAhead_22 ?_
      refine S_call_i (pc := 23) (rest := [.int v2, .int a2]) (fun q hq => R_SN (av := [.int (a1 - ((15 : Int32) * a3))]) (host := RX11) (M_X11_firstPlaces _ (a1 - ((15 : Int32) * a3)) h hq) wd_471 (by decide +kernel) wd_470 wd_44 hd_X11_firstPlaces ⟨Nat.le_of_ble_eq_true rfl, Nat.le_of_ble_eq_true rfl⟩ rfl (Nat.le_of_ble_eq_true rfl) dX1_onesAhead_23) (fun _ h => List.mem_cons_of_mem _ (h)) (fun q3 => ?_)
      refine S_iand (pc := 26) dX1_onesAhead_26 ?_
      refine S_call_i (pc := 27) (rest := [.int a2]) (fun q hq => R_S (av := [.int (v2 &&& q3.1)]) (M_J6_bitCount_0f7a4 _ (v2 &&& q3.1) q3.2 hq) wd_500 wd_498 wd_499 wd_60 hd_J6_bitCount_0f7a4 ⟨Nat.le_of_ble_eq_true rfl, Nat.le_of_ble_eq_true rfl⟩ rfl (Nat.le_of_ble_eq_true rfl) dX1_onesAhead_27) (fun _ h => List.mem_cons_of_mem _ (h)) (fun q4 => ?_)
      refine S_iadd (pc := 30) dX1_onesAhead_30 ?_
      refine S_istore_n (pc := 31) dX1_onesAhead_31 rfl (Nat.le_of_ble_eq_true rfl) rfl ?_
      refine S_iinc (pc := 32) (v := a3 + (1 : Int32)) 3 rfl dX1_onesAhead_32 (x_inc ic_1) (Nat.le_of_ble_eq_true rfl) rfl ?_
      refine S_goto (pc := 35) (tgt := 4) dX1_onesAhead_35 (by decide) ?_
      refine S_sub [2, 3, 1, 0] rfl ?_
      exact ih a0 a1 (a2 + q4.1) (a3 + (1 : Int32)) q4.2
set_option maxRecDepth 20000 in
set_option maxHeartbeats 4000000 in
theorem W_X1_onesAhead (K : xK) (L : xL) (a0 : Nat) (a1 : Int32) (h : xH) : Sim K L cX1_onesAhead RX1 "onesAhead" 4 2 (fun q : Int32 × xH => q.2) (xRi cX1_onesAhead) 0 [(0, .ref a0), (1, .int a1)] [] h (f_X1_onesAhead a0 a1 h) := by
  unfold f_X1_onesAhead
  refine S_iconst (pc := 0) dX1_onesAhead_0 ic_0 ?_
  refine S_istore_n (pc := 1) dX1_onesAhead_1 rfl (Nat.le_of_ble_eq_true rfl) rfl ?_
  refine S_iconst (pc := 2) dX1_onesAhead_2 ic_0 ?_
  refine S_istore_n (pc := 3) dX1_onesAhead_3 rfl (Nat.le_of_ble_eq_true rfl) rfl ?_
  refine S_sub [2, 3, 1, 0] rfl ?_
  refine Sim.bind (hs := fun q5 : Int32 × Int32 × xH => q5.2.2) (px := 38) (lsx := fun q5 => [(0, .ref a0), (1, .int a1), (2, .int q5.1), (3, .int q5.2.1)]) (L_X1_onesAhead_4 K L xN a0 a1 (0 : Int32) (0 : Int32) h) (fun q5 => ?_)
  refine S_iload_n (pc := 38) 2 rfl dX1_onesAhead_38 rfl ?_
  exact Sim.fin ⟨dX1_onesAhead_39, rfl, rfl⟩ rfl
theorem M_X1_onesAhead (l : Launch) (a0 : Nat) (a1 : Int32) (h : xH) {q : Int32 × xH} (hq : f_X1_onesAhead a0 a1 h = some q) : xM l yX1_onesAhead cX1_onesAhead 4 (some .int) 2 [.ref a0, .int a1] h (some (.int q.1)) q.2 := xM_i (by decide +kernel) (Nat.le_of_ble_eq_true rfl) (fun K L => W_X1_onesAhead K L a0 a1 h) hq
theorem dX1_countOnes_0 : decode cX1_countOnes 0 = .ok (.aload_n 0, 1) := by decide +kernel
theorem dX1_countOnes_1 : decode cX1_countOnes 1 = .ok (.aload_n 0, 1) := by decide +kernel
theorem dX1_countOnes_2 : decode cX1_countOnes 2 = .ok (.getfield 15, 3) := by decide +kernel
theorem dX1_countOnes_5 : decode cX1_countOnes 5 = .ok (.invokevirtual 64, 3) := by decide +kernel
theorem dX1_countOnes_8 : decode cX1_countOnes 8 = .ok (.ireturn, 1) := by decide +kernel
set_option maxRecDepth 20000 in
set_option maxHeartbeats 4000000 in
theorem W_X1_countOnes (K : xK) (L : xL) (a0 : Nat) (h : xH) : Sim K L cX1_countOnes RX1 "countOnes" 1 3 (fun q : Int32 × xH => q.2) (xRi cX1_countOnes) 0 [(0, .ref a0)] [] h (f_X1_countOnes a0 h) := by
  unfold f_X1_countOnes
  refine S_aload_n (pc := 0) 0 rfl dX1_countOnes_0 rfl ?_
  refine S_aload_n (pc := 1) 0 rfl dX1_countOnes_1 rfl ?_
  refine S_getI (pc := 2) fd_X1_length wd_80 dX1_countOnes_2 (fun v1 => ?_)
  refine S_call_i (pc := 5) (rest := []) (fun q hq => (x_if hq).elim (fun z => R_V (av := [.int v1]) (q := (RX1, TX1, 2)) (M_X1_onesAhead _ a0 v1 h z.2) z.1 rfl wd_497 wd_494 wd_495 wd_45 wd_496 ⟨rfl, hd_X1_onesAhead⟩ ⟨Nat.le_of_ble_eq_true rfl, Nat.le_of_ble_eq_true rfl⟩ rfl (Nat.le_of_ble_eq_true rfl) dX1_countOnes_5) (fun hq => (by cases hq))) (fun _ h => absurd h List.not_mem_nil) (fun q2 => ?_)
  exact Sim.fin ⟨dX1_countOnes_8, rfl, rfl⟩ rfl
theorem M_X1_countOnes (l : Launch) (a0 : Nat) (h : xH) {q : Int32 × xH} (hq : f_X1_countOnes a0 h = some q) : xM l yX1_countOnes cX1_countOnes 1 (some .int) 3 [.ref a0] h (some (.int q.1)) q.2 := xM_i (by decide +kernel) (Nat.le_of_ble_eq_true rfl) (fun K L => W_X1_countOnes K L a0 h) hq
theorem dX11_alike_0 : decode cX11_alike 0 = .ok (.iload_n 1, 1) := by decide +kernel
theorem dX11_alike_1 : decode cX11_alike 1 = .ok (.invokestatic 113, 3) := by decide +kernel
theorem dX11_alike_4 : decode cX11_alike 4 = .ok (.ifCond .eq 19, 3) := by decide +kernel
theorem dX11_alike_7 : decode cX11_alike 7 = .ok (.iload_n 2, 1) := by decide +kernel
theorem dX11_alike_8 : decode cX11_alike 8 = .ok (.invokestatic 113, 3) := by decide +kernel
theorem dX11_alike_11 : decode cX11_alike 11 = .ok (.ifCond .eq 12, 3) := by decide +kernel
theorem dX11_alike_14 : decode cX11_alike 14 = .ok (.iload_n 3, 1) := by decide +kernel
theorem dX11_alike_15 : decode cX11_alike 15 = .ok (.ifCond .lt 8, 3) := by decide +kernel
theorem dX11_alike_18 : decode cX11_alike 18 = .ok (.iload_n 3, 1) := by decide +kernel
theorem dX11_alike_19 : decode cX11_alike 19 = .ok (.iconst 1, 1) := by decide +kernel
theorem dX11_alike_20 : decode cX11_alike 20 = .ok (.if_icmp .le 6, 3) := by decide +kernel
theorem dX11_alike_23 : decode cX11_alike 23 = .ok (.ldc 65, 2) := by decide +kernel
theorem dX11_alike_25 : decode cX11_alike 25 = .ok (.ireturn, 1) := by decide +kernel
theorem dX11_alike_26 : decode cX11_alike 26 = .ok (.aload_n 0, 1) := by decide +kernel
theorem dX11_alike_27 : decode cX11_alike 27 = .ok (.getfield 29, 3) := by decide +kernel
theorem dX11_alike_30 : decode cX11_alike 30 = .ok (.iconst 0, 1) := by decide +kernel
theorem dX11_alike_31 : decode cX11_alike 31 = .ok (.aload_n 0, 1) := by decide +kernel
theorem dX11_alike_32 : decode cX11_alike 32 = .ok (.getfield 17, 3) := by decide +kernel
theorem dX11_alike_35 : decode cX11_alike 35 = .ok (.iload_n 1, 1) := by decide +kernel
theorem dX11_alike_36 : decode cX11_alike 36 = .ok (.aaload, 1) := by decide +kernel
theorem dX11_alike_37 : decode cX11_alike 37 = .ok (.aload_n 0, 1) := by decide +kernel
theorem dX11_alike_38 : decode cX11_alike 38 = .ok (.getfield 17, 3) := by decide +kernel
theorem dX11_alike_41 : decode cX11_alike 41 = .ok (.iload_n 2, 1) := by decide +kernel
theorem dX11_alike_42 : decode cX11_alike 42 = .ok (.aaload, 1) := by decide +kernel
theorem dX11_alike_43 : decode cX11_alike 43 = .ok (.invokevirtual 163, 3) := by decide +kernel
theorem dX11_alike_46 : decode cX11_alike 46 = .ok (.aload_n 0, 1) := by decide +kernel
theorem dX11_alike_47 : decode cX11_alike 47 = .ok (.getfield 29, 3) := by decide +kernel
theorem dX11_alike_50 : decode cX11_alike 50 = .ok (.invokevirtual 167, 3) := by decide +kernel
theorem dX11_alike_53 : decode cX11_alike 53 = .ok (.istore 4, 2) := by decide +kernel
theorem dX11_alike_55 : decode cX11_alike 55 = .ok (.aload_n 0, 1) := by decide +kernel
theorem dX11_alike_56 : decode cX11_alike 56 = .ok (.getfield 29, 3) := by decide +kernel
theorem dX11_alike_59 : decode cX11_alike 59 = .ok (.iconst 1, 1) := by decide +kernel
theorem dX11_alike_60 : decode cX11_alike 60 = .ok (.aload_n 0, 1) := by decide +kernel
theorem dX11_alike_61 : decode cX11_alike 61 = .ok (.getfield 17, 3) := by decide +kernel
theorem dX11_alike_64 : decode cX11_alike 64 = .ok (.iload_n 1, 1) := by decide +kernel
theorem dX11_alike_65 : decode cX11_alike 65 = .ok (.aaload, 1) := by decide +kernel
theorem dX11_alike_66 : decode cX11_alike 66 = .ok (.aload_n 0, 1) := by decide +kernel
theorem dX11_alike_67 : decode cX11_alike 67 = .ok (.getfield 17, 3) := by decide +kernel
theorem dX11_alike_70 : decode cX11_alike 70 = .ok (.iload_n 2, 1) := by decide +kernel
theorem dX11_alike_71 : decode cX11_alike 71 = .ok (.aaload, 1) := by decide +kernel
theorem dX11_alike_72 : decode cX11_alike 72 = .ok (.invokevirtual 163, 3) := by decide +kernel
theorem dX11_alike_75 : decode cX11_alike 75 = .ok (.aload_n 0, 1) := by decide +kernel
theorem dX11_alike_76 : decode cX11_alike 76 = .ok (.getfield 29, 3) := by decide +kernel
theorem dX11_alike_79 : decode cX11_alike 79 = .ok (.invokevirtual 167, 3) := by decide +kernel
theorem dX11_alike_82 : decode cX11_alike 82 = .ok (.istore 5, 2) := by decide +kernel
theorem dX11_alike_84 : decode cX11_alike 84 = .ok (.iload 4, 2) := by decide +kernel
theorem dX11_alike_86 : decode cX11_alike 86 = .ok (.ifCond .ne 5, 3) := by decide +kernel
theorem dX11_alike_89 : decode cX11_alike 89 = .ok (.iload_n 3, 1) := by decide +kernel
theorem dX11_alike_90 : decode cX11_alike 90 = .ok (.ireturn, 1) := by decide +kernel
theorem dX11_alike_91 : decode cX11_alike 91 = .ok (.iload 5, 2) := by decide +kernel
theorem dX11_alike_93 : decode cX11_alike 93 = .ok (.iload 4, 2) := by decide +kernel
theorem dX11_alike_95 : decode cX11_alike 95 = .ok (.invokestatic 228, 3) := by decide +kernel
theorem dX11_alike_98 : decode cX11_alike 98 = .ok (.istore 6, 2) := by decide +kernel
theorem dX11_alike_100 : decode cX11_alike 100 = .ok (.iload_n 3, 1) := by decide +kernel
theorem dX11_alike_101 : decode cX11_alike 101 = .ok (.ifCond .ne 11, 3) := by decide +kernel
theorem dX11_alike_104 : decode cX11_alike 104 = .ok (.iload 4, 2) := by decide +kernel
theorem dX11_alike_106 : decode cX11_alike 106 = .ok (.iload 6, 2) := by decide +kernel
theorem dX11_alike_108 : decode cX11_alike 108 = .ok (.idiv, 1) := by decide +kernel
theorem dX11_alike_109 : decode cX11_alike 109 = .ok (.goto 8, 3) := by decide +kernel
theorem dX11_alike_112 : decode cX11_alike 112 = .ok (.iload 5, 2) := by decide +kernel
theorem dX11_alike_114 : decode cX11_alike 114 = .ok (.iload 6, 2) := by decide +kernel
theorem dX11_alike_116 : decode cX11_alike 116 = .ok (.idiv, 1) := by decide +kernel
theorem dX11_alike_117 : decode cX11_alike 117 = .ok (.ireturn, 1) := by decide +kernel
set_option maxRecDepth 20000 in
set_option maxHeartbeats 4000000 in
theorem W_X11_alike (K : xK) (L : xL) (a0 : Nat) (a1 : Int32) (a2 : Int32) (a3 : Int32) (h : xH) : Sim K L cX11_alike RX11 "alike" 7 4 (fun q : Int32 × xH => q.2) (xRi cX11_alike) 0 [(0, .ref a0), (1, .int a1), (2, .int a2), (3, .int a3)] [] h (f_X11_alike a0 a1 a2 a3 h) := by
  unfold f_X11_alike
  refine S_iload_n (pc := 0) 1 rfl dX11_alike_0 rfl ?_
  refine S_call_i (pc := 1) (rest := []) (fun q hq => R_S (av := [.int a1]) (M_X11_isVector _ a1 h hq) wd_293 wd_291 wd_292 wd_44 hd_X11_isVector ⟨Nat.le_of_ble_eq_true rfl, Nat.le_of_ble_eq_true rfl⟩ rfl (Nat.le_of_ble_eq_true rfl) dX11_alike_1) (fun _ h => absurd h List.not_mem_nil) (fun q1 => ?_)
  refine S_if_eq (pc := 4) (tgt := 23) dX11_alike_4 (by decide) ?_ ?_
  · refine S_ldc (pc := 23) wd_233 dX11_alike_23 ?_
    exact Sim.fin ⟨dX11_alike_25, rfl, rfl⟩ rfl
  · refine S_iload_n (pc := 7) 2 rfl dX11_alike_7 rfl ?_
    refine S_call_i (pc := 8) (rest := []) (fun q hq => R_S (av := [.int a2]) (M_X11_isVector _ a2 q1.2 hq) wd_293 wd_291 wd_292 wd_44 hd_X11_isVector ⟨Nat.le_of_ble_eq_true rfl, Nat.le_of_ble_eq_true rfl⟩ rfl (Nat.le_of_ble_eq_true rfl) dX11_alike_8) (fun _ h => absurd h List.not_mem_nil) (fun q2 => ?_)
    refine S_if_eq (pc := 11) (tgt := 23) dX11_alike_11 (by decide) ?_ ?_
    · refine S_ldc (pc := 23) wd_233 dX11_alike_23 ?_
      exact Sim.fin ⟨dX11_alike_25, rfl, rfl⟩ rfl
    · refine S_iload_n (pc := 14) 3 rfl dX11_alike_14 rfl ?_
      refine S_if_lt (pc := 15) (tgt := 23) dX11_alike_15 (by decide) ?_ ?_
      · refine S_ldc (pc := 23) wd_233 dX11_alike_23 ?_
        exact Sim.fin ⟨dX11_alike_25, rfl, rfl⟩ rfl
      · refine S_iload_n (pc := 18) 3 rfl dX11_alike_18 rfl ?_
        refine S_iconst (pc := 19) dX11_alike_19 ic_1 ?_
        refine S_icmp_le (pc := 20) (tgt := 26) dX11_alike_20 (by decide) ?_ ?_
        · refine S_aload_n (pc := 26) 0 rfl dX11_alike_26 rfl ?_
          refine S_getR (pc := 27) fd_X11_scratch wd_193 dX11_alike_27 (fun v3 => ?_)
          refine S_iconst (pc := 30) dX11_alike_30 ic_0 ?_
          refine S_aload_n (pc := 31) 0 rfl dX11_alike_31 rfl ?_
          refine S_getR (pc := 32) fd_X11_vectors wd_190 dX11_alike_32 (fun v4 => ?_)
          refine S_iload_n (pc := 35) 1 rfl dX11_alike_35 rfl ?_
          refine S_aR (pc := 36) (fun _ => rfl) dX11_alike_36 (fun v5 => ?_)
          refine S_aload_n (pc := 37) 0 rfl dX11_alike_37 rfl ?_
          refine S_getR (pc := 38) fd_X11_vectors wd_190 dX11_alike_38 (fun v6 => ?_)
          refine S_iload_n (pc := 41) 2 rfl dX11_alike_41 rfl ?_
          refine S_aR (pc := 42) (fun _ => rfl) dX11_alike_42 (fun v7 => ?_)
          refine S_call_v (pc := 43) (rest := []) (fun q hq => (x_if hq).elim (fun z => R_V (av := [.int (0 : Int32), .ref v5, .ref v7]) (q := (RX1, TX1, 2)) (M_X1_becomeJoined _ v3 (0 : Int32) v5 v7 q2.2 z.2) z.1 rfl wd_485 wd_482 wd_483 wd_45 wd_484 ⟨rfl, hd_X1_becomeJoined⟩ ⟨Nat.le_of_ble_eq_true rfl, Nat.le_of_ble_eq_true rfl⟩ rfl (Nat.le_of_ble_eq_true rfl) dX11_alike_43) (fun hq => (by cases hq))) (fun _ h => absurd h List.not_mem_nil) (fun q8 => ?_)
          refine S_aload_n (pc := 46) 0 rfl dX11_alike_46 rfl ?_
          refine S_getR (pc := 47) fd_X11_scratch wd_193 dX11_alike_47 (fun v9 => ?_)
          refine S_call_i (pc := 50) (rest := []) (fun q hq => (x_if hq).elim (fun z => R_V (av := []) (q := (RX1, TX1, 2)) (M_X1_countOnes _ v9 q8 z.2) z.1 rfl wd_493 wd_490 wd_491 wd_45 wd_492 ⟨rfl, hd_X1_countOnes⟩ ⟨Nat.le_of_ble_eq_true rfl, Nat.le_of_ble_eq_true rfl⟩ rfl (Nat.le_of_ble_eq_true rfl) dX11_alike_50) (fun hq => (by cases hq))) (fun _ h => absurd h List.not_mem_nil) (fun q10 => ?_)
          refine S_istore (pc := 53) dX11_alike_53 (Nat.le_of_ble_eq_true rfl) rfl ?_
          refine S_aload_n (pc := 55) 1 rfl dX11_alike_55 rfl ?_
          refine S_getR (pc := 56) fd_X11_scratch wd_193 dX11_alike_56 (fun v11 => ?_)
          refine S_iconst (pc := 59) dX11_alike_59 ic_1 ?_
          refine S_aload_n (pc := 60) 1 rfl dX11_alike_60 rfl ?_
          refine S_getR (pc := 61) fd_X11_vectors wd_190 dX11_alike_61 (fun v12 => ?_)
          refine S_iload_n (pc := 64) 2 rfl dX11_alike_64 rfl ?_
          refine S_aR (pc := 65) (fun _ => rfl) dX11_alike_65 (fun v13 => ?_)
          refine S_aload_n (pc := 66) 1 rfl dX11_alike_66 rfl ?_
          refine S_getR (pc := 67) fd_X11_vectors wd_190 dX11_alike_67 (fun v14 => ?_)
          refine S_iload_n (pc := 70) 3 rfl dX11_alike_70 rfl ?_
          refine S_aR (pc := 71) (fun _ => rfl) dX11_alike_71 (fun v15 => ?_)
          refine S_call_v (pc := 72) (rest := []) (fun q hq => (x_if hq).elim (fun z => R_V (av := [.int (1 : Int32), .ref v13, .ref v15]) (q := (RX1, TX1, 2)) (M_X1_becomeJoined _ v11 (1 : Int32) v13 v15 q10.2 z.2) z.1 rfl wd_485 wd_482 wd_483 wd_45 wd_484 ⟨rfl, hd_X1_becomeJoined⟩ ⟨Nat.le_of_ble_eq_true rfl, Nat.le_of_ble_eq_true rfl⟩ rfl (Nat.le_of_ble_eq_true rfl) dX11_alike_72) (fun hq => (by cases hq))) (fun _ h => absurd h List.not_mem_nil) (fun q16 => ?_)
          refine S_aload_n (pc := 75) 1 rfl dX11_alike_75 rfl ?_
          refine S_getR (pc := 76) fd_X11_scratch wd_193 dX11_alike_76 (fun v17 => ?_)
          refine S_call_i (pc := 79) (rest := []) (fun q hq => (x_if hq).elim (fun z => R_V (av := []) (q := (RX1, TX1, 2)) (M_X1_countOnes _ v17 q16 z.2) z.1 rfl wd_493 wd_490 wd_491 wd_45 wd_492 ⟨rfl, hd_X1_countOnes⟩ ⟨Nat.le_of_ble_eq_true rfl, Nat.le_of_ble_eq_true rfl⟩ rfl (Nat.le_of_ble_eq_true rfl) dX11_alike_79) (fun hq => (by cases hq))) (fun _ h => absurd h List.not_mem_nil) (fun q18 => ?_)
          refine S_istore (pc := 82) dX11_alike_82 (Nat.le_of_ble_eq_true rfl) rfl ?_
          refine S_iload (pc := 84) 1 rfl dX11_alike_84 ?_
          refine S_if_ne (pc := 86) (tgt := 91) dX11_alike_86 (by decide) ?_ ?_
          · refine S_iload_n (pc := 89) 5 rfl dX11_alike_89 rfl ?_
            exact Sim.fin ⟨dX11_alike_90, rfl, rfl⟩ rfl
          · refine S_iload (pc := 91) 0 rfl dX11_alike_91 ?_
            refine S_iload (pc := 93) 1 rfl dX11_alike_93 ?_
            refine S_call_i (pc := 95) (rest := []) (fun q hq => R_S (av := [.int q18.1, .int q10.1]) (M_X11_commonDivisor _ q18.1 q10.1 q18.2 hq) wd_648 wd_646 wd_647 wd_44 hd_X11_commonDivisor ⟨Nat.le_of_ble_eq_true rfl, Nat.le_of_ble_eq_true rfl⟩ rfl (Nat.le_of_ble_eq_true rfl) dX11_alike_95) (fun _ h => absurd h List.not_mem_nil) (fun q19 => ?_)
            refine S_istore (pc := 98) dX11_alike_98 (Nat.le_of_ble_eq_true rfl) rfl ?_
            refine S_iload_n (pc := 100) 6 rfl dX11_alike_100 rfl ?_
            refine S_if_ne (pc := 101) (tgt := 112) dX11_alike_101 (by decide) ?_ ?_
            · refine S_iload (pc := 104) 2 rfl dX11_alike_104 ?_
              refine S_iload (pc := 106) 0 rfl dX11_alike_106 ?_
              refine Sim.ite (fun _ => Sim.none) (fun hz20 => ?_)
              refine S_idiv (pc := 108) hz20 dX11_alike_108 ?_
              refine S_goto (pc := 109) (tgt := 117) dX11_alike_109 (by decide) ?_
              exact Sim.fin ⟨dX11_alike_117, rfl, rfl⟩ rfl
            · refine S_iload (pc := 112) 1 rfl dX11_alike_112 ?_
              refine S_iload (pc := 114) 0 rfl dX11_alike_114 ?_
              refine Sim.ite (fun _ => Sim.none) (fun hz21 => ?_)
              refine S_idiv (pc := 116) hz21 dX11_alike_116 ?_
              exact Sim.fin ⟨dX11_alike_117, rfl, rfl⟩ rfl
        · refine S_ldc (pc := 23) wd_233 dX11_alike_23 ?_
          exact Sim.fin ⟨dX11_alike_25, rfl, rfl⟩ rfl
theorem M_X11_alike (l : Launch) (a0 : Nat) (a1 : Int32) (a2 : Int32) (a3 : Int32) (h : xH) {q : Int32 × xH} (hq : f_X11_alike a0 a1 a2 a3 h = some q) : xM l yX11_alike cX11_alike 7 (some .int) 4 [.ref a0, .int a1, .int a2, .int a3] h (some (.int q.1)) q.2 := xM_i (by decide +kernel) (Nat.le_of_ble_eq_true rfl) (fun K L => W_X11_alike K L a0 a1 a2 a3 h) hq
theorem dX11_fine_0 : decode cX11_fine 0 = .ok (.aload_n 0, 1) := by decide +kernel
theorem dX11_fine_1 : decode cX11_fine 1 = .ok (.iconst 0, 1) := by decide +kernel
theorem dX11_fine_2 : decode cX11_fine 2 = .ok (.putfield 283, 3) := by decide +kernel
theorem dX11_fine_5 : decode cX11_fine 5 = .ok (.iload_n 1, 1) := by decide +kernel
theorem dX11_fine_6 : decode cX11_fine 6 = .ok (.ireturn, 1) := by decide +kernel
set_option maxRecDepth 20000 in
set_option maxHeartbeats 4000000 in
theorem W_X11_fine (K : xK) (L : xL) (a0 : Nat) (a1 : Int32) (h : xH) : Sim K L cX11_fine RX11 "fine" 2 0 (fun q : Int32 × xH => q.2) (xRi cX11_fine) 0 [(0, .ref a0), (1, .int a1)] [] h (f_X11_fine a0 a1 h) := by
  unfold f_X11_fine
  refine S_aload_n (pc := 0) 0 rfl dX11_fine_0 rfl ?_
  refine S_iconst (pc := 1) dX11_fine_1 ic_0 ?_
  refine S_putI (pc := 2) fd_X11_latestFinding wd_200 rfl rfl dX11_fine_2 (fun h1 => ?_)
  refine S_iload_n (pc := 5) 1 rfl dX11_fine_5 rfl ?_
  exact Sim.fin ⟨dX11_fine_6, rfl, rfl⟩ rfl
theorem M_X11_fine (l : Launch) (a0 : Nat) (a1 : Int32) (h : xH) {q : Int32 × xH} (hq : f_X11_fine a0 a1 h = some q) : xM l yX11_fine cX11_fine 2 (some .int) 0 [.ref a0, .int a1] h (some (.int q.1)) q.2 := xM_i (by decide +kernel) (Nat.le_of_ble_eq_true rfl) (fun K L => W_X11_fine K L a0 a1 h) hq
theorem dX11_found_0 : decode cX11_found 0 = .ok (.aload_n 0, 1) := by decide +kernel
theorem dX11_found_1 : decode cX11_found 1 = .ok (.iload_n 1, 1) := by decide +kernel
theorem dX11_found_2 : decode cX11_found 2 = .ok (.putfield 283, 3) := by decide +kernel
theorem dX11_found_5 : decode cX11_found 5 = .ok (.ldc_w 286, 3) := by decide +kernel
theorem dX11_found_8 : decode cX11_found 8 = .ok (.iload_n 1, 1) := by decide +kernel
theorem dX11_found_9 : decode cX11_found 9 = .ok (.isub, 1) := by decide +kernel
theorem dX11_found_10 : decode cX11_found 10 = .ok (.ireturn, 1) := by decide +kernel
set_option maxRecDepth 20000 in
set_option maxHeartbeats 4000000 in
theorem W_X11_found (K : xK) (L : xL) (a0 : Nat) (a1 : Int32) (h : xH) : Sim K L cX11_found RX11 "found" 2 0 (fun q : Int32 × xH => q.2) (xRi cX11_found) 0 [(0, .ref a0), (1, .int a1)] [] h (f_X11_found a0 a1 h) := by
  unfold f_X11_found
  refine S_aload_n (pc := 0) 0 rfl dX11_found_0 rfl ?_
  refine S_iload_n (pc := 1) 1 rfl dX11_found_1 rfl ?_
  refine S_putI (pc := 2) fd_X11_latestFinding wd_200 rfl rfl dX11_found_2 (fun h1 => ?_)
  refine S_ldcw (pc := 5) wd_238 dX11_found_5 ?_
  refine S_iload_n (pc := 8) 1 rfl dX11_found_8 rfl ?_
  refine S_isub (pc := 9) dX11_found_9 ?_
  exact Sim.fin ⟨dX11_found_10, rfl, rfl⟩ rfl
theorem M_X11_found (l : Launch) (a0 : Nat) (a1 : Int32) (h : xH) {q : Int32 × xH} (hq : f_X11_found a0 a1 h = some q) : xM l yX11_found cX11_found 2 (some .int) 0 [.ref a0, .int a1] h (some (.int q.1)) q.2 := xM_i (by decide +kernel) (Nat.le_of_ble_eq_true rfl) (fun K L => W_X11_found K L a0 a1 h) hq
theorem dX11_isOfKind_0 : decode cX11_isOfKind 0 = .ok (.iload_n 1, 1) := by decide +kernel
theorem dX11_isOfKind_1 : decode cX11_isOfKind 1 = .ok (.tableswitch 60 1 5 #[35, 40, 45, 50, 55], 35) := by decide +kernel
theorem dX11_isOfKind_36 : decode cX11_isOfKind 36 = .ok (.aload_n 0, 1) := by decide +kernel
theorem dX11_isOfKind_37 : decode cX11_isOfKind 37 = .ok (.instanceof 326, 3) := by decide +kernel
theorem dX11_isOfKind_40 : decode cX11_isOfKind 40 = .ok (.ireturn, 1) := by decide +kernel
theorem dX11_isOfKind_41 : decode cX11_isOfKind 41 = .ok (.aload_n 0, 1) := by decide +kernel
theorem dX11_isOfKind_42 : decode cX11_isOfKind 42 = .ok (.instanceof 313, 3) := by decide +kernel
theorem dX11_isOfKind_45 : decode cX11_isOfKind 45 = .ok (.ireturn, 1) := by decide +kernel
theorem dX11_isOfKind_46 : decode cX11_isOfKind 46 = .ok (.aload_n 0, 1) := by decide +kernel
theorem dX11_isOfKind_47 : decode cX11_isOfKind 47 = .ok (.instanceof 317, 3) := by decide +kernel
theorem dX11_isOfKind_50 : decode cX11_isOfKind 50 = .ok (.ireturn, 1) := by decide +kernel
theorem dX11_isOfKind_51 : decode cX11_isOfKind 51 = .ok (.aload_n 0, 1) := by decide +kernel
theorem dX11_isOfKind_52 : decode cX11_isOfKind 52 = .ok (.instanceof 320, 3) := by decide +kernel
theorem dX11_isOfKind_55 : decode cX11_isOfKind 55 = .ok (.ireturn, 1) := by decide +kernel
theorem dX11_isOfKind_56 : decode cX11_isOfKind 56 = .ok (.aload_n 0, 1) := by decide +kernel
theorem dX11_isOfKind_57 : decode cX11_isOfKind 57 = .ok (.instanceof 323, 3) := by decide +kernel
theorem dX11_isOfKind_60 : decode cX11_isOfKind 60 = .ok (.ireturn, 1) := by decide +kernel
theorem dX11_isOfKind_61 : decode cX11_isOfKind 61 = .ok (.iload_n 1, 1) := by decide +kernel
theorem dX11_isOfKind_62 : decode cX11_isOfKind 62 = .ok (.ifCond .ne 7, 3) := by decide +kernel
theorem dX11_isOfKind_65 : decode cX11_isOfKind 65 = .ok (.iconst 1, 1) := by decide +kernel
theorem dX11_isOfKind_66 : decode cX11_isOfKind 66 = .ok (.goto 4, 3) := by decide +kernel
theorem dX11_isOfKind_69 : decode cX11_isOfKind 69 = .ok (.iconst 0, 1) := by decide +kernel
theorem dX11_isOfKind_70 : decode cX11_isOfKind 70 = .ok (.ireturn, 1) := by decide +kernel
set_option maxRecDepth 20000 in
set_option maxHeartbeats 4000000 in
theorem W_X11_isOfKind (K : xK) (L : xL) (a0 : Nat) (a1 : Int32) (h : xH) : Sim K L cX11_isOfKind RX11 "isOfKind" 2 0 (fun q : Int32 × xH => q.2) (xRz cX11_isOfKind) 0 [(0, .ref a0), (1, .int a1)] [] h (f_X11_isOfKind a0 a1 h) := by
  unfold f_X11_isOfKind
  refine S_iload_n (pc := 0) 1 rfl dX11_isOfKind_0 rfl ?_
  refine S_tabIn (pc := 1) (v := 1) (tgt := 36) dX11_isOfKind_1 (by decide) (by decide) rfl (by decide) ?_ (fun hs3 => ?_)
  · refine S_aload_n (pc := 36) 0 rfl dX11_isOfKind_36 rfl ?_
    refine S_inst (pc := 37) wd_385 (List.forall_mem_cons.mpr ⟨⟨(RX4, TX4, 2), rfl, Or.inr (by decide +kernel)⟩, (List.forall_mem_cons.mpr ⟨⟨(RX8, TX8, 2), rfl, Or.inr (by decide +kernel)⟩, (List.forall_mem_cons.mpr ⟨⟨(RX10, TX10, 2), rfl, Or.inl rfl⟩, (fun _ h => absurd h List.not_mem_nil)⟩)⟩)⟩) (List.forall_mem_cons.mpr ⟨⟨(RX0, TX0, 2), rfl, by decide +kernel⟩, (List.forall_mem_cons.mpr ⟨⟨(RX2, TX2, 2), rfl, by decide +kernel⟩, (fun _ h => absurd h List.not_mem_nil)⟩)⟩) dX11_isOfKind_37 (fun v1 => ?_)
    refine Sim.ite (fun hz2 => ?_) (fun _ => Sim.none)
    exact Sim.fin ⟨dX11_isOfKind_40, rfl, rfl, x_nar hz2⟩ rfl
  refine S_tabIn (pc := 1) (v := 2) (tgt := 41) dX11_isOfKind_1 (by decide) (by decide) rfl (by decide) ?_ (fun hs6 => ?_)
  · refine S_aload_n (pc := 41) 0 rfl dX11_isOfKind_41 rfl ?_
    refine S_inst (pc := 42) wd_337 (List.forall_mem_cons.mpr ⟨⟨(RX4, TX4, 2), rfl, Or.inl rfl⟩, (fun _ h => absurd h List.not_mem_nil)⟩) (List.forall_mem_cons.mpr ⟨⟨(RX0, TX0, 2), rfl, by decide +kernel⟩, (List.forall_mem_cons.mpr ⟨⟨(RX2, TX2, 2), rfl, by decide +kernel⟩, (List.forall_mem_cons.mpr ⟨⟨(RX8, TX8, 2), rfl, by decide +kernel⟩, (List.forall_mem_cons.mpr ⟨⟨(RX10, TX10, 2), rfl, by decide +kernel⟩, (fun _ h => absurd h List.not_mem_nil)⟩)⟩)⟩)⟩) dX11_isOfKind_42 (fun v4 => ?_)
    refine Sim.ite (fun hz5 => ?_) (fun _ => Sim.none)
    exact Sim.fin ⟨dX11_isOfKind_45, rfl, rfl, x_nar hz5⟩ rfl
  refine S_tabIn (pc := 1) (v := 3) (tgt := 46) dX11_isOfKind_1 (by decide) (by decide) rfl (by decide) ?_ (fun hs9 => ?_)
  · refine S_aload_n (pc := 46) 0 rfl dX11_isOfKind_46 rfl ?_
    refine S_inst (pc := 47) wd_358 (List.forall_mem_cons.mpr ⟨⟨(RX8, TX8, 2), rfl, Or.inl rfl⟩, (fun _ h => absurd h List.not_mem_nil)⟩) (List.forall_mem_cons.mpr ⟨⟨(RX0, TX0, 2), rfl, by decide +kernel⟩, (List.forall_mem_cons.mpr ⟨⟨(RX2, TX2, 2), rfl, by decide +kernel⟩, (List.forall_mem_cons.mpr ⟨⟨(RX4, TX4, 2), rfl, by decide +kernel⟩, (List.forall_mem_cons.mpr ⟨⟨(RX10, TX10, 2), rfl, by decide +kernel⟩, (fun _ h => absurd h List.not_mem_nil)⟩)⟩)⟩)⟩) dX11_isOfKind_47 (fun v7 => ?_)
    refine Sim.ite (fun hz8 => ?_) (fun _ => Sim.none)
    exact Sim.fin ⟨dX11_isOfKind_50, rfl, rfl, x_nar hz8⟩ rfl
  refine S_tabIn (pc := 1) (v := 4) (tgt := 51) dX11_isOfKind_1 (by decide) (by decide) rfl (by decide) ?_ (fun hs12 => ?_)
  · refine S_aload_n (pc := 51) 0 rfl dX11_isOfKind_51 rfl ?_
    refine S_inst (pc := 52) wd_367 (List.forall_mem_cons.mpr ⟨⟨(RX0, TX0, 2), rfl, Or.inl rfl⟩, (List.forall_mem_cons.mpr ⟨⟨(RX2, TX2, 2), rfl, Or.inr (by decide +kernel)⟩, (fun _ h => absurd h List.not_mem_nil)⟩)⟩) (List.forall_mem_cons.mpr ⟨⟨(RX4, TX4, 2), rfl, by decide +kernel⟩, (List.forall_mem_cons.mpr ⟨⟨(RX8, TX8, 2), rfl, by decide +kernel⟩, (List.forall_mem_cons.mpr ⟨⟨(RX10, TX10, 2), rfl, by decide +kernel⟩, (fun _ h => absurd h List.not_mem_nil)⟩)⟩)⟩) dX11_isOfKind_52 (fun v10 => ?_)
    refine Sim.ite (fun hz11 => ?_) (fun _ => Sim.none)
    exact Sim.fin ⟨dX11_isOfKind_55, rfl, rfl, x_nar hz11⟩ rfl
  refine S_tabIn (pc := 1) (v := 5) (tgt := 56) dX11_isOfKind_1 (by decide) (by decide) rfl (by decide) ?_ (fun hs15 => ?_)
  · refine S_aload_n (pc := 56) 0 rfl dX11_isOfKind_56 rfl ?_
    refine S_inst (pc := 57) wd_376 (List.forall_mem_cons.mpr ⟨⟨(RX2, TX2, 2), rfl, Or.inl rfl⟩, (fun _ h => absurd h List.not_mem_nil)⟩) (List.forall_mem_cons.mpr ⟨⟨(RX0, TX0, 2), rfl, by decide +kernel⟩, (List.forall_mem_cons.mpr ⟨⟨(RX4, TX4, 2), rfl, by decide +kernel⟩, (List.forall_mem_cons.mpr ⟨⟨(RX8, TX8, 2), rfl, by decide +kernel⟩, (List.forall_mem_cons.mpr ⟨⟨(RX10, TX10, 2), rfl, by decide +kernel⟩, (fun _ h => absurd h List.not_mem_nil)⟩)⟩)⟩)⟩) dX11_isOfKind_57 (fun v13 => ?_)
    refine Sim.ite (fun hz14 => ?_) (fun _ => Sim.none)
    exact Sim.fin ⟨dX11_isOfKind_60, rfl, rfl, x_nar hz14⟩ rfl
  refine S_tabOut (pc := 1) (tgt := 61) dX11_isOfKind_1 (by have := lv_neT hs3 (show (1 : Int32).toInt = 1 from by decide); have := lv_neT hs6 (show (2 : Int32).toInt = 2 from by decide); have := lv_neT hs9 (show (3 : Int32).toInt = 3 from by decide); have := lv_neT hs12 (show (4 : Int32).toInt = 4 from by decide); have := lv_neT hs15 (show (5 : Int32).toInt = 5 from by decide); omega) (by decide) ?_
  refine S_iload_n (pc := 61) 1 rfl dX11_isOfKind_61 rfl ?_
  refine S_if_ne (pc := 62) (tgt := 69) dX11_isOfKind_62 (by decide) ?_ ?_
  · refine S_iconst (pc := 65) dX11_isOfKind_65 ic_1 ?_
    refine S_goto (pc := 66) (tgt := 70) dX11_isOfKind_66 (by decide) ?_
    exact Sim.fin ⟨dX11_isOfKind_70, rfl, rfl, x_nar (Or.inr rfl)⟩ rfl
  · refine S_iconst (pc := 69) dX11_isOfKind_69 ic_0 ?_
    exact Sim.fin ⟨dX11_isOfKind_70, rfl, rfl, x_nar (Or.inl rfl)⟩ rfl
theorem M_X11_isOfKind (l : Launch) (a0 : Nat) (a1 : Int32) (h : xH) {q : Int32 × xH} (hq : f_X11_isOfKind a0 a1 h = some q) : xM l yX11_isOfKind cX11_isOfKind 2 (some .boolean) 0 [.ref a0, .int a1] h (some (.int q.1)) q.2 := xM_z (by decide +kernel) (Nat.le_of_ble_eq_true rfl) (fun K L => W_X11_isOfKind K L a0 a1 h) hq
theorem dX11_isRun_0 : decode cX11_isRun 0 = .ok (.iload_n 1, 1) := by decide +kernel
theorem dX11_isRun_1 : decode cX11_isRun 1 = .ok (.ifCond .lt 24, 3) := by decide +kernel
theorem dX11_isRun_4 : decode cX11_isRun 4 = .ok (.iload_n 1, 1) := by decide +kernel
theorem dX11_isRun_5 : decode cX11_isRun 5 = .ok (.aload_n 0, 1) := by decide +kernel
theorem dX11_isRun_6 : decode cX11_isRun 6 = .ok (.getfield 141, 3) := by decide +kernel
theorem dX11_isRun_9 : decode cX11_isRun 9 = .ok (.if_icmp .ge 16, 3) := by decide +kernel
theorem dX11_isRun_12 : decode cX11_isRun 12 = .ok (.aload_n 0, 1) := by decide +kernel
theorem dX11_isRun_13 : decode cX11_isRun 13 = .ok (.getfield 49, 3) := by decide +kernel
theorem dX11_isRun_16 : decode cX11_isRun 16 = .ok (.iload_n 1, 1) := by decide +kernel
theorem dX11_isRun_17 : decode cX11_isRun 17 = .ok (.aaload, 1) := by decide +kernel
theorem dX11_isRun_18 : decode cX11_isRun 18 = .ok (.ifnull 7, 3) := by decide +kernel
theorem dX11_isRun_21 : decode cX11_isRun 21 = .ok (.iconst 1, 1) := by decide +kernel
theorem dX11_isRun_22 : decode cX11_isRun 22 = .ok (.goto 4, 3) := by decide +kernel
theorem dX11_isRun_25 : decode cX11_isRun 25 = .ok (.iconst 0, 1) := by decide +kernel
theorem dX11_isRun_26 : decode cX11_isRun 26 = .ok (.ireturn, 1) := by decide +kernel
set_option maxRecDepth 20000 in
set_option maxHeartbeats 4000000 in
theorem W_X11_isRun (K : xK) (L : xL) (a0 : Nat) (a1 : Int32) (h : xH) : Sim K L cX11_isRun RX11 "isRun" 2 0 (fun q : Int32 × xH => q.2) (xRz cX11_isRun) 0 [(0, .ref a0), (1, .int a1)] [] h (f_X11_isRun a0 a1 h) := by
  unfold f_X11_isRun
  refine S_iload_n (pc := 0) 1 rfl dX11_isRun_0 rfl ?_
  refine S_if_lt (pc := 1) (tgt := 25) dX11_isRun_1 (by decide) ?_ ?_
  · refine S_iconst (pc := 25) dX11_isRun_25 ic_0 ?_
    exact Sim.fin ⟨dX11_isRun_26, rfl, rfl, x_nar (Or.inl rfl)⟩ rfl
  · refine S_iload_n (pc := 4) 1 rfl dX11_isRun_4 rfl ?_
    refine S_aload_n (pc := 5) 0 rfl dX11_isRun_5 rfl ?_
    refine S_getI (pc := 6) fd_X11_runCount wd_198 dX11_isRun_6 (fun v1 => ?_)
    refine S_icmp_ge (pc := 9) (tgt := 25) dX11_isRun_9 (by decide) ?_ ?_
    · refine S_iconst (pc := 25) dX11_isRun_25 ic_0 ?_
      exact Sim.fin ⟨dX11_isRun_26, rfl, rfl, x_nar (Or.inl rfl)⟩ rfl
    · refine S_aload_n (pc := 12) 0 rfl dX11_isRun_12 rfl ?_
      refine S_getR (pc := 13) fd_X11_runs wd_196 dX11_isRun_13 (fun v2 => ?_)
      refine S_iload_n (pc := 16) 1 rfl dX11_isRun_16 rfl ?_
      refine S_aQ (pc := 17) (fun _ => rfl) dX11_isRun_17 ?_ (fun v3 => ?_)
      · refine S_ifnull_n (pc := 18) (tgt := 25) dX11_isRun_18 (by decide) ?_
        refine S_iconst (pc := 25) dX11_isRun_25 ic_0 ?_
        exact Sim.fin ⟨dX11_isRun_26, rfl, rfl, x_nar (Or.inl rfl)⟩ rfl
      · refine S_ifnull_r (pc := 18) dX11_isRun_18 ?_
        refine S_iconst (pc := 21) dX11_isRun_21 ic_1 ?_
        refine S_goto (pc := 22) (tgt := 26) dX11_isRun_22 (by decide) ?_
        exact Sim.fin ⟨dX11_isRun_26, rfl, rfl, x_nar (Or.inr rfl)⟩ rfl
theorem M_X11_isRun (l : Launch) (a0 : Nat) (a1 : Int32) (h : xH) {q : Int32 × xH} (hq : f_X11_isRun a0 a1 h = some q) : xM l yX11_isRun cX11_isRun 2 (some .boolean) 0 [.ref a0, .int a1] h (some (.int q.1)) q.2 := xM_z (by decide +kernel) (Nat.le_of_ble_eq_true rfl) (fun K L => W_X11_isRun K L a0 a1 h) hq
theorem dX11_as_0 : decode cX11_as 0 = .ok (.aload_n 0, 1) := by decide +kernel
theorem dX11_as_1 : decode cX11_as 1 = .ok (.iload_n 1, 1) := by decide +kernel
theorem dX11_as_2 : decode cX11_as 2 = .ok (.invokevirtual 250, 3) := by decide +kernel
theorem dX11_as_5 : decode cX11_as 5 = .ok (.ifCond .eq 12, 3) := by decide +kernel
theorem dX11_as_8 : decode cX11_as 8 = .ok (.iload_n 2, 1) := by decide +kernel
theorem dX11_as_9 : decode cX11_as 9 = .ok (.ifCond .lt 8, 3) := by decide +kernel
theorem dX11_as_12 : decode cX11_as 12 = .ok (.iload_n 2, 1) := by decide +kernel
theorem dX11_as_13 : decode cX11_as 13 = .ok (.iconst 5, 1) := by decide +kernel
theorem dX11_as_14 : decode cX11_as 14 = .ok (.if_icmp .le 6, 3) := by decide +kernel
theorem dX11_as_17 : decode cX11_as 17 = .ok (.ldc 65, 2) := by decide +kernel
theorem dX11_as_19 : decode cX11_as 19 = .ok (.ireturn, 1) := by decide +kernel
theorem dX11_as_20 : decode cX11_as 20 = .ok (.aload_n 0, 1) := by decide +kernel
theorem dX11_as_21 : decode cX11_as 21 = .ok (.getfield 49, 3) := by decide +kernel
theorem dX11_as_24 : decode cX11_as 24 = .ok (.iload_n 1, 1) := by decide +kernel
theorem dX11_as_25 : decode cX11_as 25 = .ok (.aaload, 1) := by decide +kernel
theorem dX11_as_26 : decode cX11_as 26 = .ok (.iload_n 2, 1) := by decide +kernel
theorem dX11_as_27 : decode cX11_as 27 = .ok (.invokestatic 256, 3) := by decide +kernel
theorem dX11_as_30 : decode cX11_as 30 = .ok (.ifCond .ne 9, 3) := by decide +kernel
theorem dX11_as_33 : decode cX11_as 33 = .ok (.aload_n 0, 1) := by decide +kernel
theorem dX11_as_34 : decode cX11_as 34 = .ok (.iconst 3, 1) := by decide +kernel
theorem dX11_as_35 : decode cX11_as 35 = .ok (.invokevirtual 66, 3) := by decide +kernel
theorem dX11_as_38 : decode cX11_as 38 = .ok (.ireturn, 1) := by decide +kernel
theorem dX11_as_39 : decode cX11_as 39 = .ok (.aload_n 0, 1) := by decide +kernel
theorem dX11_as_40 : decode cX11_as 40 = .ok (.aload_n 0, 1) := by decide +kernel
theorem dX11_as_41 : decode cX11_as 41 = .ok (.getfield 49, 3) := by decide +kernel
theorem dX11_as_44 : decode cX11_as 44 = .ok (.iload_n 1, 1) := by decide +kernel
theorem dX11_as_45 : decode cX11_as 45 = .ok (.aaload, 1) := by decide +kernel
theorem dX11_as_46 : decode cX11_as 46 = .ok (.getfield 260, 3) := by decide +kernel
theorem dX11_as_49 : decode cX11_as 49 = .ok (.invokevirtual 74, 3) := by decide +kernel
theorem dX11_as_52 : decode cX11_as 52 = .ok (.ireturn, 1) := by decide +kernel
set_option maxRecDepth 20000 in
set_option maxHeartbeats 4000000 in
theorem W_X11_as (K : xK) (L : xL) (a0 : Nat) (a1 : Int32) (a2 : Int32) (h : xH) : Sim K L cX11_as RX11 "as" 3 1 (fun q : Int32 × xH => q.2) (xRi cX11_as) 0 [(0, .ref a0), (1, .int a1), (2, .int a2)] [] h (f_X11_as a0 a1 a2 h) := by
  unfold f_X11_as
  refine S_aload_n (pc := 0) 0 rfl dX11_as_0 rfl ?_
  refine S_iload_n (pc := 1) 1 rfl dX11_as_1 rfl ?_
  refine S_call_i (pc := 2) (rest := []) (fun q hq => (x_if hq).elim (fun z => R_V (av := [.int a1]) (q := (RX11, TX11, 12)) (M_X11_isRun _ a0 a1 h z.2) z.1 rfl wd_691 wd_688 wd_690 wd_44 wd_11 ⟨rfl, hd_X11_isRun⟩ ⟨Nat.le_of_ble_eq_true rfl, Nat.le_of_ble_eq_true rfl⟩ rfl (Nat.le_of_ble_eq_true rfl) dX11_as_2) (fun hq => (by cases hq))) (fun _ h => absurd h List.not_mem_nil) (fun q1 => ?_)
  refine S_if_eq (pc := 5) (tgt := 17) dX11_as_5 (by decide) ?_ ?_
  · refine S_ldc (pc := 17) wd_233 dX11_as_17 ?_
    exact Sim.fin ⟨dX11_as_19, rfl, rfl⟩ rfl
  · refine S_iload_n (pc := 8) 2 rfl dX11_as_8 rfl ?_
    refine S_if_lt (pc := 9) (tgt := 17) dX11_as_9 (by decide) ?_ ?_
    · refine S_ldc (pc := 17) wd_233 dX11_as_17 ?_
      exact Sim.fin ⟨dX11_as_19, rfl, rfl⟩ rfl
    · refine S_iload_n (pc := 12) 2 rfl dX11_as_12 rfl ?_
      refine S_iconst (pc := 13) dX11_as_13 ic_5 ?_
      refine S_icmp_le (pc := 14) (tgt := 20) dX11_as_14 (by decide) ?_ ?_
      · refine S_aload_n (pc := 20) 0 rfl dX11_as_20 rfl ?_
        refine S_getR (pc := 21) fd_X11_runs wd_196 dX11_as_21 (fun v2 => ?_)
        refine S_iload_n (pc := 24) 1 rfl dX11_as_24 rfl ?_
        refine S_aR (pc := 25) (fun _ => rfl) dX11_as_25 (fun v3 => ?_)
        refine S_iload_n (pc := 26) 2 rfl dX11_as_26 rfl ?_
        refine S_call_i (pc := 27) (rest := []) (fun q hq => R_S (av := [.ref v3, .int a2]) (M_X11_isOfKind _ v3 a2 q1.2 hq) wd_716 wd_714 wd_715 wd_44 hd_X11_isOfKind ⟨Nat.le_of_ble_eq_true rfl, Nat.le_of_ble_eq_true rfl⟩ rfl (Nat.le_of_ble_eq_true rfl) dX11_as_27) (fun _ h => absurd h List.not_mem_nil) (fun q4 => ?_)
        refine S_if_ne (pc := 30) (tgt := 39) dX11_as_30 (by decide) ?_ ?_
        · refine S_aload_n (pc := 33) 0 rfl dX11_as_33 rfl ?_
          refine S_iconst (pc := 34) dX11_as_34 ic_3 ?_
          refine S_call_i (pc := 35) (rest := []) (fun q hq => (x_if hq).elim (fun z => R_V (av := [.int (3 : Int32)]) (q := (RX11, TX11, 12)) (M_X11_found _ a0 (3 : Int32) q4.2 z.2) z.1 rfl wd_237 wd_234 wd_236 wd_44 wd_0 ⟨rfl, hd_X11_found⟩ ⟨Nat.le_of_ble_eq_true rfl, Nat.le_of_ble_eq_true rfl⟩ rfl (Nat.le_of_ble_eq_true rfl) dX11_as_35) (fun hq => (by cases hq))) (fun _ h => absurd h List.not_mem_nil) (fun q5 => ?_)
          exact Sim.fin ⟨dX11_as_38, rfl, rfl⟩ rfl
        · refine S_aload_n (pc := 39) 0 rfl dX11_as_39 rfl ?_
          refine S_aload_n (pc := 40) 0 rfl dX11_as_40 rfl ?_
          refine S_getR (pc := 41) fd_X11_runs wd_196 dX11_as_41 (fun v6 => ?_)
          refine S_iload_n (pc := 44) 1 rfl dX11_as_44 rfl ?_
          refine S_aR (pc := 45) (fun _ => rfl) dX11_as_45 (fun v7 => ?_)
          refine S_getI (pc := 46) fd_X6_number wd_350 dX11_as_46 (fun v8 => ?_)
          refine S_call_i (pc := 49) (rest := []) (fun q hq => (x_if hq).elim (fun z => R_V (av := [.int v8]) (q := (RX11, TX11, 12)) (M_X11_fine _ a0 v8 q4.2 z.2) z.1 rfl wd_249 wd_246 wd_248 wd_44 wd_1 ⟨rfl, hd_X11_fine⟩ ⟨Nat.le_of_ble_eq_true rfl, Nat.le_of_ble_eq_true rfl⟩ rfl (Nat.le_of_ble_eq_true rfl) dX11_as_49) (fun hq => (by cases hq))) (fun _ h => absurd h List.not_mem_nil) (fun q9 => ?_)
          exact Sim.fin ⟨dX11_as_52, rfl, rfl⟩ rfl
      · refine S_ldc (pc := 17) wd_233 dX11_as_17 ?_
        exact Sim.fin ⟨dX11_as_19, rfl, rfl⟩ rfl
theorem M_X11_as (l : Launch) (a0 : Nat) (a1 : Int32) (a2 : Int32) (h : xH) {q : Int32 × xH} (hq : f_X11_as a0 a1 a2 h = some q) : xM l yX11_as cX11_as 3 (some .int) 1 [.ref a0, .int a1, .int a2] h (some (.int q.1)) q.2 := xM_i (by decide +kernel) (Nat.le_of_ble_eq_true rfl) (fun K L => W_X11_as K L a0 a1 a2 h) hq
theorem dX9_note_0 : decode cX9_note 0 = .ok (.aload_n 0, 1) := by decide +kernel
theorem dX9_note_1 : decode cX9_note 1 = .ok (.getfield 15, 3) := by decide +kernel
theorem dX9_note_4 : decode cX9_note 4 = .ok (.bipush 16, 2) := by decide +kernel
theorem dX9_note_6 : decode cX9_note 6 = .ok (.if_icmp .ge 23, 3) := by decide +kernel
theorem dX9_note_9 : decode cX9_note 9 = .ok (.aload_n 0, 1) := by decide +kernel
theorem dX9_note_10 : decode cX9_note 10 = .ok (.getfield 9, 3) := by decide +kernel
theorem dX9_note_13 : decode cX9_note 13 = .ok (.aload_n 0, 1) := by decide +kernel
theorem dX9_note_14 : decode cX9_note 14 = .ok (.getfield 15, 3) := by decide +kernel
theorem dX9_note_17 : decode cX9_note 17 = .ok (.iload_n 1, 1) := by decide +kernel
theorem dX9_note_18 : decode cX9_note 18 = .ok (.iastore, 1) := by decide +kernel
theorem dX9_note_19 : decode cX9_note 19 = .ok (.aload_n 0, 1) := by decide +kernel
theorem dX9_note_20 : decode cX9_note 20 = .ok (.dup, 1) := by decide +kernel
theorem dX9_note_21 : decode cX9_note 21 = .ok (.getfield 15, 3) := by decide +kernel
theorem dX9_note_24 : decode cX9_note 24 = .ok (.iconst 1, 1) := by decide +kernel
theorem dX9_note_25 : decode cX9_note 25 = .ok (.iadd, 1) := by decide +kernel
theorem dX9_note_26 : decode cX9_note 26 = .ok (.putfield 15, 3) := by decide +kernel
theorem dX9_note_29 : decode cX9_note 29 = .ok (.return_, 1) := by decide +kernel
set_option maxRecDepth 20000 in
set_option maxHeartbeats 4000000 in
theorem W_X9_note (K : xK) (L : xL) (a0 : Nat) (a1 : Int32) (h : xH) : Sim K L cX9_note RX9 "note" 2 0 (fun q : xH => q) (xRv cX9_note) 0 [(0, .ref a0), (1, .int a1)] [] h (f_X9_note a0 a1 h) := by
  unfold f_X9_note
  refine S_aload_n (pc := 0) 0 rfl dX9_note_0 rfl ?_
  refine S_getI (pc := 1) fd_X9_held wd_160 dX9_note_1 (fun v1 => ?_)
  refine S_bipush (pc := 4) dX9_note_4 bi_16 ?_
  refine S_icmp_ge (pc := 6) (tgt := 29) dX9_note_6 (by decide) ?_ ?_
  · exact Sim.fin ⟨dX9_note_29, rfl, rfl⟩ rfl
  · refine S_aload_n (pc := 9) 0 rfl dX9_note_9 rfl ?_
    refine S_getR (pc := 10) fd_X9_numbers wd_158 dX9_note_10 (fun v2 => ?_)
    refine S_aload_n (pc := 13) 0 rfl dX9_note_13 rfl ?_
    refine S_getI (pc := 14) fd_X9_held wd_160 dX9_note_14 (fun v3 => ?_)
    refine S_iload_n (pc := 17) 1 rfl dX9_note_17 rfl ?_
    refine S_uI (pc := 18) dX9_note_18 (fun h4 => ?_)
    refine S_aload_n (pc := 19) 0 rfl dX9_note_19 rfl ?_
    refine S_dup (pc := 20) rfl dX9_note_20 ?_
    refine S_getI (pc := 21) fd_X9_held wd_160 dX9_note_21 (fun v5 => ?_)
    refine S_iconst (pc := 24) dX9_note_24 ic_1 ?_
    refine S_iadd (pc := 25) dX9_note_25 ?_
    refine S_putI (pc := 26) fd_X9_held wd_160 rfl rfl dX9_note_26 (fun h6 => ?_)
    exact Sim.fin ⟨dX9_note_29, rfl, rfl⟩ rfl
theorem M_X9_note (l : Launch) (a0 : Nat) (a1 : Int32) (h : xH) {q : xH} (hq : f_X9_note a0 a1 h = some q) : xM l yX9_note cX9_note 2 none 0 [.ref a0, .int a1] h none q := xM_v (by decide +kernel) (Nat.le_of_ble_eq_true rfl) (fun K L => W_X9_note K L a0 a1 h) hq
theorem dX6_tellSize_0 : decode cX6_tellSize 0 = .ok (.aload_n 1, 1) := by decide +kernel
theorem dX6_tellSize_1 : decode cX6_tellSize 1 = .ok (.bipush 10, 2) := by decide +kernel
theorem dX6_tellSize_3 : decode cX6_tellSize 3 = .ok (.invokevirtual 20, 3) := by decide +kernel
theorem dX6_tellSize_6 : decode cX6_tellSize 6 = .ok (.aload_n 0, 1) := by decide +kernel
theorem dX6_tellSize_7 : decode cX6_tellSize 7 = .ok (.getfield 13, 3) := by decide +kernel
theorem dX6_tellSize_10 : decode cX6_tellSize 10 = .ok (.ireturn, 1) := by decide +kernel
set_option maxRecDepth 20000 in
set_option maxHeartbeats 4000000 in
theorem W_X6_tellSize (K : xK) (L : xL) (a0 : Nat) (a1 : Nat) (h : xH) : Sim K L cX6_tellSize RX6 "tellSize" 2 1 (fun q : Int32 × xH => q.2) (xRi cX6_tellSize) 0 [(0, .ref a0), (1, .ref a1)] [] h (f_X6_tellSize a0 a1 h) := by
  unfold f_X6_tellSize
  refine S_aload_n (pc := 0) 1 rfl dX6_tellSize_0 rfl ?_
  refine S_bipush (pc := 1) dX6_tellSize_1 bi_10 ?_
  refine S_call_v (pc := 3) (rest := []) (fun q hq => (x_if hq).elim (fun z => R_V (av := [.int (10 : Int32)]) (q := (RX9, TX9, 2)) (M_X9_note _ a1 (10 : Int32) h z.2) z.1 rfl wd_730 wd_763 wd_728 wd_48 wd_729 ⟨rfl, hd_X9_note⟩ ⟨Nat.le_of_ble_eq_true rfl, Nat.le_of_ble_eq_true rfl⟩ rfl (Nat.le_of_ble_eq_true rfl) dX6_tellSize_3) (fun hq => (by cases hq))) (fun _ h => absurd h List.not_mem_nil) (fun q1 => ?_)
  refine S_aload_n (pc := 6) 0 rfl dX6_tellSize_6 rfl ?_
  refine S_getI (pc := 7) fd_X6_length wd_351 dX6_tellSize_7 (fun v2 => ?_)
  exact Sim.fin ⟨dX6_tellSize_10, rfl, rfl⟩ rfl
theorem M_X6_tellSize (l : Launch) (a0 : Nat) (a1 : Nat) (h : xH) {q : Int32 × xH} (hq : f_X6_tellSize a0 a1 h = some q) : xM l yX6_tellSize cX6_tellSize 2 (some .int) 1 [.ref a0, .ref a1] h (some (.int q.1)) q.2 := xM_i (by decide +kernel) (Nat.le_of_ble_eq_true rfl) (fun K L => W_X6_tellSize K L a0 a1 h) hq
theorem dX0_tellSize_0 : decode cX0_tellSize 0 = .ok (.aload_n 1, 1) := by decide +kernel
theorem dX0_tellSize_1 : decode cX0_tellSize 1 = .ok (.bipush 13, 2) := by decide +kernel
theorem dX0_tellSize_3 : decode cX0_tellSize 3 = .ok (.invokevirtual 9, 3) := by decide +kernel
theorem dX0_tellSize_6 : decode cX0_tellSize 6 = .ok (.aload_n 0, 1) := by decide +kernel
theorem dX0_tellSize_7 : decode cX0_tellSize 7 = .ok (.aload_n 1, 1) := by decide +kernel
theorem dX0_tellSize_8 : decode cX0_tellSize 8 = .ok (.invokespecial 15, 3) := by decide +kernel
theorem dX0_tellSize_11 : decode cX0_tellSize 11 = .ok (.bipush 100, 2) := by decide +kernel
theorem dX0_tellSize_13 : decode cX0_tellSize 13 = .ok (.isub, 1) := by decide +kernel
theorem dX0_tellSize_14 : decode cX0_tellSize 14 = .ok (.ireturn, 1) := by decide +kernel
set_option maxRecDepth 20000 in
set_option maxHeartbeats 4000000 in
theorem W_X0_tellSize (K : xK) (L : xL) (a0 : Nat) (a1 : Nat) (h : xH) : Sim K L cX0_tellSize RX0 "tellSize" 2 2 (fun q : Int32 × xH => q.2) (xRi cX0_tellSize) 0 [(0, .ref a0), (1, .ref a1)] [] h (f_X0_tellSize a0 a1 h) := by
  unfold f_X0_tellSize
  refine S_aload_n (pc := 0) 1 rfl dX0_tellSize_0 rfl ?_
  refine S_bipush (pc := 1) dX0_tellSize_1 bi_13 ?_
  refine S_call_v (pc := 3) (rest := []) (fun q hq => (x_if hq).elim (fun z => R_V (av := [.int (13 : Int32)]) (q := (RX9, TX9, 2)) (M_X9_note _ a1 (13 : Int32) h z.2) z.1 rfl wd_730 wd_727 wd_728 wd_48 wd_729 ⟨rfl, hd_X9_note⟩ ⟨Nat.le_of_ble_eq_true rfl, Nat.le_of_ble_eq_true rfl⟩ rfl (Nat.le_of_ble_eq_true rfl) dX0_tellSize_3) (fun hq => (by cases hq))) (fun _ h => absurd h List.not_mem_nil) (fun q1 => ?_)
  refine S_aload_n (pc := 6) 0 rfl dX0_tellSize_6 rfl ?_
  refine S_aload_n (pc := 7) 1 rfl dX0_tellSize_7 rfl ?_
  refine S_call_i (pc := 8) (rest := []) (fun q hq => (x_if hq).elim (fun z => R_SU (av := [.ref a1]) (q := (RX0, TX0, 2)) (M_X6_tellSize _ a0 a1 q1 z.2) z.1 rfl wd_775 wd_731 wd_722 wd_53 wd_723 wd_375 ⟨by decide, hd_X6_tellSize.2.2⟩ ⟨Nat.le_of_ble_eq_true rfl, Nat.le_of_ble_eq_true rfl⟩ rfl (Nat.le_of_ble_eq_true rfl) dX0_tellSize_8) (fun hq => (x_if hq).elim (fun z => R_SU (av := [.ref a1]) (q := (RX2, TX2, 2)) (M_X6_tellSize _ a0 a1 q1 z.2) z.1 rfl wd_775 wd_731 wd_722 wd_53 wd_723 wd_375 ⟨by decide, hd_X6_tellSize.2.2⟩ ⟨Nat.le_of_ble_eq_true rfl, Nat.le_of_ble_eq_true rfl⟩ rfl (Nat.le_of_ble_eq_true rfl) dX0_tellSize_8) (fun hq => (by cases hq)))) (fun _ h => absurd h List.not_mem_nil) (fun q2 => ?_)
  refine S_bipush (pc := 11) dX0_tellSize_11 bi_100 ?_
  refine S_isub (pc := 13) dX0_tellSize_13 ?_
  exact Sim.fin ⟨dX0_tellSize_14, rfl, rfl⟩ rfl
theorem M_X0_tellSize (l : Launch) (a0 : Nat) (a1 : Nat) (h : xH) {q : Int32 × xH} (hq : f_X0_tellSize a0 a1 h = some q) : xM l yX0_tellSize cX0_tellSize 2 (some .int) 2 [.ref a0, .ref a1] h (some (.int q.1)) q.2 := xM_i (by decide +kernel) (Nat.le_of_ble_eq_true rfl) (fun K L => W_X0_tellSize K L a0 a1 h) hq
