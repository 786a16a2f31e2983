section XROWS
variable {ρ : Type} {K : xK} {L : xL} {nm : String} {nL d : Nat} {hp : ρ → xH} {E : xE ρ} {pc : Nat} {ls ls' : List (Nat × Value)} {st : List Value} {h : xH} {X A B : Option ρ} {cc : ByteArray} {own : String}
theorem xct {n : Nat} {v : Value} {st : List Value} (h : ∀ w ∈ v :: st, xcv n w) : ∀ w ∈ st, xcv n w := fun w hw => h w (List.mem_cons_of_mem _ hw)
theorem xch {n : Nat} {v : Value} {st : List Value} (h : ∀ w ∈ v :: st, xcv n w) : xcv n v := h v List.mem_cons_self
theorem xcc {n : Nat} {v : Value} {st : List Value} (hv : xcv n v) (h : ∀ w ∈ st, xcv n w) : ∀ w ∈ v :: st, xcv n w := fun w hw => (List.mem_cons.mp hw).elim (fun e => e ▸ hv) (h w)
theorem xls {n i : Nat} {v : Value} {ls ls' : List (Nat × Value)} {P : Nat × Value → Bool} (hl : (i, v) :: ls.filter P = ls') (hv : xcv n v) (h : ∀ q ∈ ls, xcv n q.2) : ∀ q ∈ ls', xcv n q.2 := by
  rw [← hl]
  intro q hq
  rcases List.mem_cons.mp hq with e | e
  · rw [e]; exact hv
  · exact h q (List.mem_filter.mp e).1
theorem S_iconst {n : Int} {v : Int32} (hdg : decode cc pc = .ok (.iconst n, 1)) (hv : Int32.ofInt n = v) (k : Sim K L cc own nm nL d hp E (pc + 1) ls (.int v :: st) h X) : Sim K L cc own nm nL d hp E pc ls st h X := by
  obtain ⟨p, l, e, s, m, args, below, meth, c⟩ := K
  obtain ⟨D, tA, base, ro, rd, ad0, n0, z0⟩ := L
  refine Sim.step0 (fun C R Q _ _ _ _ k ad H locs lsA hI hc hl => ?_) k
  obtain ⟨hx, hb, hml, hown, hts, hG, hnm⟩ := C
  exact lv_iconst hx hb hdg hv (k ad H locs lsA hI ⟨hc.1, xcc xcv_i hc.2⟩ hl)
theorem S_bipush {n : Int} {v : Int32} (hdg : decode cc pc = .ok (.bipush n, 2)) (hv : (Int8.ofInt n).toInt32 = v) (k : Sim K L cc own nm nL d hp E (pc + 2) ls (.int v :: st) h X) : Sim K L cc own nm nL d hp E pc ls st h X := by
  obtain ⟨p, l, e, s, m, args, below, meth, c⟩ := K
  obtain ⟨D, tA, base, ro, rd, ad0, n0, z0⟩ := L
  refine Sim.step0 (fun C R Q _ _ _ _ k ad H locs lsA hI hc hl => ?_) k
  obtain ⟨hx, hb, hml, hown, hts, hG, hnm⟩ := C
  exact lv_bipush hx hb hdg hv (k ad H locs lsA hI ⟨hc.1, xcc xcv_i hc.2⟩ hl)
theorem S_sipush {n : Int} {v : Int32} (hdg : decode cc pc = .ok (.sipush n, 3)) (hv : (Int16.ofInt n).toInt32 = v) (k : Sim K L cc own nm nL d hp E (pc + 3) ls (.int v :: st) h X) : Sim K L cc own nm nL d hp E pc ls st h X := by
  obtain ⟨p, l, e, s, m, args, below, meth, c⟩ := K
  obtain ⟨D, tA, base, ro, rd, ad0, n0, z0⟩ := L
  refine Sim.step0 (fun C R Q _ _ _ _ k ad H locs lsA hI hc hl => ?_) k
  obtain ⟨hx, hb, hml, hown, hts, hG, hnm⟩ := C
  exact lv_sipush hx hb hdg hv (k ad H locs lsA hI ⟨hc.1, xcc xcv_i hc.2⟩ hl)
theorem S_lconst {n : Fin 2} {v : Int64} (hdg : decode cc pc = .ok (.lconst n, 1)) (hv : Int64.ofNat (n : Nat) = v) (k : Sim K L cc own nm nL d hp E (pc + 1) ls (.long v :: st) h X) : Sim K L cc own nm nL d hp E pc ls st h X := by
  obtain ⟨p, l, e, s, m, args, below, meth, c⟩ := K
  obtain ⟨D, tA, base, ro, rd, ad0, n0, z0⟩ := L
  refine Sim.step0 (fun C R Q _ _ _ _ k ad H locs lsA hI hc hl => ?_) k
  obtain ⟨hx, hb, hml, hown, hts, hG, hnm⟩ := C
  exact lv_lconst hx hb hdg hv (k ad H locs lsA hI ⟨hc.1, xcc xcv_l hc.2⟩ hl)
theorem S_ldc {i : Nat} {v : Int32} (wd : (Cond.constant own i v) ∈ lw_gd) (hdg : decode cc pc = .ok (.ldc i, 2)) (k : Sim K L cc own nm nL d hp E (pc + 2) ls (.int v :: st) h X) : Sim K L cc own nm nL d hp E pc ls st h X := by
  obtain ⟨p, l, e, s, m, args, below, meth, c⟩ := K
  obtain ⟨D, tA, base, ro, rd, ad0, n0, z0⟩ := L
  refine Sim.step0 (fun C R Q _ _ _ _ k ad H locs lsA hI hc hl => ?_) k
  obtain ⟨hx, hb, hml, hown, hts, hG, hnm⟩ := C
  exact lv_ldc hx hb hown (hts _ wd) hdg (k ad H locs lsA hI ⟨hc.1, xcc xcv_i hc.2⟩ hl)
theorem S_ldcw {i : Nat} {v : Int32} (wd : (Cond.constant own i v) ∈ lw_gd) (hdg : decode cc pc = .ok (.ldc_w i, 3)) (k : Sim K L cc own nm nL d hp E (pc + 3) ls (.int v :: st) h X) : Sim K L cc own nm nL d hp E pc ls st h X := by
  obtain ⟨p, l, e, s, m, args, below, meth, c⟩ := K
  obtain ⟨D, tA, base, ro, rd, ad0, n0, z0⟩ := L
  refine Sim.step0 (fun C R Q _ _ _ _ k ad H locs lsA hI hc hl => ?_) k
  obtain ⟨hx, hb, hml, hown, hts, hG, hnm⟩ := C
  exact lv_ldcw hx hb hown (hts _ wd) hdg (k ad H locs lsA hI ⟨hc.1, xcc xcv_i hc.2⟩ hl)
theorem S_ldc2 {i : Nat} {v : Int64} (wd : (Cond.constantLong own i v) ∈ lw_gd) (hdg : decode cc pc = .ok (.ldc2_w i, 3)) (k : Sim K L cc own nm nL d hp E (pc + 3) ls (.long v :: st) h X) : Sim K L cc own nm nL d hp E pc ls st h X := by
  obtain ⟨p, l, e, s, m, args, below, meth, c⟩ := K
  obtain ⟨D, tA, base, ro, rd, ad0, n0, z0⟩ := L
  refine Sim.step0 (fun C R Q _ _ _ _ k ad H locs lsA hI hc hl => ?_) k
  obtain ⟨hx, hb, hml, hown, hts, hG, hnm⟩ := C
  exact lv_ldc2 hx hb hown (hts _ wd) hdg (k ad H locs lsA hI ⟨hc.1, xcc xcv_l hc.2⟩ hl)
theorem S_null (hdg : decode cc pc = .ok (.aconst_null, 1)) (k : Sim K L cc own nm nL d hp E (pc + 1) ls (.null :: st) h X) : Sim K L cc own nm nL d hp E pc ls st h X := by
  obtain ⟨p, l, e, s, m, args, below, meth, c⟩ := K
  obtain ⟨D, tA, base, ro, rd, ad0, n0, z0⟩ := L
  refine Sim.step0 (fun C R Q _ _ _ _ k ad H locs lsA hI hc hl => ?_) k
  obtain ⟨hx, hb, hml, hown, hts, hG, hnm⟩ := C
  exact lv_null hx hb hdg (k ad H locs lsA hI ⟨hc.1, xcc xcv_n hc.2⟩ hl)
theorem S_iload_n {n : Fin 4} {i : Nat} {x : Int32} (j : Nat) (hj : ls[j]? = some (i, .int x)) (hdg : decode cc pc = .ok (.iload_n n, 1)) (hi : (n : Nat) = i) (k : Sim K L cc own nm nL d hp E (pc + 1) ls (.int x :: st) h X) : Sim K L cc own nm nL d hp E pc ls st h X := by
  obtain ⟨p, l, e, s, m, args, below, meth, c⟩ := K
  obtain ⟨D, tA, base, ro, rd, ad0, n0, z0⟩ := L
  refine Sim.step0 (fun C R Q _ _ _ _ k ad H locs lsA hI hc hl => ?_) k
  obtain ⟨hx, hb, hml, hown, hts, hG, hnm⟩ := C
  exact lv_iload_n hx hb hdg hi (lv_at hl j (xl_at hj)) (k ad H locs lsA hI ⟨hc.1, xcc (hc.1 _ (List.mem_of_getElem? hj)) hc.2⟩ hl)
theorem S_iload {i : Nat} {x : Int32} (j : Nat) (hj : ls[j]? = some (i, .int x)) (hdg : decode cc pc = .ok (.iload i, 2)) (k : Sim K L cc own nm nL d hp E (pc + 2) ls (.int x :: st) h X) : Sim K L cc own nm nL d hp E pc ls st h X := by
  obtain ⟨p, l, e, s, m, args, below, meth, c⟩ := K
  obtain ⟨D, tA, base, ro, rd, ad0, n0, z0⟩ := L
  refine Sim.step0 (fun C R Q _ _ _ _ k ad H locs lsA hI hc hl => ?_) k
  obtain ⟨hx, hb, hml, hown, hts, hG, hnm⟩ := C
  exact lv_iload hx hb hdg (lv_at hl j (xl_at hj)) (k ad H locs lsA hI ⟨hc.1, xcc (hc.1 _ (List.mem_of_getElem? hj)) hc.2⟩ hl)
theorem S_lload_n {n : Fin 4} {i : Nat} {x : Int64} (j : Nat) (hj : ls[j]? = some (i, .long x)) (hdg : decode cc pc = .ok (.lload_n n, 1)) (hi : (n : Nat) = i) (k : Sim K L cc own nm nL d hp E (pc + 1) ls (.long x :: st) h X) : Sim K L cc own nm nL d hp E pc ls st h X := by
  obtain ⟨p, l, e, s, m, args, below, meth, c⟩ := K
  obtain ⟨D, tA, base, ro, rd, ad0, n0, z0⟩ := L
  refine Sim.step0 (fun C R Q _ _ _ _ k ad H locs lsA hI hc hl => ?_) k
  obtain ⟨hx, hb, hml, hown, hts, hG, hnm⟩ := C
  exact lv_lload_n hx hb hdg hi (lv_at hl j (xl_at hj)) (k ad H locs lsA hI ⟨hc.1, xcc (hc.1 _ (List.mem_of_getElem? hj)) hc.2⟩ hl)
theorem S_lload {i : Nat} {x : Int64} (j : Nat) (hj : ls[j]? = some (i, .long x)) (hdg : decode cc pc = .ok (.lload i, 2)) (k : Sim K L cc own nm nL d hp E (pc + 2) ls (.long x :: st) h X) : Sim K L cc own nm nL d hp E pc ls st h X := by
  obtain ⟨p, l, e, s, m, args, below, meth, c⟩ := K
  obtain ⟨D, tA, base, ro, rd, ad0, n0, z0⟩ := L
  refine Sim.step0 (fun C R Q _ _ _ _ k ad H locs lsA hI hc hl => ?_) k
  obtain ⟨hx, hb, hml, hown, hts, hG, hnm⟩ := C
  exact lv_lload hx hb hdg (lv_at hl j (xl_at hj)) (k ad H locs lsA hI ⟨hc.1, xcc (hc.1 _ (List.mem_of_getElem? hj)) hc.2⟩ hl)
theorem S_aload_n {n : Fin 4} {i : Nat} {x : Nat} (j : Nat) (hj : ls[j]? = some (i, .ref x)) (hdg : decode cc pc = .ok (.aload_n n, 1)) (hi : (n : Nat) = i) (k : Sim K L cc own nm nL d hp E (pc + 1) ls (.ref x :: st) h X) : Sim K L cc own nm nL d hp E pc ls st h X := by
  obtain ⟨p, l, e, s, m, args, below, meth, c⟩ := K
  obtain ⟨D, tA, base, ro, rd, ad0, n0, z0⟩ := L
  refine Sim.step0 (fun C R Q _ _ _ _ k ad H locs lsA hI hc hl => ?_) k
  obtain ⟨hx, hb, hml, hown, hts, hG, hnm⟩ := C
  exact lv_aload_n hx hb hdg hi (lv_at hl j (xl_at hj)) (k ad H locs lsA hI ⟨hc.1, xcc (hc.1 _ (List.mem_of_getElem? hj)) hc.2⟩ hl)
theorem S_aload {i : Nat} {x : Nat} (j : Nat) (hj : ls[j]? = some (i, .ref x)) (hdg : decode cc pc = .ok (.aload i, 2)) (k : Sim K L cc own nm nL d hp E (pc + 2) ls (.ref x :: st) h X) : Sim K L cc own nm nL d hp E pc ls st h X := by
  obtain ⟨p, l, e, s, m, args, below, meth, c⟩ := K
  obtain ⟨D, tA, base, ro, rd, ad0, n0, z0⟩ := L
  refine Sim.step0 (fun C R Q _ _ _ _ k ad H locs lsA hI hc hl => ?_) k
  obtain ⟨hx, hb, hml, hown, hts, hG, hnm⟩ := C
  exact lv_aload hx hb hdg (lv_at hl j (xl_at hj)) (k ad H locs lsA hI ⟨hc.1, xcc (hc.1 _ (List.mem_of_getElem? hj)) hc.2⟩ hl)
theorem S_istore_n {n : Fin 4} {i : Nat} {x : Int32} (hdg : decode cc pc = .ok (.istore_n n, 1)) (hi : (n : Nat) = i) (hn : i < nL) (hl' : (i, Value.int x) :: ls.filter (fun q => !(q.1 == i) && !(q.1 + 1 == i && q.2.category == 2)) = ls') (k : Sim K L cc own nm nL d hp E (pc + 1) ls' st h X) : Sim K L cc own nm nL d hp E pc ls (.int x :: st) h X := by
  obtain ⟨p, l, e, s, m, args, below, meth, c⟩ := K
  obtain ⟨D, tA, base, ro, rd, ad0, n0, z0⟩ := L
  refine Sim.step0 (fun C R Q _ _ _ _ k ad H locs lsA hI hc hl => ?_) k
  obtain ⟨hx, hb, hml, hown, hts, hG, hnm⟩ := C
  exact lv_istore_n (lv' := xl ad ls') hx hb hdg hi hl hn (by rw [xl_filter, ← hl']; rfl) (fun lsB hl2 => k ad H locs lsB hI ⟨xls hl' (xch hc.2) hc.1, xct hc.2⟩ hl2)
theorem S_istore {i : Nat} {x : Int32} (hdg : decode cc pc = .ok (.istore i, 2)) (hn : i < nL) (hl' : (i, Value.int x) :: ls.filter (fun q => !(q.1 == i) && !(q.1 + 1 == i && q.2.category == 2)) = ls') (k : Sim K L cc own nm nL d hp E (pc + 2) ls' st h X) : Sim K L cc own nm nL d hp E pc ls (.int x :: st) h X := by
  obtain ⟨p, l, e, s, m, args, below, meth, c⟩ := K
  obtain ⟨D, tA, base, ro, rd, ad0, n0, z0⟩ := L
  refine Sim.step0 (fun C R Q _ _ _ _ k ad H locs lsA hI hc hl => ?_) k
  obtain ⟨hx, hb, hml, hown, hts, hG, hnm⟩ := C
  exact lv_istore (lv' := xl ad ls') hx hb hdg hl hn (by rw [xl_filter, ← hl']; rfl) (fun lsB hl2 => k ad H locs lsB hI ⟨xls hl' (xch hc.2) hc.1, xct hc.2⟩ hl2)
theorem S_lstore_n {n : Fin 4} {i : Nat} {x : Int64} (hdg : decode cc pc = .ok (.lstore_n n, 1)) (hi : (n : Nat) = i) (hn : i + 1 < nL) (hl' : (i, Value.long x) :: ls.filter (fun q => !(q.1 == i) && (!(q.1 == i + 1) && !(q.1 + 1 == i && q.2.category == 2))) = ls') (k : Sim K L cc own nm nL d hp E (pc + 1) ls' st h X) : Sim K L cc own nm nL d hp E pc ls (.long x :: st) h X := by
  obtain ⟨p, l, e, s, m, args, below, meth, c⟩ := K
  obtain ⟨D, tA, base, ro, rd, ad0, n0, z0⟩ := L
  refine Sim.step0 (fun C R Q _ _ _ _ k ad H locs lsA hI hc hl => ?_) k
  obtain ⟨hx, hb, hml, hown, hts, hG, hnm⟩ := C
  exact lv_lstore_n (lv' := xl ad ls') hx hb hdg hi hl hn (by rw [xl_filter2, ← hl']; rfl) (fun lsB hl2 => k ad H locs lsB hI ⟨xls hl' (xch hc.2) hc.1, xct hc.2⟩ hl2)
theorem S_lstore {i : Nat} {x : Int64} (hdg : decode cc pc = .ok (.lstore i, 2)) (hn : i + 1 < nL) (hl' : (i, Value.long x) :: ls.filter (fun q => !(q.1 == i) && (!(q.1 == i + 1) && !(q.1 + 1 == i && q.2.category == 2))) = ls') (k : Sim K L cc own nm nL d hp E (pc + 2) ls' st h X) : Sim K L cc own nm nL d hp E pc ls (.long x :: st) h X := by
  obtain ⟨p, l, e, s, m, args, below, meth, c⟩ := K
  obtain ⟨D, tA, base, ro, rd, ad0, n0, z0⟩ := L
  refine Sim.step0 (fun C R Q _ _ _ _ k ad H locs lsA hI hc hl => ?_) k
  obtain ⟨hx, hb, hml, hown, hts, hG, hnm⟩ := C
  exact lv_lstore (lv' := xl ad ls') hx hb hdg hl hn (by rw [xl_filter2, ← hl']; rfl) (fun lsB hl2 => k ad H locs lsB hI ⟨xls hl' (xch hc.2) hc.1, xct hc.2⟩ hl2)
theorem S_astore_n {n : Fin 4} {i : Nat} {x : Nat} (hdg : decode cc pc = .ok (.astore_n n, 1)) (hi : (n : Nat) = i) (hn : i < nL) (hl' : (i, Value.ref x) :: ls.filter (fun q => !(q.1 == i) && !(q.1 + 1 == i && q.2.category == 2)) = ls') (k : Sim K L cc own nm nL d hp E (pc + 1) ls' st h X) : Sim K L cc own nm nL d hp E pc ls (.ref x :: st) h X := by
  obtain ⟨p, l, e, s, m, args, below, meth, c⟩ := K
  obtain ⟨D, tA, base, ro, rd, ad0, n0, z0⟩ := L
  refine Sim.step0 (fun C R Q _ _ _ _ k ad H locs lsA hI hc hl => ?_) k
  obtain ⟨hx, hb, hml, hown, hts, hG, hnm⟩ := C
  exact lv_astore_n (lv' := xl ad ls') hx hb hdg hi hl hn (by rw [xl_filter, ← hl']; rfl) (fun lsB hl2 => k ad H locs lsB hI ⟨xls hl' (xch hc.2) hc.1, xct hc.2⟩ hl2)
theorem S_astore {i : Nat} {x : Nat} (hdg : decode cc pc = .ok (.astore i, 2)) (hn : i < nL) (hl' : (i, Value.ref x) :: ls.filter (fun q => !(q.1 == i) && !(q.1 + 1 == i && q.2.category == 2)) = ls') (k : Sim K L cc own nm nL d hp E (pc + 2) ls' st h X) : Sim K L cc own nm nL d hp E pc ls (.ref x :: st) h X := by
  obtain ⟨p, l, e, s, m, args, below, meth, c⟩ := K
  obtain ⟨D, tA, base, ro, rd, ad0, n0, z0⟩ := L
  refine Sim.step0 (fun C R Q _ _ _ _ k ad H locs lsA hI hc hl => ?_) k
  obtain ⟨hx, hb, hml, hown, hts, hG, hnm⟩ := C
  exact lv_astore (lv' := xl ad ls') hx hb hdg hl hn (by rw [xl_filter, ← hl']; rfl) (fun lsB hl2 => k ad H locs lsB hI ⟨xls hl' (xch hc.2) hc.1, xct hc.2⟩ hl2)
theorem S_iinc {i : Nat} {n : Int} {x v : Int32} (j : Nat) (hj : ls[j]? = some (i, .int x)) (hdg : decode cc pc = .ok (.iinc i n, 3)) (hv : x + Int32.ofInt n = v) (hn : i < nL) (hl' : (i, Value.int v) :: ls.filter (fun q => !(q.1 == i) && !(q.1 + 1 == i && q.2.category == 2)) = ls') (k : Sim K L cc own nm nL d hp E (pc + 3) ls' st h X) : Sim K L cc own nm nL d hp E pc ls st h X := by
  obtain ⟨p, l, e, s, m, args, below, meth, c⟩ := K
  obtain ⟨D, tA, base, ro, rd, ad0, n0, z0⟩ := L
  refine Sim.step0 (fun C R Q _ _ _ _ k ad H locs lsA hI hc hl => ?_) k
  obtain ⟨hx, hb, hml, hown, hts, hG, hnm⟩ := C
  exact lv_iinc (lv' := xl ad ls') hx hb hdg hl (k := j) (xl_at hj) hv hn (by rw [xl_filter, ← hl']; rfl) (fun lsB hl2 => k ad H locs lsB hI ⟨xls hl' xcv_i hc.1, hc.2⟩ hl2)
theorem S_iadd {x y : Int32} (hdg : decode cc pc = .ok (.iadd, 1)) (k : Sim K L cc own nm nL d hp E (pc + 1) ls (.int (x + y) :: st) h X) : Sim K L cc own nm nL d hp E pc ls (.int y :: .int x :: st) h X := by
  obtain ⟨p, l, e, s, m, args, below, meth, c⟩ := K
  obtain ⟨D, tA, base, ro, rd, ad0, n0, z0⟩ := L
  refine Sim.step0 (fun C R Q _ _ _ _ k ad H locs lsA hI hc hl => ?_) k
  obtain ⟨hx, hb, hml, hown, hts, hG, hnm⟩ := C
  exact lv_iadd hx hb hdg (k ad H locs lsA hI ⟨hc.1, xcc xcv_i (xct (xct hc.2))⟩ hl)
theorem S_isub {x y : Int32} (hdg : decode cc pc = .ok (.isub, 1)) (k : Sim K L cc own nm nL d hp E (pc + 1) ls (.int (x - y) :: st) h X) : Sim K L cc own nm nL d hp E pc ls (.int y :: .int x :: st) h X := by
  obtain ⟨p, l, e, s, m, args, below, meth, c⟩ := K
  obtain ⟨D, tA, base, ro, rd, ad0, n0, z0⟩ := L
  refine Sim.step0 (fun C R Q _ _ _ _ k ad H locs lsA hI hc hl => ?_) k
  obtain ⟨hx, hb, hml, hown, hts, hG, hnm⟩ := C
  exact lv_isub hx hb hdg (k ad H locs lsA hI ⟨hc.1, xcc xcv_i (xct (xct hc.2))⟩ hl)
theorem S_imul {x y : Int32} (hdg : decode cc pc = .ok (.imul, 1)) (k : Sim K L cc own nm nL d hp E (pc + 1) ls (.int (x * y) :: st) h X) : Sim K L cc own nm nL d hp E pc ls (.int y :: .int x :: st) h X := by
  obtain ⟨p, l, e, s, m, args, below, meth, c⟩ := K
  obtain ⟨D, tA, base, ro, rd, ad0, n0, z0⟩ := L
  refine Sim.step0 (fun C R Q _ _ _ _ k ad H locs lsA hI hc hl => ?_) k
  obtain ⟨hx, hb, hml, hown, hts, hG, hnm⟩ := C
  exact lv_imul hx hb hdg (k ad H locs lsA hI ⟨hc.1, xcc xcv_i (xct (xct hc.2))⟩ hl)
theorem S_iand {x y : Int32} (hdg : decode cc pc = .ok (.iand, 1)) (k : Sim K L cc own nm nL d hp E (pc + 1) ls (.int (x &&& y) :: st) h X) : Sim K L cc own nm nL d hp E pc ls (.int y :: .int x :: st) h X := by
  obtain ⟨p, l, e, s, m, args, below, meth, c⟩ := K
  obtain ⟨D, tA, base, ro, rd, ad0, n0, z0⟩ := L
  refine Sim.step0 (fun C R Q _ _ _ _ k ad H locs lsA hI hc hl => ?_) k
  obtain ⟨hx, hb, hml, hown, hts, hG, hnm⟩ := C
  exact lv_iand hx hb hdg (k ad H locs lsA hI ⟨hc.1, xcc xcv_i (xct (xct hc.2))⟩ hl)
theorem S_ior {x y : Int32} (hdg : decode cc pc = .ok (.ior, 1)) (k : Sim K L cc own nm nL d hp E (pc + 1) ls (.int (x ||| y) :: st) h X) : Sim K L cc own nm nL d hp E pc ls (.int y :: .int x :: st) h X := by
  obtain ⟨p, l, e, s, m, args, below, meth, c⟩ := K
  obtain ⟨D, tA, base, ro, rd, ad0, n0, z0⟩ := L
  refine Sim.step0 (fun C R Q _ _ _ _ k ad H locs lsA hI hc hl => ?_) k
  obtain ⟨hx, hb, hml, hown, hts, hG, hnm⟩ := C
  exact lv_ior hx hb hdg (k ad H locs lsA hI ⟨hc.1, xcc xcv_i (xct (xct hc.2))⟩ hl)
theorem S_ixor {x y : Int32} (hdg : decode cc pc = .ok (.ixor, 1)) (k : Sim K L cc own nm nL d hp E (pc + 1) ls (.int (x ^^^ y) :: st) h X) : Sim K L cc own nm nL d hp E pc ls (.int y :: .int x :: st) h X := by
  obtain ⟨p, l, e, s, m, args, below, meth, c⟩ := K
  obtain ⟨D, tA, base, ro, rd, ad0, n0, z0⟩ := L
  refine Sim.step0 (fun C R Q _ _ _ _ k ad H locs lsA hI hc hl => ?_) k
  obtain ⟨hx, hb, hml, hown, hts, hG, hnm⟩ := C
  exact lv_ixor hx hb hdg (k ad H locs lsA hI ⟨hc.1, xcc xcv_i (xct (xct hc.2))⟩ hl)
theorem S_ishl {x y : Int32} (hdg : decode cc pc = .ok (.ishl, 1)) (k : Sim K L cc own nm nL d hp E (pc + 1) ls (.int (x <<< (y &&& 31)) :: st) h X) : Sim K L cc own nm nL d hp E pc ls (.int y :: .int x :: st) h X := by
  obtain ⟨p, l, e, s, m, args, below, meth, c⟩ := K
  obtain ⟨D, tA, base, ro, rd, ad0, n0, z0⟩ := L
  refine Sim.step0 (fun C R Q _ _ _ _ k ad H locs lsA hI hc hl => ?_) k
  obtain ⟨hx, hb, hml, hown, hts, hG, hnm⟩ := C
  exact lv_ishl hx hb hdg (k ad H locs lsA hI ⟨hc.1, xcc xcv_i (xct (xct hc.2))⟩ hl)
theorem S_ishr {x y : Int32} (hdg : decode cc pc = .ok (.ishr, 1)) (k : Sim K L cc own nm nL d hp E (pc + 1) ls (.int (x >>> (y &&& 31)) :: st) h X) : Sim K L cc own nm nL d hp E pc ls (.int y :: .int x :: st) h X := by
  obtain ⟨p, l, e, s, m, args, below, meth, c⟩ := K
  obtain ⟨D, tA, base, ro, rd, ad0, n0, z0⟩ := L
  refine Sim.step0 (fun C R Q _ _ _ _ k ad H locs lsA hI hc hl => ?_) k
  obtain ⟨hx, hb, hml, hown, hts, hG, hnm⟩ := C
  exact lv_ishr hx hb hdg (k ad H locs lsA hI ⟨hc.1, xcc xcv_i (xct (xct hc.2))⟩ hl)
theorem S_iushr {x y : Int32} (hdg : decode cc pc = .ok (.iushr, 1)) (k : Sim K L cc own nm nL d hp E (pc + 1) ls (.int ((x.toUInt32 >>> (y.toUInt32 &&& Int32.toUInt32 31)).toInt32) :: st) h X) : Sim K L cc own nm nL d hp E pc ls (.int y :: .int x :: st) h X := by
  obtain ⟨p, l, e, s, m, args, below, meth, c⟩ := K
  obtain ⟨D, tA, base, ro, rd, ad0, n0, z0⟩ := L
  refine Sim.step0 (fun C R Q _ _ _ _ k ad H locs lsA hI hc hl => ?_) k
  obtain ⟨hx, hb, hml, hown, hts, hG, hnm⟩ := C
  exact lv_iushr hx hb hdg rfl (k ad H locs lsA hI ⟨hc.1, xcc xcv_i (xct (xct hc.2))⟩ hl)
theorem S_idiv {x y : Int32} (hne : ¬ y = 0) (hdg : decode cc pc = .ok (.idiv, 1)) (k : Sim K L cc own nm nL d hp E (pc + 1) ls (.int (x / y) :: st) h X) : Sim K L cc own nm nL d hp E pc ls (.int y :: .int x :: st) h X := by
  obtain ⟨p, l, e, s, m, args, below, meth, c⟩ := K
  obtain ⟨D, tA, base, ro, rd, ad0, n0, z0⟩ := L
  refine Sim.step0 (fun C R Q _ _ _ _ k ad H locs lsA hI hc hl => ?_) k
  obtain ⟨hx, hb, hml, hown, hts, hG, hnm⟩ := C
  exact lv_idiv hx hb hdg hne (k ad H locs lsA hI ⟨hc.1, xcc xcv_i (xct (xct hc.2))⟩ hl)
theorem S_irem {x y : Int32} (hne : ¬ y = 0) (hdg : decode cc pc = .ok (.irem, 1)) (k : Sim K L cc own nm nL d hp E (pc + 1) ls (.int (x - x / y * y) :: st) h X) : Sim K L cc own nm nL d hp E pc ls (.int y :: .int x :: st) h X := by
  obtain ⟨p, l, e, s, m, args, below, meth, c⟩ := K
  obtain ⟨D, tA, base, ro, rd, ad0, n0, z0⟩ := L
  refine Sim.step0 (fun C R Q _ _ _ _ k ad H locs lsA hI hc hl => ?_) k
  obtain ⟨hx, hb, hml, hown, hts, hG, hnm⟩ := C
  exact lv_irem hx hb hdg hne (k ad H locs lsA hI ⟨hc.1, xcc xcv_i (xct (xct hc.2))⟩ hl)
theorem S_lrem {x y : Int64} (hne : ¬ y = 0) (hdg : decode cc pc = .ok (.lrem, 1)) (k : Sim K L cc own nm nL d hp E (pc + 1) ls (.long (x - x / y * y) :: st) h X) : Sim K L cc own nm nL d hp E pc ls (.long y :: .long x :: st) h X := by
  obtain ⟨p, l, e, s, m, args, below, meth, c⟩ := K
  obtain ⟨D, tA, base, ro, rd, ad0, n0, z0⟩ := L
  refine Sim.step0 (fun C R Q _ _ _ _ k ad H locs lsA hI hc hl => ?_) k
  obtain ⟨hx, hb, hml, hown, hts, hG, hnm⟩ := C
  exact lv_lrem hx hb hdg hne (k ad H locs lsA hI ⟨hc.1, xcc xcv_l (xct (xct hc.2))⟩ hl)
theorem S_ladd {x y : Int64} (hdg : decode cc pc = .ok (.ladd, 1)) (k : Sim K L cc own nm nL d hp E (pc + 1) ls (.long (x + y) :: st) h X) : Sim K L cc own nm nL d hp E pc ls (.long y :: .long x :: st) h X := by
  obtain ⟨p, l, e, s, m, args, below, meth, c⟩ := K
  obtain ⟨D, tA, base, ro, rd, ad0, n0, z0⟩ := L
  refine Sim.step0 (fun C R Q _ _ _ _ k ad H locs lsA hI hc hl => ?_) k
  obtain ⟨hx, hb, hml, hown, hts, hG, hnm⟩ := C
  exact lv_ladd hx hb hdg (k ad H locs lsA hI ⟨hc.1, xcc xcv_l (xct (xct hc.2))⟩ hl)
theorem S_lsub {x y : Int64} (hdg : decode cc pc = .ok (.lsub, 1)) (k : Sim K L cc own nm nL d hp E (pc + 1) ls (.long (x - y) :: st) h X) : Sim K L cc own nm nL d hp E pc ls (.long y :: .long x :: st) h X := by
  obtain ⟨p, l, e, s, m, args, below, meth, c⟩ := K
  obtain ⟨D, tA, base, ro, rd, ad0, n0, z0⟩ := L
  refine Sim.step0 (fun C R Q _ _ _ _ k ad H locs lsA hI hc hl => ?_) k
  obtain ⟨hx, hb, hml, hown, hts, hG, hnm⟩ := C
  exact lv_lsub hx hb hdg (k ad H locs lsA hI ⟨hc.1, xcc xcv_l (xct (xct hc.2))⟩ hl)
theorem S_lmul {x y : Int64} (hdg : decode cc pc = .ok (.lmul, 1)) (k : Sim K L cc own nm nL d hp E (pc + 1) ls (.long (x * y) :: st) h X) : Sim K L cc own nm nL d hp E pc ls (.long y :: .long x :: st) h X := by
  obtain ⟨p, l, e, s, m, args, below, meth, c⟩ := K
  obtain ⟨D, tA, base, ro, rd, ad0, n0, z0⟩ := L
  refine Sim.step0 (fun C R Q _ _ _ _ k ad H locs lsA hI hc hl => ?_) k
  obtain ⟨hx, hb, hml, hown, hts, hG, hnm⟩ := C
  exact lv_lmul hx hb hdg (k ad H locs lsA hI ⟨hc.1, xcc xcv_l (xct (xct hc.2))⟩ hl)
theorem S_land {x y : Int64} (hdg : decode cc pc = .ok (.land, 1)) (k : Sim K L cc own nm nL d hp E (pc + 1) ls (.long (x &&& y) :: st) h X) : Sim K L cc own nm nL d hp E pc ls (.long y :: .long x :: st) h X := by
  obtain ⟨p, l, e, s, m, args, below, meth, c⟩ := K
  obtain ⟨D, tA, base, ro, rd, ad0, n0, z0⟩ := L
  refine Sim.step0 (fun C R Q _ _ _ _ k ad H locs lsA hI hc hl => ?_) k
  obtain ⟨hx, hb, hml, hown, hts, hG, hnm⟩ := C
  exact lv_land hx hb hdg (k ad H locs lsA hI ⟨hc.1, xcc xcv_l (xct (xct hc.2))⟩ hl)
theorem S_lor {x y : Int64} (hdg : decode cc pc = .ok (.lor, 1)) (k : Sim K L cc own nm nL d hp E (pc + 1) ls (.long (x ||| y) :: st) h X) : Sim K L cc own nm nL d hp E pc ls (.long y :: .long x :: st) h X := by
  obtain ⟨p, l, e, s, m, args, below, meth, c⟩ := K
  obtain ⟨D, tA, base, ro, rd, ad0, n0, z0⟩ := L
  refine Sim.step0 (fun C R Q _ _ _ _ k ad H locs lsA hI hc hl => ?_) k
  obtain ⟨hx, hb, hml, hown, hts, hG, hnm⟩ := C
  exact lv_lor hx hb hdg (k ad H locs lsA hI ⟨hc.1, xcc xcv_l (xct (xct hc.2))⟩ hl)
theorem S_lshl {x : Int64} {y : Int32} (hdg : decode cc pc = .ok (.lshl, 1)) (k : Sim K L cc own nm nL d hp E (pc + 1) ls (.long (x <<< (y.toInt64 &&& 63)) :: st) h X) : Sim K L cc own nm nL d hp E pc ls (.int y :: .long x :: st) h X := by
  obtain ⟨p, l, e, s, m, args, below, meth, c⟩ := K
  obtain ⟨D, tA, base, ro, rd, ad0, n0, z0⟩ := L
  refine Sim.step0 (fun C R Q _ _ _ _ k ad H locs lsA hI hc hl => ?_) k
  obtain ⟨hx, hb, hml, hown, hts, hG, hnm⟩ := C
  exact lv_lshl hx hb hdg rfl (k ad H locs lsA hI ⟨hc.1, xcc xcv_l (xct (xct hc.2))⟩ hl)
theorem S_lshr {x : Int64} {y : Int32} (hdg : decode cc pc = .ok (.lshr, 1)) (k : Sim K L cc own nm nL d hp E (pc + 1) ls (.long (x >>> (y.toInt64 &&& 63)) :: st) h X) : Sim K L cc own nm nL d hp E pc ls (.int y :: .long x :: st) h X := by
  obtain ⟨p, l, e, s, m, args, below, meth, c⟩ := K
  obtain ⟨D, tA, base, ro, rd, ad0, n0, z0⟩ := L
  refine Sim.step0 (fun C R Q _ _ _ _ k ad H locs lsA hI hc hl => ?_) k
  obtain ⟨hx, hb, hml, hown, hts, hG, hnm⟩ := C
  exact lv_lshr hx hb hdg rfl (k ad H locs lsA hI ⟨hc.1, xcc xcv_l (xct (xct hc.2))⟩ hl)
theorem S_ineg {x : Int32} (hdg : decode cc pc = .ok (.ineg, 1)) (k : Sim K L cc own nm nL d hp E (pc + 1) ls (.int (-x) :: st) h X) : Sim K L cc own nm nL d hp E pc ls (.int x :: st) h X := by
  obtain ⟨p, l, e, s, m, args, below, meth, c⟩ := K
  obtain ⟨D, tA, base, ro, rd, ad0, n0, z0⟩ := L
  refine Sim.step0 (fun C R Q _ _ _ _ k ad H locs lsA hI hc hl => ?_) k
  obtain ⟨hx, hb, hml, hown, hts, hG, hnm⟩ := C
  exact lv_ineg hx hb hdg (k ad H locs lsA hI ⟨hc.1, xcc xcv_i (xct hc.2)⟩ hl)
theorem S_i2l {x : Int32} (hdg : decode cc pc = .ok (.i2l, 1)) (k : Sim K L cc own nm nL d hp E (pc + 1) ls (.long x.toInt64 :: st) h X) : Sim K L cc own nm nL d hp E pc ls (.int x :: st) h X := by
  obtain ⟨p, l, e, s, m, args, below, meth, c⟩ := K
  obtain ⟨D, tA, base, ro, rd, ad0, n0, z0⟩ := L
  refine Sim.step0 (fun C R Q _ _ _ _ k ad H locs lsA hI hc hl => ?_) k
  obtain ⟨hx, hb, hml, hown, hts, hG, hnm⟩ := C
  exact lv_i2l hx hb hdg rfl (k ad H locs lsA hI ⟨hc.1, xcc xcv_l (xct hc.2)⟩ hl)
theorem S_l2i {x : Int64} (hdg : decode cc pc = .ok (.l2i, 1)) (k : Sim K L cc own nm nL d hp E (pc + 1) ls (.int x.toInt32 :: st) h X) : Sim K L cc own nm nL d hp E pc ls (.long x :: st) h X := by
  obtain ⟨p, l, e, s, m, args, below, meth, c⟩ := K
  obtain ⟨D, tA, base, ro, rd, ad0, n0, z0⟩ := L
  refine Sim.step0 (fun C R Q _ _ _ _ k ad H locs lsA hI hc hl => ?_) k
  obtain ⟨hx, hb, hml, hown, hts, hG, hnm⟩ := C
  exact lv_l2i hx hb hdg rfl (k ad H locs lsA hI ⟨hc.1, xcc xcv_i (xct hc.2)⟩ hl)
theorem S_i2b {x : Int32} (hdg : decode cc pc = .ok (.i2b, 1)) (k : Sim K L cc own nm nL d hp E (pc + 1) ls (.int x.toInt8.toInt32 :: st) h X) : Sim K L cc own nm nL d hp E pc ls (.int x :: st) h X := by
  obtain ⟨p, l, e, s, m, args, below, meth, c⟩ := K
  obtain ⟨D, tA, base, ro, rd, ad0, n0, z0⟩ := L
  refine Sim.step0 (fun C R Q _ _ _ _ k ad H locs lsA hI hc hl => ?_) k
  obtain ⟨hx, hb, hml, hown, hts, hG, hnm⟩ := C
  exact lv_i2b hx hb hdg rfl (k ad H locs lsA hI ⟨hc.1, xcc xcv_i (xct hc.2)⟩ hl)
theorem S_i2s {x : Int32} (hdg : decode cc pc = .ok (.i2s, 1)) (k : Sim K L cc own nm nL d hp E (pc + 1) ls (.int x.toInt16.toInt32 :: st) h X) : Sim K L cc own nm nL d hp E pc ls (.int x :: st) h X := by
  obtain ⟨p, l, e, s, m, args, below, meth, c⟩ := K
  obtain ⟨D, tA, base, ro, rd, ad0, n0, z0⟩ := L
  refine Sim.step0 (fun C R Q _ _ _ _ k ad H locs lsA hI hc hl => ?_) k
  obtain ⟨hx, hb, hml, hown, hts, hG, hnm⟩ := C
  exact lv_i2s hx hb hdg rfl (k ad H locs lsA hI ⟨hc.1, xcc xcv_i (xct hc.2)⟩ hl)
theorem S_lcmp {x y : Int64} (hdg : decode cc pc = .ok (.lcmp, 1)) (k : Sim K L cc own nm nL d hp E (pc + 1) ls (.int (lg_cmp x y) :: st) h X) : Sim K L cc own nm nL d hp E pc ls (.long y :: .long x :: st) h X := by
  obtain ⟨p, l, e, s, m, args, below, meth, c⟩ := K
  obtain ⟨D, tA, base, ro, rd, ad0, n0, z0⟩ := L
  refine Sim.step0 (fun C R Q _ _ _ _ k ad H locs lsA hI hc hl => ?_) k
  obtain ⟨hx, hb, hml, hown, hts, hG, hnm⟩ := C
  exact W.lcmp hx hb hdg (k ad H locs lsA hI ⟨hc.1, xcc xcv_i (xct (xct hc.2))⟩ hl)
theorem S_dup {v : Value} (hv : v.category = 1) (hdg : decode cc pc = .ok (.dup, 1)) (k : Sim K L cc own nm nL d hp E (pc + 1) ls (v :: v :: st) h X) : Sim K L cc own nm nL d hp E pc ls (v :: st) h X := by
  obtain ⟨p, l, e, s, m, args, below, meth, c⟩ := K
  obtain ⟨D, tA, base, ro, rd, ad0, n0, z0⟩ := L
  refine Sim.step0 (fun C R Q _ _ _ _ k ad H locs lsA hI hc hl => ?_) k
  obtain ⟨hx, hb, hml, hown, hts, hG, hnm⟩ := C
  exact lv_dup hx hb hdg (by rw [xv_cat]; exact hv) (k ad H locs lsA hI ⟨hc.1, xcc (xch hc.2) hc.2⟩ hl)
theorem S_pop {v : Value} (hv : v.category = 1) (hdg : decode cc pc = .ok (.pop, 1)) (k : Sim K L cc own nm nL d hp E (pc + 1) ls (st) h X) : Sim K L cc own nm nL d hp E pc ls (v :: st) h X := by
  obtain ⟨p, l, e, s, m, args, below, meth, c⟩ := K
  obtain ⟨D, tA, base, ro, rd, ad0, n0, z0⟩ := L
  refine Sim.step0 (fun C R Q _ _ _ _ k ad H locs lsA hI hc hl => ?_) k
  obtain ⟨hx, hb, hml, hown, hts, hG, hnm⟩ := C
  exact lv_pop hx hb hdg (by rw [xv_cat]; exact hv) (k ad H locs lsA hI ⟨hc.1, xct hc.2⟩ hl)
theorem S_dup2 {v w : Value} (hv : v.category = 1) (hw : w.category = 1) (hdg : decode cc pc = .ok (.dup2, 1)) (k : Sim K L cc own nm nL d hp E (pc + 1) ls (v :: w :: v :: w :: st) h X) : Sim K L cc own nm nL d hp E pc ls (v :: w :: st) h X := by
  obtain ⟨p, l, e, s, m, args, below, meth, c⟩ := K
  obtain ⟨D, tA, base, ro, rd, ad0, n0, z0⟩ := L
  refine Sim.step0 (fun C R Q _ _ _ _ k ad H locs lsA hI hc hl => ?_) k
  obtain ⟨hx, hb, hml, hown, hts, hG, hnm⟩ := C
  exact lv_dup2_11 hx hb hdg (by rw [xv_cat]; exact hv) (by rw [xv_cat]; exact hw) (k ad H locs lsA hI ⟨hc.1, xcc (xch hc.2) (xcc (xch (xct hc.2)) hc.2)⟩ hl)
theorem S_goto {off : Int} {tgt : Nat} (hdg : decode cc pc = .ok (.goto off, 3)) (ht : (pc : Int) + off = (tgt : Int)) (k : Sim K L cc own nm nL d hp E tgt ls st h X) : Sim K L cc own nm nL d hp E pc ls st h X := by
  obtain ⟨p, l, e, s, m, args, below, meth, c⟩ := K
  obtain ⟨D, tA, base, ro, rd, ad0, n0, z0⟩ := L
  refine Sim.step0 (fun C R Q _ _ _ _ k ad H locs lsA hI hc hl => ?_) k
  obtain ⟨hx, hb, hml, hown, hts, hG, hnm⟩ := C
  exact lv_goto hx hb hdg ht (k ad H locs lsA hI hc hl)
theorem S_if_eq {x : Int32} {off : Int} {tgt : Nat} (hdg : decode cc pc = .ok (.ifCond .eq off, 3)) (ht : (pc : Int) + off = (tgt : Int)) (ka : Sim K L cc own nm nL d hp E tgt ls st h A) (kb : Sim K L cc own nm nL d hp E (pc + 3) ls st h B) : Sim K L cc own nm nL d hp E pc ls (.int x :: st) h (if x = 0 then A else B) := by
  obtain ⟨p, l, e, s, m, args, below, meth, c⟩ := K
  obtain ⟨D, tA, base, ro, rd, ad0, n0, z0⟩ := L
  intro q hq
  by_cases hcd : x = 0
  · rw [if_pos hcd] at hq
    obtain ⟨mo, k⟩ := ka q hq
    refine ⟨mo, fun C R Q a1 a2 a3 a4 hE ad H locs lsA hI hc hl => ?_⟩
    have k := k C
    obtain ⟨hx, hb, hml, hown, hts, hG, hnm⟩ := C
    exact lv_if_eq hx hb hdg ht (fun _ => k R Q a1 a2 a3 a4 hE ad H locs lsA hI ⟨hc.1, xct hc.2⟩ hl) (fun n => absurd hcd n)
  · rw [if_neg hcd] at hq
    obtain ⟨mo, k⟩ := kb q hq
    refine ⟨mo, fun C R Q a1 a2 a3 a4 hE ad H locs lsA hI hc hl => ?_⟩
    have k := k C
    obtain ⟨hx, hb, hml, hown, hts, hG, hnm⟩ := C
    exact lv_if_eq hx hb hdg ht (fun n => absurd n hcd) (fun _ => k R Q a1 a2 a3 a4 hE ad H locs lsA hI ⟨hc.1, xct hc.2⟩ hl)
theorem D_if_eq {x : Int32} {off : Int} {tgt : Nat} (hdg : decode cc pc = .ok (.ifCond .eq off, 3)) (ht : (pc : Int) + off = (tgt : Int)) (ka : (x = 0) → Sim K L cc own nm nL d hp E tgt ls st h X) (kb : ¬ (x = 0) → Sim K L cc own nm nL d hp E (pc + 3) ls st h X) : Sim K L cc own nm nL d hp E pc ls (.int x :: st) h X := by
  by_cases hcd : x = 0
  · have := S_if_eq (A := X) (B := none) (x := x) hdg ht (ka hcd) Sim.none
    rwa [if_pos hcd] at this
  · have := S_if_eq (A := none) (B := X) (x := x) hdg ht Sim.none (kb hcd)
    rwa [if_neg hcd] at this
theorem S_if_ne {x : Int32} {off : Int} {tgt : Nat} (hdg : decode cc pc = .ok (.ifCond .ne off, 3)) (ht : (pc : Int) + off = (tgt : Int)) (ka : Sim K L cc own nm nL d hp E (pc + 3) ls st h A) (kb : Sim K L cc own nm nL d hp E tgt ls st h B) : Sim K L cc own nm nL d hp E pc ls (.int x :: st) h (if x = 0 then A else B) := by
  obtain ⟨p, l, e, s, m, args, below, meth, c⟩ := K
  obtain ⟨D, tA, base, ro, rd, ad0, n0, z0⟩ := L
  intro q hq
  by_cases hcd : x = 0
  · rw [if_pos hcd] at hq
    obtain ⟨mo, k⟩ := ka q hq
    refine ⟨mo, fun C R Q a1 a2 a3 a4 hE ad H locs lsA hI hc hl => ?_⟩
    have k := k C
    obtain ⟨hx, hb, hml, hown, hts, hG, hnm⟩ := C
    exact lv_if_ne hx hb hdg ht (fun n => absurd hcd n) (fun _ => k R Q a1 a2 a3 a4 hE ad H locs lsA hI ⟨hc.1, xct hc.2⟩ hl)
  · rw [if_neg hcd] at hq
    obtain ⟨mo, k⟩ := kb q hq
    refine ⟨mo, fun C R Q a1 a2 a3 a4 hE ad H locs lsA hI hc hl => ?_⟩
    have k := k C
    obtain ⟨hx, hb, hml, hown, hts, hG, hnm⟩ := C
    exact lv_if_ne hx hb hdg ht (fun _ => k R Q a1 a2 a3 a4 hE ad H locs lsA hI ⟨hc.1, xct hc.2⟩ hl) (fun n => absurd n hcd)
theorem D_if_ne {x : Int32} {off : Int} {tgt : Nat} (hdg : decode cc pc = .ok (.ifCond .ne off, 3)) (ht : (pc : Int) + off = (tgt : Int)) (ka : (x = 0) → Sim K L cc own nm nL d hp E (pc + 3) ls st h X) (kb : ¬ (x = 0) → Sim K L cc own nm nL d hp E tgt ls st h X) : Sim K L cc own nm nL d hp E pc ls (.int x :: st) h X := by
  by_cases hcd : x = 0
  · have := S_if_ne (A := X) (B := none) (x := x) hdg ht (ka hcd) Sim.none
    rwa [if_pos hcd] at this
  · have := S_if_ne (A := none) (B := X) (x := x) hdg ht Sim.none (kb hcd)
    rwa [if_neg hcd] at this
theorem S_if_lt {x : Int32} {off : Int} {tgt : Nat} (hdg : decode cc pc = .ok (.ifCond .lt off, 3)) (ht : (pc : Int) + off = (tgt : Int)) (ka : Sim K L cc own nm nL d hp E tgt ls st h A) (kb : Sim K L cc own nm nL d hp E (pc + 3) ls st h B) : Sim K L cc own nm nL d hp E pc ls (.int x :: st) h (if x < 0 then A else B) := by
  obtain ⟨p, l, e, s, m, args, below, meth, c⟩ := K
  obtain ⟨D, tA, base, ro, rd, ad0, n0, z0⟩ := L
  intro q hq
  by_cases hcd : x < 0
  · rw [if_pos hcd] at hq
    obtain ⟨mo, k⟩ := ka q hq
    refine ⟨mo, fun C R Q a1 a2 a3 a4 hE ad H locs lsA hI hc hl => ?_⟩
    have k := k C
    obtain ⟨hx, hb, hml, hown, hts, hG, hnm⟩ := C
    exact lv_if_lt hx hb hdg ht (fun _ => k R Q a1 a2 a3 a4 hE ad H locs lsA hI ⟨hc.1, xct hc.2⟩ hl) (fun n => absurd hcd n)
  · rw [if_neg hcd] at hq
    obtain ⟨mo, k⟩ := kb q hq
    refine ⟨mo, fun C R Q a1 a2 a3 a4 hE ad H locs lsA hI hc hl => ?_⟩
    have k := k C
    obtain ⟨hx, hb, hml, hown, hts, hG, hnm⟩ := C
    exact lv_if_lt hx hb hdg ht (fun n => absurd n hcd) (fun _ => k R Q a1 a2 a3 a4 hE ad H locs lsA hI ⟨hc.1, xct hc.2⟩ hl)
theorem D_if_lt {x : Int32} {off : Int} {tgt : Nat} (hdg : decode cc pc = .ok (.ifCond .lt off, 3)) (ht : (pc : Int) + off = (tgt : Int)) (ka : (x < 0) → Sim K L cc own nm nL d hp E tgt ls st h X) (kb : ¬ (x < 0) → Sim K L cc own nm nL d hp E (pc + 3) ls st h X) : Sim K L cc own nm nL d hp E pc ls (.int x :: st) h X := by
  by_cases hcd : x < 0
  · have := S_if_lt (A := X) (B := none) (x := x) hdg ht (ka hcd) Sim.none
    rwa [if_pos hcd] at this
  · have := S_if_lt (A := none) (B := X) (x := x) hdg ht Sim.none (kb hcd)
    rwa [if_neg hcd] at this
theorem S_if_ge {x : Int32} {off : Int} {tgt : Nat} (hdg : decode cc pc = .ok (.ifCond .ge off, 3)) (ht : (pc : Int) + off = (tgt : Int)) (ka : Sim K L cc own nm nL d hp E tgt ls st h A) (kb : Sim K L cc own nm nL d hp E (pc + 3) ls st h B) : Sim K L cc own nm nL d hp E pc ls (.int x :: st) h (if 0 ≤ x then A else B) := by
  obtain ⟨p, l, e, s, m, args, below, meth, c⟩ := K
  obtain ⟨D, tA, base, ro, rd, ad0, n0, z0⟩ := L
  intro q hq
  by_cases hcd : 0 ≤ x
  · rw [if_pos hcd] at hq
    obtain ⟨mo, k⟩ := ka q hq
    refine ⟨mo, fun C R Q a1 a2 a3 a4 hE ad H locs lsA hI hc hl => ?_⟩
    have k := k C
    obtain ⟨hx, hb, hml, hown, hts, hG, hnm⟩ := C
    exact lv_if_ge hx hb hdg ht (fun _ => k R Q a1 a2 a3 a4 hE ad H locs lsA hI ⟨hc.1, xct hc.2⟩ hl) (fun n => absurd hcd n)
  · rw [if_neg hcd] at hq
    obtain ⟨mo, k⟩ := kb q hq
    refine ⟨mo, fun C R Q a1 a2 a3 a4 hE ad H locs lsA hI hc hl => ?_⟩
    have k := k C
    obtain ⟨hx, hb, hml, hown, hts, hG, hnm⟩ := C
    exact lv_if_ge hx hb hdg ht (fun n => absurd n hcd) (fun _ => k R Q a1 a2 a3 a4 hE ad H locs lsA hI ⟨hc.1, xct hc.2⟩ hl)
theorem D_if_ge {x : Int32} {off : Int} {tgt : Nat} (hdg : decode cc pc = .ok (.ifCond .ge off, 3)) (ht : (pc : Int) + off = (tgt : Int)) (ka : (0 ≤ x) → Sim K L cc own nm nL d hp E tgt ls st h X) (kb : ¬ (0 ≤ x) → Sim K L cc own nm nL d hp E (pc + 3) ls st h X) : Sim K L cc own nm nL d hp E pc ls (.int x :: st) h X := by
  by_cases hcd : 0 ≤ x
  · have := S_if_ge (A := X) (B := none) (x := x) hdg ht (ka hcd) Sim.none
    rwa [if_pos hcd] at this
  · have := S_if_ge (A := none) (B := X) (x := x) hdg ht Sim.none (kb hcd)
    rwa [if_neg hcd] at this
theorem S_if_gt {x : Int32} {off : Int} {tgt : Nat} (hdg : decode cc pc = .ok (.ifCond .gt off, 3)) (ht : (pc : Int) + off = (tgt : Int)) (ka : Sim K L cc own nm nL d hp E tgt ls st h A) (kb : Sim K L cc own nm nL d hp E (pc + 3) ls st h B) : Sim K L cc own nm nL d hp E pc ls (.int x :: st) h (if 0 < x then A else B) := by
  obtain ⟨p, l, e, s, m, args, below, meth, c⟩ := K
  obtain ⟨D, tA, base, ro, rd, ad0, n0, z0⟩ := L
  intro q hq
  by_cases hcd : 0 < x
  · rw [if_pos hcd] at hq
    obtain ⟨mo, k⟩ := ka q hq
    refine ⟨mo, fun C R Q a1 a2 a3 a4 hE ad H locs lsA hI hc hl => ?_⟩
    have k := k C
    obtain ⟨hx, hb, hml, hown, hts, hG, hnm⟩ := C
    exact lv_if_gt hx hb hdg ht (fun _ => k R Q a1 a2 a3 a4 hE ad H locs lsA hI ⟨hc.1, xct hc.2⟩ hl) (fun n => absurd hcd n)
  · rw [if_neg hcd] at hq
    obtain ⟨mo, k⟩ := kb q hq
    refine ⟨mo, fun C R Q a1 a2 a3 a4 hE ad H locs lsA hI hc hl => ?_⟩
    have k := k C
    obtain ⟨hx, hb, hml, hown, hts, hG, hnm⟩ := C
    exact lv_if_gt hx hb hdg ht (fun n => absurd n hcd) (fun _ => k R Q a1 a2 a3 a4 hE ad H locs lsA hI ⟨hc.1, xct hc.2⟩ hl)
theorem D_if_gt {x : Int32} {off : Int} {tgt : Nat} (hdg : decode cc pc = .ok (.ifCond .gt off, 3)) (ht : (pc : Int) + off = (tgt : Int)) (ka : (0 < x) → Sim K L cc own nm nL d hp E tgt ls st h X) (kb : ¬ (0 < x) → Sim K L cc own nm nL d hp E (pc + 3) ls st h X) : Sim K L cc own nm nL d hp E pc ls (.int x :: st) h X := by
  by_cases hcd : 0 < x
  · have := S_if_gt (A := X) (B := none) (x := x) hdg ht (ka hcd) Sim.none
    rwa [if_pos hcd] at this
  · have := S_if_gt (A := none) (B := X) (x := x) hdg ht Sim.none (kb hcd)
    rwa [if_neg hcd] at this
theorem S_if_le {x : Int32} {off : Int} {tgt : Nat} (hdg : decode cc pc = .ok (.ifCond .le off, 3)) (ht : (pc : Int) + off = (tgt : Int)) (ka : Sim K L cc own nm nL d hp E tgt ls st h A) (kb : Sim K L cc own nm nL d hp E (pc + 3) ls st h B) : Sim K L cc own nm nL d hp E pc ls (.int x :: st) h (if x ≤ 0 then A else B) := by
  obtain ⟨p, l, e, s, m, args, below, meth, c⟩ := K
  obtain ⟨D, tA, base, ro, rd, ad0, n0, z0⟩ := L
  intro q hq
  by_cases hcd : x ≤ 0
  · rw [if_pos hcd] at hq
    obtain ⟨mo, k⟩ := ka q hq
    refine ⟨mo, fun C R Q a1 a2 a3 a4 hE ad H locs lsA hI hc hl => ?_⟩
    have k := k C
    obtain ⟨hx, hb, hml, hown, hts, hG, hnm⟩ := C
    exact lv_if_le hx hb hdg ht (fun _ => k R Q a1 a2 a3 a4 hE ad H locs lsA hI ⟨hc.1, xct hc.2⟩ hl) (fun n => absurd hcd n)
  · rw [if_neg hcd] at hq
    obtain ⟨mo, k⟩ := kb q hq
    refine ⟨mo, fun C R Q a1 a2 a3 a4 hE ad H locs lsA hI hc hl => ?_⟩
    have k := k C
    obtain ⟨hx, hb, hml, hown, hts, hG, hnm⟩ := C
    exact lv_if_le hx hb hdg ht (fun n => absurd n hcd) (fun _ => k R Q a1 a2 a3 a4 hE ad H locs lsA hI ⟨hc.1, xct hc.2⟩ hl)
theorem D_if_le {x : Int32} {off : Int} {tgt : Nat} (hdg : decode cc pc = .ok (.ifCond .le off, 3)) (ht : (pc : Int) + off = (tgt : Int)) (ka : (x ≤ 0) → Sim K L cc own nm nL d hp E tgt ls st h X) (kb : ¬ (x ≤ 0) → Sim K L cc own nm nL d hp E (pc + 3) ls st h X) : Sim K L cc own nm nL d hp E pc ls (.int x :: st) h X := by
  by_cases hcd : x ≤ 0
  · have := S_if_le (A := X) (B := none) (x := x) hdg ht (ka hcd) Sim.none
    rwa [if_pos hcd] at this
  · have := S_if_le (A := none) (B := X) (x := x) hdg ht Sim.none (kb hcd)
    rwa [if_neg hcd] at this
theorem S_icmp_eq {x y : Int32} {off : Int} {tgt : Nat} (hdg : decode cc pc = .ok (.if_icmp .eq off, 3)) (ht : (pc : Int) + off = (tgt : Int)) (ka : Sim K L cc own nm nL d hp E tgt ls st h A) (kb : Sim K L cc own nm nL d hp E (pc + 3) ls st h B) : Sim K L cc own nm nL d hp E pc ls (.int y :: .int x :: st) h (if x = y then A else B) := by
  obtain ⟨p, l, e, s, m, args, below, meth, c⟩ := K
  obtain ⟨D, tA, base, ro, rd, ad0, n0, z0⟩ := L
  intro q hq
  by_cases hcd : x = y
  · rw [if_pos hcd] at hq
    obtain ⟨mo, k⟩ := ka q hq
    refine ⟨mo, fun C R Q a1 a2 a3 a4 hE ad H locs lsA hI hc hl => ?_⟩
    have k := k C
    obtain ⟨hx, hb, hml, hown, hts, hG, hnm⟩ := C
    exact lv_icmp_eq hx hb hdg ht (fun _ => k R Q a1 a2 a3 a4 hE ad H locs lsA hI ⟨hc.1, xct (xct hc.2)⟩ hl) (fun n => absurd hcd n)
  · rw [if_neg hcd] at hq
    obtain ⟨mo, k⟩ := kb q hq
    refine ⟨mo, fun C R Q a1 a2 a3 a4 hE ad H locs lsA hI hc hl => ?_⟩
    have k := k C
    obtain ⟨hx, hb, hml, hown, hts, hG, hnm⟩ := C
    exact lv_icmp_eq hx hb hdg ht (fun n => absurd n hcd) (fun _ => k R Q a1 a2 a3 a4 hE ad H locs lsA hI ⟨hc.1, xct (xct hc.2)⟩ hl)
theorem D_icmp_eq {x y : Int32} {off : Int} {tgt : Nat} (hdg : decode cc pc = .ok (.if_icmp .eq off, 3)) (ht : (pc : Int) + off = (tgt : Int)) (ka : (x = y) → Sim K L cc own nm nL d hp E tgt ls st h X) (kb : ¬ (x = y) → Sim K L cc own nm nL d hp E (pc + 3) ls st h X) : Sim K L cc own nm nL d hp E pc ls (.int y :: .int x :: st) h X := by
  by_cases hcd : x = y
  · have := S_icmp_eq (A := X) (B := none) (x := x) (y := y) hdg ht (ka hcd) Sim.none
    rwa [if_pos hcd] at this
  · have := S_icmp_eq (A := none) (B := X) (x := x) (y := y) hdg ht Sim.none (kb hcd)
    rwa [if_neg hcd] at this
theorem S_icmp_ne {x y : Int32} {off : Int} {tgt : Nat} (hdg : decode cc pc = .ok (.if_icmp .ne off, 3)) (ht : (pc : Int) + off = (tgt : Int)) (ka : Sim K L cc own nm nL d hp E (pc + 3) ls st h A) (kb : Sim K L cc own nm nL d hp E tgt ls st h B) : Sim K L cc own nm nL d hp E pc ls (.int y :: .int x :: st) h (if x = y then A else B) := by
  obtain ⟨p, l, e, s, m, args, below, meth, c⟩ := K
  obtain ⟨D, tA, base, ro, rd, ad0, n0, z0⟩ := L
  intro q hq
  by_cases hcd : x = y
  · rw [if_pos hcd] at hq
    obtain ⟨mo, k⟩ := ka q hq
    refine ⟨mo, fun C R Q a1 a2 a3 a4 hE ad H locs lsA hI hc hl => ?_⟩
    have k := k C
    obtain ⟨hx, hb, hml, hown, hts, hG, hnm⟩ := C
    exact lv_icmp_ne hx hb hdg ht (fun n => absurd hcd n) (fun _ => k R Q a1 a2 a3 a4 hE ad H locs lsA hI ⟨hc.1, xct (xct hc.2)⟩ hl)
  · rw [if_neg hcd] at hq
    obtain ⟨mo, k⟩ := kb q hq
    refine ⟨mo, fun C R Q a1 a2 a3 a4 hE ad H locs lsA hI hc hl => ?_⟩
    have k := k C
    obtain ⟨hx, hb, hml, hown, hts, hG, hnm⟩ := C
    exact lv_icmp_ne hx hb hdg ht (fun _ => k R Q a1 a2 a3 a4 hE ad H locs lsA hI ⟨hc.1, xct (xct hc.2)⟩ hl) (fun n => absurd n hcd)
theorem D_icmp_ne {x y : Int32} {off : Int} {tgt : Nat} (hdg : decode cc pc = .ok (.if_icmp .ne off, 3)) (ht : (pc : Int) + off = (tgt : Int)) (ka : (x = y) → Sim K L cc own nm nL d hp E (pc + 3) ls st h X) (kb : ¬ (x = y) → Sim K L cc own nm nL d hp E tgt ls st h X) : Sim K L cc own nm nL d hp E pc ls (.int y :: .int x :: st) h X := by
  by_cases hcd : x = y
  · have := S_icmp_ne (A := X) (B := none) (x := x) (y := y) hdg ht (ka hcd) Sim.none
    rwa [if_pos hcd] at this
  · have := S_icmp_ne (A := none) (B := X) (x := x) (y := y) hdg ht Sim.none (kb hcd)
    rwa [if_neg hcd] at this
theorem S_icmp_lt {x y : Int32} {off : Int} {tgt : Nat} (hdg : decode cc pc = .ok (.if_icmp .lt off, 3)) (ht : (pc : Int) + off = (tgt : Int)) (ka : Sim K L cc own nm nL d hp E tgt ls st h A) (kb : Sim K L cc own nm nL d hp E (pc + 3) ls st h B) : Sim K L cc own nm nL d hp E pc ls (.int y :: .int x :: st) h (if x < y then A else B) := by
  obtain ⟨p, l, e, s, m, args, below, meth, c⟩ := K
  obtain ⟨D, tA, base, ro, rd, ad0, n0, z0⟩ := L
  intro q hq
  by_cases hcd : x < y
  · rw [if_pos hcd] at hq
    obtain ⟨mo, k⟩ := ka q hq
    refine ⟨mo, fun C R Q a1 a2 a3 a4 hE ad H locs lsA hI hc hl => ?_⟩
    have k := k C
    obtain ⟨hx, hb, hml, hown, hts, hG, hnm⟩ := C
    exact lv_icmp_lt hx hb hdg ht (fun _ => k R Q a1 a2 a3 a4 hE ad H locs lsA hI ⟨hc.1, xct (xct hc.2)⟩ hl) (fun n => absurd hcd n)
  · rw [if_neg hcd] at hq
    obtain ⟨mo, k⟩ := kb q hq
    refine ⟨mo, fun C R Q a1 a2 a3 a4 hE ad H locs lsA hI hc hl => ?_⟩
    have k := k C
    obtain ⟨hx, hb, hml, hown, hts, hG, hnm⟩ := C
    exact lv_icmp_lt hx hb hdg ht (fun n => absurd n hcd) (fun _ => k R Q a1 a2 a3 a4 hE ad H locs lsA hI ⟨hc.1, xct (xct hc.2)⟩ hl)
theorem D_icmp_lt {x y : Int32} {off : Int} {tgt : Nat} (hdg : decode cc pc = .ok (.if_icmp .lt off, 3)) (ht : (pc : Int) + off = (tgt : Int)) (ka : (x < y) → Sim K L cc own nm nL d hp E tgt ls st h X) (kb : ¬ (x < y) → Sim K L cc own nm nL d hp E (pc + 3) ls st h X) : Sim K L cc own nm nL d hp E pc ls (.int y :: .int x :: st) h X := by
  by_cases hcd : x < y
  · have := S_icmp_lt (A := X) (B := none) (x := x) (y := y) hdg ht (ka hcd) Sim.none
    rwa [if_pos hcd] at this
  · have := S_icmp_lt (A := none) (B := X) (x := x) (y := y) hdg ht Sim.none (kb hcd)
    rwa [if_neg hcd] at this
theorem S_icmp_ge {x y : Int32} {off : Int} {tgt : Nat} (hdg : decode cc pc = .ok (.if_icmp .ge off, 3)) (ht : (pc : Int) + off = (tgt : Int)) (ka : Sim K L cc own nm nL d hp E tgt ls st h A) (kb : Sim K L cc own nm nL d hp E (pc + 3) ls st h B) : Sim K L cc own nm nL d hp E pc ls (.int y :: .int x :: st) h (if y ≤ x then A else B) := by
  obtain ⟨p, l, e, s, m, args, below, meth, c⟩ := K
  obtain ⟨D, tA, base, ro, rd, ad0, n0, z0⟩ := L
  intro q hq
  by_cases hcd : y ≤ x
  · rw [if_pos hcd] at hq
    obtain ⟨mo, k⟩ := ka q hq
    refine ⟨mo, fun C R Q a1 a2 a3 a4 hE ad H locs lsA hI hc hl => ?_⟩
    have k := k C
    obtain ⟨hx, hb, hml, hown, hts, hG, hnm⟩ := C
    exact lv_icmp_ge hx hb hdg ht (fun _ => k R Q a1 a2 a3 a4 hE ad H locs lsA hI ⟨hc.1, xct (xct hc.2)⟩ hl) (fun n => absurd hcd n)
  · rw [if_neg hcd] at hq
    obtain ⟨mo, k⟩ := kb q hq
    refine ⟨mo, fun C R Q a1 a2 a3 a4 hE ad H locs lsA hI hc hl => ?_⟩
    have k := k C
    obtain ⟨hx, hb, hml, hown, hts, hG, hnm⟩ := C
    exact lv_icmp_ge hx hb hdg ht (fun n => absurd n hcd) (fun _ => k R Q a1 a2 a3 a4 hE ad H locs lsA hI ⟨hc.1, xct (xct hc.2)⟩ hl)
theorem D_icmp_ge {x y : Int32} {off : Int} {tgt : Nat} (hdg : decode cc pc = .ok (.if_icmp .ge off, 3)) (ht : (pc : Int) + off = (tgt : Int)) (ka : (y ≤ x) → Sim K L cc own nm nL d hp E tgt ls st h X) (kb : ¬ (y ≤ x) → Sim K L cc own nm nL d hp E (pc + 3) ls st h X) : Sim K L cc own nm nL d hp E pc ls (.int y :: .int x :: st) h X := by
  by_cases hcd : y ≤ x
  · have := S_icmp_ge (A := X) (B := none) (x := x) (y := y) hdg ht (ka hcd) Sim.none
    rwa [if_pos hcd] at this
  · have := S_icmp_ge (A := none) (B := X) (x := x) (y := y) hdg ht Sim.none (kb hcd)
    rwa [if_neg hcd] at this
theorem S_icmp_gt {x y : Int32} {off : Int} {tgt : Nat} (hdg : decode cc pc = .ok (.if_icmp .gt off, 3)) (ht : (pc : Int) + off = (tgt : Int)) (ka : Sim K L cc own nm nL d hp E tgt ls st h A) (kb : Sim K L cc own nm nL d hp E (pc + 3) ls st h B) : Sim K L cc own nm nL d hp E pc ls (.int y :: .int x :: st) h (if y < x then A else B) := by
  obtain ⟨p, l, e, s, m, args, below, meth, c⟩ := K
  obtain ⟨D, tA, base, ro, rd, ad0, n0, z0⟩ := L
  intro q hq
  by_cases hcd : y < x
  · rw [if_pos hcd] at hq
    obtain ⟨mo, k⟩ := ka q hq
    refine ⟨mo, fun C R Q a1 a2 a3 a4 hE ad H locs lsA hI hc hl => ?_⟩
    have k := k C
    obtain ⟨hx, hb, hml, hown, hts, hG, hnm⟩ := C
    exact lv_icmp_gt hx hb hdg ht (fun _ => k R Q a1 a2 a3 a4 hE ad H locs lsA hI ⟨hc.1, xct (xct hc.2)⟩ hl) (fun n => absurd hcd n)
  · rw [if_neg hcd] at hq
    obtain ⟨mo, k⟩ := kb q hq
    refine ⟨mo, fun C R Q a1 a2 a3 a4 hE ad H locs lsA hI hc hl => ?_⟩
    have k := k C
    obtain ⟨hx, hb, hml, hown, hts, hG, hnm⟩ := C
    exact lv_icmp_gt hx hb hdg ht (fun n => absurd n hcd) (fun _ => k R Q a1 a2 a3 a4 hE ad H locs lsA hI ⟨hc.1, xct (xct hc.2)⟩ hl)
theorem D_icmp_gt {x y : Int32} {off : Int} {tgt : Nat} (hdg : decode cc pc = .ok (.if_icmp .gt off, 3)) (ht : (pc : Int) + off = (tgt : Int)) (ka : (y < x) → Sim K L cc own nm nL d hp E tgt ls st h X) (kb : ¬ (y < x) → Sim K L cc own nm nL d hp E (pc + 3) ls st h X) : Sim K L cc own nm nL d hp E pc ls (.int y :: .int x :: st) h X := by
  by_cases hcd : y < x
  · have := S_icmp_gt (A := X) (B := none) (x := x) (y := y) hdg ht (ka hcd) Sim.none
    rwa [if_pos hcd] at this
  · have := S_icmp_gt (A := none) (B := X) (x := x) (y := y) hdg ht Sim.none (kb hcd)
    rwa [if_neg hcd] at this
theorem S_icmp_le {x y : Int32} {off : Int} {tgt : Nat} (hdg : decode cc pc = .ok (.if_icmp .le off, 3)) (ht : (pc : Int) + off = (tgt : Int)) (ka : Sim K L cc own nm nL d hp E tgt ls st h A) (kb : Sim K L cc own nm nL d hp E (pc + 3) ls st h B) : Sim K L cc own nm nL d hp E pc ls (.int y :: .int x :: st) h (if x ≤ y then A else B) := by
  obtain ⟨p, l, e, s, m, args, below, meth, c⟩ := K
  obtain ⟨D, tA, base, ro, rd, ad0, n0, z0⟩ := L
  intro q hq
  by_cases hcd : x ≤ y
  · rw [if_pos hcd] at hq
    obtain ⟨mo, k⟩ := ka q hq
    refine ⟨mo, fun C R Q a1 a2 a3 a4 hE ad H locs lsA hI hc hl => ?_⟩
    have k := k C
    obtain ⟨hx, hb, hml, hown, hts, hG, hnm⟩ := C
    exact lv_icmp_le hx hb hdg ht (fun _ => k R Q a1 a2 a3 a4 hE ad H locs lsA hI ⟨hc.1, xct (xct hc.2)⟩ hl) (fun n => absurd hcd n)
  · rw [if_neg hcd] at hq
    obtain ⟨mo, k⟩ := kb q hq
    refine ⟨mo, fun C R Q a1 a2 a3 a4 hE ad H locs lsA hI hc hl => ?_⟩
    have k := k C
    obtain ⟨hx, hb, hml, hown, hts, hG, hnm⟩ := C
    exact lv_icmp_le hx hb hdg ht (fun n => absurd n hcd) (fun _ => k R Q a1 a2 a3 a4 hE ad H locs lsA hI ⟨hc.1, xct (xct hc.2)⟩ hl)
theorem D_icmp_le {x y : Int32} {off : Int} {tgt : Nat} (hdg : decode cc pc = .ok (.if_icmp .le off, 3)) (ht : (pc : Int) + off = (tgt : Int)) (ka : (x ≤ y) → Sim K L cc own nm nL d hp E tgt ls st h X) (kb : ¬ (x ≤ y) → Sim K L cc own nm nL d hp E (pc + 3) ls st h X) : Sim K L cc own nm nL d hp E pc ls (.int y :: .int x :: st) h X := by
  by_cases hcd : x ≤ y
  · have := S_icmp_le (A := X) (B := none) (x := x) (y := y) hdg ht (ka hcd) Sim.none
    rwa [if_pos hcd] at this
  · have := S_icmp_le (A := none) (B := X) (x := x) (y := y) hdg ht Sim.none (kb hcd)
    rwa [if_neg hcd] at this
theorem S_ifnull_r {a : Nat} {off : Int} (hdg : decode cc pc = .ok (.ifnull off, 3)) (k : Sim K L cc own nm nL d hp E (pc + 3) ls st h X) : Sim K L cc own nm nL d hp E pc ls (.ref a :: st) h X := by
  obtain ⟨p, l, e, s, m, args, below, meth, c⟩ := K
  obtain ⟨D, tA, base, ro, rd, ad0, n0, z0⟩ := L
  refine Sim.step0 (fun C R Q _ _ _ _ k ad H locs lsA hI hc hl => ?_) k
  obtain ⟨hx, hb, hml, hown, hts, hG, hnm⟩ := C
  exact lv_ifnull hx hb hdg (k ad H locs lsA hI ⟨hc.1, xct hc.2⟩ hl)
theorem S_ifnull_n {off : Int} {tgt : Nat} (hdg : decode cc pc = .ok (.ifnull off, 3)) (ht : (pc : Int) + off = (tgt : Int)) (k : Sim K L cc own nm nL d hp E tgt ls st h X) : Sim K L cc own nm nL d hp E pc ls (.null :: st) h X := by
  obtain ⟨p, l, e, s, m, args, below, meth, c⟩ := K
  obtain ⟨D, tA, base, ro, rd, ad0, n0, z0⟩ := L
  refine Sim.step0 (fun C R Q _ _ _ _ k ad H locs lsA hI hc hl => ?_) k
  obtain ⟨hx, hb, hml, hown, hts, hG, hnm⟩ := C
  exact lv_ifnullN hx hb hdg ht (k ad H locs lsA hI ⟨hc.1, xct hc.2⟩ hl)
theorem S_tabIn {x v : Int32} {dflt lo hi off : Int} {offs : Array Int} {len tgt : Nat} (hdg : decode cc pc = .ok (.tableswitch dflt lo hi offs, len)) (h1 : ¬ v.toInt < lo) (h2 : ¬ hi < v.toInt) (ho : offs[(v.toInt - lo).toNat]? = some off) (ht : (pc : Int) + off = (tgt : Int)) (ka : Sim K L cc own nm nL d hp E tgt ls st h A) (kb : ¬ x = v → Sim K L cc own nm nL d hp E pc ls (.int x :: st) h B) : Sim K L cc own nm nL d hp E pc ls (.int x :: st) h (if x = v then A else B) := by
  obtain ⟨p, l, e, s, m, args, below, meth, c⟩ := K
  obtain ⟨D, tA, base, ro, rd, ad0, n0, z0⟩ := L
  refine Sim.ite (fun e => ?_) kb
  subst e
  refine Sim.step0 (fun C R Q _ _ _ _ k ad H locs lsA hI hc hl => ?_) ka
  obtain ⟨hx, hb, hml, hown, hts, hG, hnm⟩ := C
  exact lv_tableIn hx hb hdg h1 h2 ho ht (k ad H locs lsA hI ⟨hc.1, xct hc.2⟩ hl)
theorem S_tabOut {x : Int32} {dflt lo hi : Int} {offs : Array Int} {len tgt : Nat} (hdg : decode cc pc = .ok (.tableswitch dflt lo hi offs, len)) (ho : x.toInt < lo ∨ hi < x.toInt) (ht : (pc : Int) + dflt = (tgt : Int)) (k : Sim K L cc own nm nL d hp E tgt ls st h X) : Sim K L cc own nm nL d hp E pc ls (.int x :: st) h X := by
  obtain ⟨p, l, e, s, m, args, below, meth, c⟩ := K
  obtain ⟨D, tA, base, ro, rd, ad0, n0, z0⟩ := L
  refine Sim.step0 (fun C R Q _ _ _ _ k ad H locs lsA hI hc hl => ?_) k
  obtain ⟨hx, hb, hml, hown, hts, hG, hnm⟩ := C
  exact lv_tableOut hx hb hdg ho ht (k ad H locs lsA hI ⟨hc.1, xct hc.2⟩ hl)
theorem S_look {x : Int32} {dflt off : Int} {ps : Array (Int × Int)} {len tgt : Nat} (hdg : decode cc pc = .ok (.lookupswitch dflt ps, len)) (hps : (ps.toList.zip (ps.toList.drop 1)).all (fun (a, next) => a.1 < next.1) = true) (ho : Op.lookupswitch.offset ps.toList dflt x.toInt = off) (ht : (pc : Int) + off = (tgt : Int)) (k : Sim K L cc own nm nL d hp E tgt ls st h X) : Sim K L cc own nm nL d hp E pc ls (.int x :: st) h X := by
  obtain ⟨p, l, e, s, m, args, below, meth, c⟩ := K
  obtain ⟨D, tA, base, ro, rd, ad0, n0, z0⟩ := L
  refine Sim.step0 (fun C R Q _ _ _ _ k ad H locs lsA hI hc hl => ?_) k
  obtain ⟨hx, hb, hml, hown, hts, hG, hnm⟩ := C
  exact lv_lookup hx hb hdg hps ho ht (k ad H locs lsA hI ⟨hc.1, xct hc.2⟩ hl)
end XROWS
