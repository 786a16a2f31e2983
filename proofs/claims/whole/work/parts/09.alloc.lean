theorem xT_dom (tA : Nat → Nat) {t : Nat} {ty : FieldType} {cA : ClassId} (h : (xT tA)[t]? = some (cA, ty)) : cA = tA t := by
  match t, h with
  | 0, h => cases h; rfl
  | 1, h => cases h; rfl
  | 2, h => cases h; rfl
  | 3, h => cases h; rfl
  | 4, h => cases h; rfl
section XALLOC
variable {ρ : Type} {K : xK} {L : xL} {nm : String} {nL d : Nat} {hp : ρ → xH} {E : xE ρ} {pc : Nat} {ls : List (Nat × Value)} {st : List Value} {h : xH} {X : Option ρ} {cc : ByteArray} {own : String} {a idx : Nat}
theorem S_new {ci N : Nat} {Cn : String} {T : u_T} {ty0 : Nat → FieldType} {fs : List Value} (f1 : vwCl[ci]? = some (Cn, T, N)) (f4 : ∀ w ∈ u_ws Cn T N, w ∈ lw_gd) (f5 : ∀ k, k < N → parseFieldDescriptor (T k).2.2.1 = some (ty0 k)) (wcl : (Cond.classLink own idx Cn) ∈ lw_gd) (wins : (Cond.instantiable Cn N) ∈ lw_gd) (wini : (Cond.initialized Cn) ∈ lw_gd) (hfs : ∀ j, j < N → defaultValue (ty0 j) = vp_V fs j) (hfl : fs.length = N) (hfm : ∀ ad, fs.map (xv ad) = fs) (hfc : ∀ n, ∀ v ∈ fs, xcv n v) (hdg : decode cc pc = .ok (.new idx, 3)) (k : Sim K L cc own nm nL d hp E (pc + 3) ls (.ref h.length :: st) (h ++ [.inr (ci, fs)]) X) : Sim K L cc own nm nL d hp E pc ls st h X := by
  obtain ⟨p, l, e, s, m, args, below, meth, c⟩ := K
  obtain ⟨D, tA, base, ro, rd, ad0, n0, z0⟩ := L
  have hsz : xz (h ++ [.inr (ci, fs)]) = xz h + N := by rw [xz_push]; show xz h + fs.length = xz h + N; rw [hfl]
  refine Sim.step (h' := h ++ [.inr (ci, fs)]) ⟨by rw [List.length_append]; omega, by rw [hsz]; omega⟩ (fun C R Q b1 b2 b3 b4 k ad H locs lsA hI hc hl => ?_) k
  obtain ⟨hx, hb, hml, hown, hts, hG, hnm⟩ := C
  have hi := hI
  obtain ⟨i1, i2, i3, -, -, -, i7, i8, -, -⟩ := hi
  rw [hsz] at b4
  have b3' : h.length + 1 - n0 ≤ R.cells := by have := b3; rw [List.length_append] at this; exact this
  have b4' : xz h + N - z0 ≤ R.slots := b4
  refine va_new (D := D) (T := T) (fs := fs) hx hb hts f4 ty0 f5 hown (hts _ wcl) (hts _ wins) (hts _ wini) hG.1 i1 i2 i3 (fun q hq => Nat.le_trans hG.2.1 hq) f1 hfs (by show h.length - n0 + 1 ≤ R.cells; omega) (by show xz h - z0 + N ≤ R.slots; omega) hdg (fun q H1 hP hD hS => ?_)
  have em : xe tA ad (.inr (ci, fs)) = .inr (ci, fs) := by show Sum.inr (ci, fs.map (xv ad)) = _; rw [hfm]
  rw [← em] at hP hD
  obtain ⟨hI', hag⟩ := hI.push (e1 := .inr (ci, fs)) (hfc h.length) hP hD hS
  have kf := k (va_up ad h.length q) H1 locs lsA hI' ⟨fun q hq => xcv_le (by rw [List.length_append]; omega) (hc.1 q hq), xcc (xcv_r (by rw [List.length_append]; exact Nat.lt_succ_self _)) (fun v hv => xcv_le (by rw [List.length_append]; omega) (hc.2 v hv))⟩ (by rw [xl_agree hc.1 hag]; exact hl)
  have e1 : (h ++ [(.inr (ci, fs) : va_E)]).length - n0 = h.length - n0 + 1 := by rw [List.length_append]; show h.length + 1 - n0 = _; omega
  have e2 : xz (h ++ [.inr (ci, fs)]) - z0 = xz h - z0 + N := by rw [hsz]; omega
  have e3 : (Value.ref h.length :: st).map (xv (va_up ad h.length q)) = .ref q :: st.map (xv ad) := by
    show Value.ref (va_up ad h.length q h.length) :: st.map (xv (va_up ad h.length q)) = _
    rw [xm_agree hc.2 hag]
    unfold va_up
    rw [if_pos rfl]
  change W p l e R s m args below meth c H1 locs ((h ++ [(.inr (ci, fs) : va_E)]).length - n0) (xz (h ++ [.inr (ci, fs)]) - z0) Q (F0 m (pc + 3) lsA ((Value.ref h.length :: st).map (xv (va_up ad h.length q)))) at kf
  rw [e1, e2, e3] at kf
  exact kf
theorem S_newI {n : Int32} {N : Nat} (w : (Cond.arrayClass .int) ∈ lw_gd) (hn : ¬ n < 0) (hN : n.toNatClampNeg = N) (hb4 : N * componentBytes .int ≤ 536870912) (hdg : decode cc pc = .ok (.newarray .int, 2)) (k : Sim K L cc own nm nL d hp E (pc + 2) ls (.ref h.length :: st) (h ++ [xaI0 N]) X) : Sim K L cc own nm nL d hp E pc ls (.int n :: st) h X := by
  obtain ⟨p, l, e, s, m, args, below, meth, c⟩ := K
  obtain ⟨D, tA, base, ro, rd, ad0, n0, z0⟩ := L
  have hsz : xz (h ++ [xaI0 N]) = xz h + N := by rw [xz_push]; rfl
  refine Sim.step (h' := h ++ [xaI0 N]) ⟨by rw [List.length_append]; omega, by rw [hsz]; omega⟩ (fun C R Q b1 b2 b3 b4 k ad H locs lsA hI hc hl => ?_) k
  obtain ⟨hx, hb, hml, hown, hts, hG, hnm⟩ := C
  have hi := hI
  obtain ⟨i1, i2, i3, -, -, -, i7, i8, -, -⟩ := hi
  rw [hsz] at b4
  have b3' : h.length + 1 - n0 ≤ R.cells := by have := b3; rw [List.length_append] at this; exact this
  have b4' : xz h + N - z0 ≤ R.slots := b4
  refine va_newa (atype := .int) (ty := .int) (a0 := (N, .inl (fun _ => 0))) (D := D) hx hb (hts _ w) rfl hG.1 i1 i2 i3 (fun q hq => Nat.le_trans hG.2.1 hq) (fun _ => rfl) hn hN hb4 (by show h.length - n0 + 1 ≤ R.cells; omega) (by show xz h - z0 + N ≤ R.slots; omega) hdg (fun q cA H1 hK hP hD hS => ?_)
  have hcA : cA = tA 0 := Option.some.inj (((hK.2 5 (cA, .int) rfl).2 : s.vm.findClass _ = some cA).symm.trans ((hG.1.2 0 (tA 0, .int) rfl).2 : s.vm.findClass _ = some (tA 0)))
  subst hcA
  obtain ⟨hI', hag⟩ := hI.push (e1 := xaI0 N) trivial hP hD hS
  have kf := k (va_up ad h.length q) H1 locs lsA hI' ⟨fun q hq => xcv_le (by rw [List.length_append]; omega) (hc.1 q hq), xcc (xcv_r (by rw [List.length_append]; exact Nat.lt_succ_self _)) (fun v hv => xcv_le (by rw [List.length_append]; omega) (xct hc.2 v hv))⟩ (by rw [xl_agree hc.1 hag]; exact hl)
  have e1 : (h ++ [xaI0 N]).length - n0 = h.length - n0 + 1 := by rw [List.length_append]; show h.length + 1 - n0 = _; omega
  have e2 : xz (h ++ [xaI0 N]) - z0 = xz h - z0 + N := by rw [hsz]; omega
  have e3 : (Value.ref h.length :: st).map (xv (va_up ad h.length q)) = .ref q :: st.map (xv ad) := by
    show Value.ref (va_up ad h.length q h.length) :: st.map (xv (va_up ad h.length q)) = _
    rw [xm_agree (xct hc.2) hag]
    unfold va_up
    rw [if_pos rfl]
  change W p l e R s m args below meth c H1 locs ((h ++ [xaI0 N]).length - n0) (xz (h ++ [xaI0 N]) - z0) Q (F0 m (pc + 2) lsA ((Value.ref h.length :: st).map (xv (va_up ad h.length q)))) at kf
  rw [e1, e2, e3] at kf
  exact kf
theorem S_newZ {n : Int32} {N : Nat} (w : (Cond.arrayClass .boolean) ∈ lw_gd) (hn : ¬ n < 0) (hN : n.toNatClampNeg = N) (hb4 : N * componentBytes .boolean ≤ 536870912) (hdg : decode cc pc = .ok (.newarray .boolean, 2)) (k : Sim K L cc own nm nL d hp E (pc + 2) ls (.ref h.length :: st) (h ++ [xaZ0 N]) X) : Sim K L cc own nm nL d hp E pc ls (.int n :: st) h X := by
  obtain ⟨p, l, e, s, m, args, below, meth, c⟩ := K
  obtain ⟨D, tA, base, ro, rd, ad0, n0, z0⟩ := L
  have hsz : xz (h ++ [xaZ0 N]) = xz h + N := by rw [xz_push]; rfl
  refine Sim.step (h' := h ++ [xaZ0 N]) ⟨by rw [List.length_append]; omega, by rw [hsz]; omega⟩ (fun C R Q b1 b2 b3 b4 k ad H locs lsA hI hc hl => ?_) k
  obtain ⟨hx, hb, hml, hown, hts, hG, hnm⟩ := C
  have hi := hI
  obtain ⟨i1, i2, i3, -, -, -, i7, i8, -, -⟩ := hi
  rw [hsz] at b4
  have b3' : h.length + 1 - n0 ≤ R.cells := by have := b3; rw [List.length_append] at this; exact this
  have b4' : xz h + N - z0 ≤ R.slots := b4
  refine va_newa (atype := .boolean) (ty := .boolean) (a0 := (N, .inl (fun _ => 0))) (D := D) hx hb (hts _ w) rfl hG.1 i1 i2 i3 (fun q hq => Nat.le_trans hG.2.1 hq) (fun _ => rfl) hn hN hb4 (by show h.length - n0 + 1 ≤ R.cells; omega) (by show xz h - z0 + N ≤ R.slots; omega) hdg (fun q cA H1 hK hP hD hS => ?_)
  have hcA : cA = tA 1 := Option.some.inj (((hK.2 5 (cA, .boolean) rfl).2 : s.vm.findClass _ = some cA).symm.trans ((hG.1.2 1 (tA 1, .boolean) rfl).2 : s.vm.findClass _ = some (tA 1)))
  subst hcA
  obtain ⟨hI', hag⟩ := hI.push (e1 := xaZ0 N) trivial hP hD hS
  have kf := k (va_up ad h.length q) H1 locs lsA hI' ⟨fun q hq => xcv_le (by rw [List.length_append]; omega) (hc.1 q hq), xcc (xcv_r (by rw [List.length_append]; exact Nat.lt_succ_self _)) (fun v hv => xcv_le (by rw [List.length_append]; omega) (xct hc.2 v hv))⟩ (by rw [xl_agree hc.1 hag]; exact hl)
  have e1 : (h ++ [xaZ0 N]).length - n0 = h.length - n0 + 1 := by rw [List.length_append]; show h.length + 1 - n0 = _; omega
  have e2 : xz (h ++ [xaZ0 N]) - z0 = xz h - z0 + N := by rw [hsz]; omega
  have e3 : (Value.ref h.length :: st).map (xv (va_up ad h.length q)) = .ref q :: st.map (xv ad) := by
    show Value.ref (va_up ad h.length q h.length) :: st.map (xv (va_up ad h.length q)) = _
    rw [xm_agree (xct hc.2) hag]
    unfold va_up
    rw [if_pos rfl]
  change W p l e R s m args below meth c H1 locs ((h ++ [xaZ0 N]).length - n0) (xz (h ++ [xaZ0 N]) - z0) Q (F0 m (pc + 2) lsA ((Value.ref h.length :: st).map (xv (va_up ad h.length q)))) at kf
  rw [e1, e2, e3] at kf
  exact kf
theorem S_newQ {n : Int32} {N t : Nat} {Cn : String} (ht : ∀ tA, (xT tA)[t]? = some (tA t, .object Cn)) (hao : Cn ∈ xAO) (wcl : (Cond.classLink own idx Cn) ∈ lw_gd) (hn : ¬ n < 0) (hN : n.toNatClampNeg = N) (hb4 : N * 4 ≤ 536870912) (hdg : decode cc pc = .ok (.anewarray idx, 3)) (k : Sim K L cc own nm nL d hp E (pc + 3) ls (.ref h.length :: st) (h ++ [xaR0 t N]) X) : Sim K L cc own nm nL d hp E pc ls (.int n :: st) h X := by
  obtain ⟨p, l, e, s, m, args, below, meth, c⟩ := K
  obtain ⟨D, tA, base, ro, rd, ad0, n0, z0⟩ := L
  have hsz : xz (h ++ [xaR0 t N]) = xz h + N := by rw [xz_push]; rfl
  refine Sim.step (h' := h ++ [xaR0 t N]) ⟨by rw [List.length_append]; omega, by rw [hsz]; omega⟩ (fun C R Q b1 b2 b3 b4 k ad H locs lsA hI hc hl => ?_) k
  obtain ⟨hx, hb, hml, hown, hts, hG, hnm⟩ := C
  have hi := hI
  obtain ⟨i1, i2, i3, -, -, -, i7, i8, -, -⟩ := hi
  rw [hsz] at b4
  have b3' : h.length + 1 - n0 ≤ R.cells := by have := b3; rw [List.length_append] at this; exact this
  have b4' : xz h + N - z0 ≤ R.slots := b4
  refine va_newq (D := D) hx hb hown (hts _ wcl) (hG.2.2.2.2.2.2.2.2.2.2.2 _ hao) hG.1 i1 i2 i3 (fun q hq => Nat.le_trans hG.2.1 hq) hn hN hb4 (by show h.length - n0 + 1 ≤ R.cells; omega) (by show xz h - z0 + N ≤ R.slots; omega) hdg (fun q cA H1 hK hP hD hS => ?_)
  have hcA : cA = tA t := by
    obtain ⟨-, -, -, -, -, u1⟩ := ((hK.2 5 (cA, .object Cn) rfl).2 : va_RA s cA (.object Cn))
    obtain ⟨-, -, -, -, -, u2⟩ := ((hG.1.2 t (tA t, .object Cn) (ht tA)).2 : va_RA s (tA t) (.object Cn))
    exact Option.some.inj (u1.symm.trans u2)
  subst hcA
  obtain ⟨hI', hag⟩ := hI.push (e1 := xaR0 t N) (fun j a hj => by cases hj) hP hD hS
  have kf := k (va_up ad h.length q) H1 locs lsA hI' ⟨fun q hq => xcv_le (by rw [List.length_append]; omega) (hc.1 q hq), xcc (xcv_r (by rw [List.length_append]; exact Nat.lt_succ_self _)) (fun v hv => xcv_le (by rw [List.length_append]; omega) (xct hc.2 v hv))⟩ (by rw [xl_agree hc.1 hag]; exact hl)
  have e1 : (h ++ [xaR0 t N]).length - n0 = h.length - n0 + 1 := by rw [List.length_append]; show h.length + 1 - n0 = _; omega
  have e2 : xz (h ++ [xaR0 t N]) - z0 = xz h - z0 + N := by rw [hsz]; omega
  have e3 : (Value.ref h.length :: st).map (xv (va_up ad h.length q)) = .ref q :: st.map (xv ad) := by
    show Value.ref (va_up ad h.length q h.length) :: st.map (xv (va_up ad h.length q)) = _
    rw [xm_agree (xct hc.2) hag]
    unfold va_up
    rw [if_pos rfl]
  change W p l e R s m args below meth c H1 locs ((h ++ [xaR0 t N]).length - n0) (xz (h ++ [xaR0 t N]) - z0) Q (F0 m (pc + 3) lsA ((Value.ref h.length :: st).map (xv (va_up ad h.length q)))) at kf
  rw [e1, e2, e3] at kf
  exact kf
theorem S_objInit (hd : 1 ≤ d) (wl : (Cond.methodLink own idx objectInit) ∈ lw_gd) (wi : (Cond.instanceMethod objectInit) ∈ lw_gd) (wc : (Cond.code objectInit ⟨#[0xb1]⟩ 1 none) ∈ lw_gd) (hcat : (st.map fun v => v.category).sum ≤ 8) (hdg : decode cc pc = .ok (.invokespecial idx, 3)) (k : Sim K L cc own nm nL d hp E (pc + 3) ls st h X) : Sim K L cc own nm nL d hp E pc ls (.ref a :: st) h X := by
  obtain ⟨p, l, e, s, m, args, below, meth, c⟩ := K
  obtain ⟨D, tA, base, ro, rd, ad0, n0, z0⟩ := L
  refine Sim.step0 (fun C R Q b1 b2 _ _ k ad H locs lsA hI hc hl => ?_) k
  obtain ⟨hx, hb, hml, hown, hts, hG, hnm⟩ := C
  have hr : 2 * (F0 m pc lsA ((Value.ref a :: st).map (xv ad))).monitorRoom + ((st.map (xv ad)).map fun v => v.category).sum ≤ 8 := lv_room (by rw [x_cat]; exact hcat)
  refine W.objInit hx hb hown (hts _ wl) (hts _ wi) (hts _ wc) rfl (by rw [hml]; exact hl.1) rfl hdg (by omega) (by omega) ?_
  exact k ad H locs lsA hI ⟨hc.1, xct hc.2⟩ hl
theorem S_acp {F : xH → Option ρ} {b : Nat} {sp dp n : Int32} (hd : 1 ≤ d) (wl : (Cond.methodLink own idx arraycopyName) ∈ lw_gd) (w1 : (Cond.native arraycopyName) ∈ lw_gd) (w2 : (Cond.static arraycopyName) ∈ lw_gd) (w3 : (Cond.initialized "java/lang/System") ∈ lw_gd) (hcat : (st.map fun v => v.category).sum ≤ 8) (hdg : decode cc pc = .ok (.invokestatic idx, 3)) (kk : ∀ h1, Sim K L cc own nm nL d hp E (pc + 3) ls st h1 (F h1)) : Sim K L cc own nm nL d hp E pc ls (.int n :: .int dp :: .ref b :: .int sp :: .ref a :: st) h ((xcp h a sp b dp n).bind F) := by
  obtain ⟨p, l, e, s, m, args, below, meth, c⟩ := K
  obtain ⟨D, tA, base, ro, rd, ad0, n0, z0⟩ := L
  intro q hq
  obtain ⟨h1, e1, e2⟩ := Option.bind_eq_some_iff.mp hq
  obtain ⟨mo, k2⟩ := kk h1 q e2
  obtain ⟨N0, f, N1, g, he, hg, h3a, h3b, g1, g2, g3, g4, g5, rfl⟩ := xcp_spec e1
  have hs : xs (.inl (0, N1, .inl (va_cpy f g sp.toNatClampNeg dp.toNatClampNeg n.toNatClampNeg))) = xs (.inl (0, N1, .inl g)) := rfl
  rw [List.length_set, xz_set hg hs] at mo
  refine ⟨mo, fun C R Q a1 a2 a3 a4 hE ad H locs lsA hI hc hl => ?_⟩
  have k2 := k2 C
  obtain ⟨hx, hb, hml, hown, hts, hG, hnm⟩ := C
  have hi := hI
  obtain ⟨i1, i2, i3, -⟩ := hi
  refine va_copyi (f := f) (g := g) (ty := .int) hx hb (by rw [hml]; exact hl.1.symm) hown (hts _ wl) (hts _ w1) (hts _ w2) (hts _ w3) hG.1 i1 i2 i3 (a - 3) (b - 3) 0 0 (xw_get h3a he) (xw_get h3b hg) rfl rfl rfl g1 g2 g3 g4 g5 (fun _ _ => rfl) (by omega) (by rw [x_cat]; show _ + (7 + 11) ≤ R.locals; omega) hdg (fun H1 locs1 hP hD hS => ?_)
  have hI' := hI.set (e1 := .inl (0, N1, .inl (va_cpy f g sp.toNatClampNeg dp.toNatClampNeg n.toNatClampNeg))) h3b hg hs trivial hP hD hS
  have := k2 R Q a1 a2 a3 a4 hE ad H1 locs1 lsA hI' (by rw [List.length_set]; exact ⟨hc.1, xct (xct (xct (xct (xct hc.2))))⟩) hl
  rw [List.length_set, xz_set hg hs] at this
  exact this
theorem S_mmax {x y : Int32} (hd : 1 ≤ d) (wl : (Cond.methodLink own idx Lib.Math.max.name) ∈ lw_gd) (wt : (Cond.static Lib.Math.max.name) ∈ lw_gd) (wi : (Cond.initialized "java/lang/Math") ∈ lw_gd) (wc : (Cond.code Lib.Math.max.name Lib.Math.max.code 2 (some .int)) ∈ lw_gd) (hcat : (st.map fun v => v.category).sum ≤ 8) (hdg : decode cc pc = .ok (.invokestatic idx, 3)) (k : Sim K L cc own nm nL d hp E (pc + 3) ls (.int (if x < y then y else x) :: st) h X) : Sim K L cc own nm nL d hp E pc ls (.int y :: .int x :: st) h X := by
  obtain ⟨p, l, e, s, m, args, below, meth, c⟩ := K
  obtain ⟨D, tA, base, ro, rd, ad0, n0, z0⟩ := L
  refine Sim.step0 (fun C R Q b1 b2 b3 b4 k ad H locs lsA hI hc hl => ?_) k
  obtain ⟨hx, hb, hml, hown, hts, hG, hnm⟩ := C
  exact va_mmax hx hb (by rw [hml]; exact hl.1.symm) hown (hts _ wl) (hts _ wt) (hts _ wi) (hts _ wc) (by omega) (by rw [x_cat]; omega) b3 b4 hdg (k ad H locs lsA hI ⟨hc.1, xcc xcv_i (xct (xct hc.2))⟩ hl)
theorem S_mmin {x y : Int32} (hd : 1 ≤ d) (wl : (Cond.methodLink own idx Lib.Math.min.name) ∈ lw_gd) (wt : (Cond.static Lib.Math.min.name) ∈ lw_gd) (wi : (Cond.initialized "java/lang/Math") ∈ lw_gd) (wc : (Cond.code Lib.Math.min.name Lib.Math.min.code 2 (some .int)) ∈ lw_gd) (hcat : (st.map fun v => v.category).sum ≤ 8) (hdg : decode cc pc = .ok (.invokestatic idx, 3)) (k : Sim K L cc own nm nL d hp E (pc + 3) ls (.int (if y < x then y else x) :: st) h X) : Sim K L cc own nm nL d hp E pc ls (.int y :: .int x :: st) h X := by
  obtain ⟨p, l, e, s, m, args, below, meth, c⟩ := K
  obtain ⟨D, tA, base, ro, rd, ad0, n0, z0⟩ := L
  refine Sim.step0 (fun C R Q b1 b2 b3 b4 k ad H locs lsA hI hc hl => ?_) k
  obtain ⟨hx, hb, hml, hown, hts, hG, hnm⟩ := C
  exact va_mmin hx hb (by rw [hml]; exact hl.1.symm) hown (hts _ wl) (hts _ wt) (hts _ wi) (hts _ wc) (by omega) (by rw [x_cat]; omega) b3 b4 hdg (k ad H locs lsA hI ⟨hc.1, xcc xcv_i (xct (xct hc.2))⟩ hl)
def xio (ys ns : List Nat) (h : xH) (a : Nat) : Option Int32 := match xk h a with
  | some ci => if ys.elem ci = true then some 1 else if ns.elem ci = true then some 0 else none
  | none => none
theorem S_inst {F : Int32 → Option ρ} {ys ns : List Nat} {tn : String} (wl : (Cond.classLink own idx tn) ∈ lw_gd) (hys : ∀ ci ∈ ys, ∃ q, vwCl[ci]? = some q ∧ (q.1 = tn ∨ (q.1, tn) ∈ xNC)) (hns : ∀ ci ∈ ns, ∃ q, vwCl[ci]? = some q ∧ (q.1, tn) ∈ xNc) (hdg : decode cc pc = .ok (.instanceof idx, 3)) (kk : ∀ v, Sim K L cc own nm nL d hp E (pc + 3) ls (.int v :: st) h (F v)) : Sim K L cc own nm nL d hp E pc ls (.ref a :: st) h ((xio ys ns h a).bind F) := by
  obtain ⟨p, l, e, s, m, args, below, meth, c⟩ := K
  obtain ⟨D, tA, base, ro, rd, ad0, n0, z0⟩ := L
  intro q hq
  obtain ⟨v, e1, e2⟩ := Option.bind_eq_some_iff.mp hq
  obtain ⟨mo, k2⟩ := kk v q e2
  refine ⟨mo, fun C R Q a1 a2 a3 a4 hE ad H locs lsA hI hc hl => ?_⟩
  have k2 := k2 C
  obtain ⟨hx, hb, hml, hown, hts, hG, hnm⟩ := C
  have kf := k2 R Q a1 a2 a3 a4 hE ad H locs lsA hI ⟨hc.1, xcc xcv_i (xct hc.2)⟩ hl
  unfold xio at e1
  split at e1
  · next ci hk =>
    obtain ⟨fs, he⟩ := xk_spec hk
    have h3 := hI.obj hG he
    have hi := hI
    obtain ⟨i1, -⟩ := hi
    split at e1
    · next hy =>
      cases e1
      obtain ⟨q0, u1, u2⟩ := hys ci (List.mem_of_elem_eq_true hy)
      have hrc := va_recv hG.1 i1 u1 (xw_get (tA := tA) (ad := ad) h3 he)
      rcases u2 with z | z
      · subst z
        exact va_instS hx hb hown (hts _ wl) (hG.1.1 ci q0 u1).2 hrc hdg kf
      · exact va_instY hx hb hown (hts _ wl) (hG.2.2.2.2.2.2.2.2.2.1 _ z) hrc hdg kf
    · split at e1
      · next hn =>
        cases e1
        obtain ⟨q0, u1, u2⟩ := hns ci (List.mem_of_elem_eq_true hn)
        have hrc := va_recv hG.1 i1 u1 (xw_get (tA := tA) (ad := ad) h3 he)
        exact va_instNo hx hb hown (hts _ wl) (hG.2.2.2.2.2.2.2.2.2.2.1 _ u2) hrc hdg kf
      · cases e1
  · cases e1
end XALLOC
/-! a method's contract out of the walk of its body -/
theorem xl_args (ad : Nat → Nat) (i : Nat) (av : List Value) : xl ad (lv_args i av) = lv_args i (av.map (xv ad)) := by
  induction av generalizing i with
  | nil => rfl
  | cons v vs ih =>
    show (i, xv ad v) :: xl ad (lv_args (if v.category = 2 then i + 2 else i + 1) vs) = (i, xv ad v) :: lv_args (if (xv ad v).category = 2 then i + 2 else i + 1) (vs.map (xv ad))
    rw [xv_cat, ih]
theorem x_sl (ad : Nat → Nat) (av : List Value) : (lg_sl (av.map (xv ad))).length = (lg_sl av).length := by
  induction av with
  | nil => rfl
  | cons v vs ih =>
    have e : ∀ (w : Value) (ws : List Value), (lg_sl (w :: ws)).length = (if w.category = 2 then 2 else 1) + (lg_sl ws).length := by
      intro w ws
      simp only [lg_sl, List.flatMap_cons, List.length_append]
      split <;> rfl
    rw [List.map_cons, e, e, xv_cat, ih]
theorem lv_args_mem {n : Nat} : ∀ (av : List Value) (i : Nat), (∀ v ∈ av, xcv n v) → ∀ q ∈ lv_args i av, xcv n q.2
  | [], _, _, q, hq => by cases hq
  | v :: vs, i, h, q, hq => by
    rcases List.mem_cons.mp hq with e | e
    · rw [e]; exact h v List.mem_cons_self
    · exact lv_args_mem vs _ (fun w hw => h w (List.mem_cons_of_mem _ hw)) q e
/-- how a method ends: an int, a boolean, a long, a reference, nothing -/
abbrev xRi (cc : ByteArray) : xE (Int32 × xH) := fun q pc _ st h => decode cc pc = .ok (.ireturn, 1) ∧ st = [.int q.1] ∧ h = q.2
abbrev xRz (cc : ByteArray) : xE (Int32 × xH) := fun q pc _ st h => decode cc pc = .ok (.ireturn, 1) ∧ st = [.int q.1] ∧ h = q.2 ∧ narrow .boolean (.int q.1) = .int q.1
abbrev xRl (cc : ByteArray) : xE (Int64 × xH) := fun q pc _ st h => decode cc pc = .ok (.lreturn, 1) ∧ st = [.long q.1] ∧ h = q.2
abbrev xRr (cc : ByteArray) : xE (Nat × xH) := fun q pc _ st h => decode cc pc = .ok (.areturn, 1) ∧ st = [.ref q.1] ∧ h = q.2
abbrev xRv (cc : ByteArray) : xE xH := fun q pc _ st h => decode cc pc = .ok (.return_, 1) ∧ st = [] ∧ h = q
theorem xM_of {ρ : Type} {l : Launch} {y : MethodName} {cc : ByteArray} {nL d : Nat} {ret : Option FieldType} {av : List Value} {h : xH} {Y : Option ρ} {hp : ρ → xH} {rv : ρ → Option Value} {E : xE ρ} (hy : plainName y.cls = true) (hlen : (lg_sl av).length ≤ nL)
    (hS : ∀ K L, Sim K L cc y.cls y.name nL d hp E 0 (lv_args 0 av) [] h Y)
    (hret : ∀ (p : Program) (e : Env) (s : State) (m : MethodId) (args : Array Value) (below : List Frame) (meth : Method) (c : Code) (R : Room) (q : ρ) (pc : Nat) (ls' : List (Nat × Value)) (st' : List Value) (h' : xH) (H : Heap) (locs : List Loc) (lsA : Array Slot) (ad : Nat → Nat) (cells slots : Nat) (Qc : Array Value → State → Outcome → State → Prop) (free : Addr → Prop), E q pc ls' st' h' → p.tables.exec = Jvm.exec → c.code = cc → meth.sig.returnType = ret → meth.locks = false → (∀ t : State, t.heap = H → s.WarmedH t.vm → Qc args s (.returned ((rv q).map (xv ad))) t) → (∀ q ∈ locs, free q.base) → W p l e R s m args below meth c H locs cells slots (MQ below Qc args s cells slots free) (F0 m pc lsA (st'.map (xv ad))))
    (hE : ∀ q pc ls' st' h', E q pc ls' st' h' → h' = hp q ∧ st' = (rv q).toList) {q : ρ} (hq : Y = some q) : xM l y cc nL ret d av h (rv q) (hp q) := by
  refine ⟨fun K => (hS K ((fun _ => 0, fun _ _ => 0), id, 0, [], id, id, 0, 0) q hq).1, fun D tA base ro rd ad => ?_⟩
  refine Met.ofW (cc := cc) (maxL := nL) (ret := ret) hy rfl ?_
  intro p e s m args below meth c s₁ B hml hv
  obtain ⟨rfl, v1, v2, v3, v4, v5, v6, v7, v8⟩ := hv
  have hts := atoms_spec (ws := Cond.code y cc nL ret :: lw_gd) B.pre
  have hown : s.vm.findClass y.cls = some m.cls := findClass_of_methodNamed B.named
  have hnm : meth.name = y.name := (name_of_methodNamed B.named B.method).1
  have hlocks := B.notSynchronized
  obtain ⟨mo, k⟩ := hS (p, l, e, s, m, (av.map (xv ad)).toArray, below, meth, c) (D, tA, base, ro, rd, ad, h.length, xz h) q hq
  have hS0 : va_S (fun q => base ≤ q) s.heap s.heap [] := va_S.rf
  have kk := k ⟨B.exec, B.bytes, hml, hown, fun w hw => hts w (List.mem_cons_of_mem _ hw), v1, hnm⟩ { frames := d, cells := (hp q).length - h.length, slots := xz (hp q) - xz h, locals := 32 * d } (MQ below (xQc D tA base ro ad h (rv q) (hp q)) (av.map (xv ad)).toArray s ((hp q).length - h.length) (xz (hp q) - xz h) (fun q => base ≤ q)) (Nat.le_refl _) (Nat.le_refl _) (Nat.le_refl _) (Nat.le_refl _) (fun pc' ls' st' h' hEq => ?_)
  · have hl := lv_entry (av.map (xv ad)) (n := nL) (by rw [x_sl]; exact hlen)
    rw [lg_entry_eq]
    have := kk ad s.heap [] ((lg_sl (av.map (xv ad)) ++ List.replicate (nL - (lg_sl (av.map (xv ad))).length) Slot.unset).toArray) ⟨v2, v3, hS0, fun _ _ => rfl, v4, v5, Nat.le_refl _, Nat.le_refl _, v7, v6⟩ ⟨lv_args_mem av 0 v8, fun v hv => by cases hv⟩ (by rw [xl_args]; exact hl)
    change W p l e _ s m _ below meth c s.heap [] (h.length - h.length) (xz h - xz h) _ _ at this
    rw [Nat.sub_self, Nat.sub_self] at this
    exact this
  · obtain ⟨rfl, e2⟩ := hE q pc' ls' st' h' hEq
    intro ad' H locs lsA hI hc hl
    obtain ⟨i1, i2, i3, i4, i5, i6, i7, i8, i9, i10⟩ := hI
    refine hret p e s m _ below meth c _ q pc' ls' st' _ H locs lsA ad' _ _ _ _ hEq B.exec B.bytes B.returns hlocks (fun t ht hW => ⟨⟨ad', rfl, i4, by rw [ht]; exact i1, i2, i6, i9, fun v hv => hc.2 v ?_⟩, i3.F ht⟩) i3.2.2
    rw [e2, hv]
    exact List.mem_cons_self
theorem xM_i {l : Launch} {y : MethodName} {cc : ByteArray} {nL d : Nat} {av : List Value} {h : xH} {Y : Option (Int32 × xH)} (hy : plainName y.cls = true) (hlen : (lg_sl av).length ≤ nL) (hS : ∀ K L, Sim K L cc y.cls y.name nL d (fun q : Int32 × xH => q.2) (xRi cc) 0 (lv_args 0 av) [] h Y) {q : Int32 × xH} (hq : Y = some q) : xM l y cc nL (some .int) d av h (some (.int q.1)) q.2 := by
  refine xM_of (hp := fun q : Int32 × xH => q.2) (rv := fun q : Int32 × xH => some (.int q.1)) hy hlen hS ?_ ?_ hq
  · intro p e s m args below meth c R q pc ls' st' h' H locs lsA ad cells slots Qc free hE hx hb hr hlocks hQ hf
    obtain ⟨e1, rfl, rfl⟩ := hE
    exact W.iret hx hb hr hQ hf e1 hlocks
  · rintro q pc ls' st' h' ⟨-, e2, e3⟩
    exact ⟨e3, e2⟩
theorem xM_z {l : Launch} {y : MethodName} {cc : ByteArray} {nL d : Nat} {av : List Value} {h : xH} {Y : Option (Int32 × xH)} (hy : plainName y.cls = true) (hlen : (lg_sl av).length ≤ nL) (hS : ∀ K L, Sim K L cc y.cls y.name nL d (fun q : Int32 × xH => q.2) (xRz cc) 0 (lv_args 0 av) [] h Y) {q : Int32 × xH} (hq : Y = some q) : xM l y cc nL (some .boolean) d av h (some (.int q.1)) q.2 := by
  refine xM_of (hp := fun q : Int32 × xH => q.2) (rv := fun q : Int32 × xH => some (.int q.1)) hy hlen hS ?_ ?_ hq
  · intro p e s m args below meth c R q pc ls' st' h' H locs lsA ad cells slots Qc free hE hx hb hr hlocks hQ hf
    obtain ⟨e1, rfl, rfl, hn⟩ := hE
    exact W.zret hx hb hr hn hQ hf e1 hlocks
  · rintro q pc ls' st' h' ⟨-, e2, e3, -⟩
    exact ⟨e3, e2⟩
theorem xM_l {l : Launch} {y : MethodName} {cc : ByteArray} {nL d : Nat} {av : List Value} {h : xH} {Y : Option (Int64 × xH)} (hy : plainName y.cls = true) (hlen : (lg_sl av).length ≤ nL) (hS : ∀ K L, Sim K L cc y.cls y.name nL d (fun q : Int64 × xH => q.2) (xRl cc) 0 (lv_args 0 av) [] h Y) {q : Int64 × xH} (hq : Y = some q) : xM l y cc nL (some .long) d av h (some (.long q.1)) q.2 := by
  refine xM_of (hp := fun q : Int64 × xH => q.2) (rv := fun q : Int64 × xH => some (.long q.1)) hy hlen hS ?_ ?_ hq
  · intro p e s m args below meth c R q pc ls' st' h' H locs lsA ad cells slots Qc free hE hx hb hr hlocks hQ hf
    obtain ⟨e1, rfl, rfl⟩ := hE
    exact W.lret hx hb hr hQ hf e1 hlocks
  · rintro q pc ls' st' h' ⟨-, e2, e3⟩
    exact ⟨e3, e2⟩
theorem xM_r {l : Launch} {y : MethodName} {cc : ByteArray} {nL d : Nat} {rt : String} {av : List Value} {h : xH} {Y : Option (Nat × xH)} (hy : plainName y.cls = true) (hlen : (lg_sl av).length ≤ nL) (hS : ∀ K L, Sim K L cc y.cls y.name nL d (fun q : Nat × xH => q.2) (xRr cc) 0 (lv_args 0 av) [] h Y) {q : Nat × xH} (hq : Y = some q) : xM l y cc nL (some (.object rt)) d av h (some (.ref q.1)) q.2 := by
  refine xM_of (hp := fun q : Nat × xH => q.2) (rv := fun q : Nat × xH => some (.ref q.1)) hy hlen hS ?_ ?_ hq
  · intro p e s m args below meth c R q pc ls' st' h' H locs lsA ad cells slots Qc free hE hx hb hr hlocks hQ hf
    obtain ⟨e1, rfl, rfl⟩ := hE
    exact W.aret (v := .ref (ad q.1)) hx hb hr (Or.inl ⟨rt, rfl⟩) (Or.inr ⟨_, rfl⟩) hQ hf e1 hlocks
  · rintro q pc ls' st' h' ⟨-, e2, e3⟩
    exact ⟨e3, e2⟩
theorem xM_v {l : Launch} {y : MethodName} {cc : ByteArray} {nL d : Nat} {av : List Value} {h : xH} {Y : Option xH} (hy : plainName y.cls = true) (hlen : (lg_sl av).length ≤ nL) (hS : ∀ K L, Sim K L cc y.cls y.name nL d (fun q : xH => q) (xRv cc) 0 (lv_args 0 av) [] h Y) {q : xH} (hq : Y = some q) : xM l y cc nL none d av h none q := by
  refine xM_of (hp := fun q : xH => q) (rv := fun _ : xH => none) hy hlen hS ?_ ?_ hq
  · intro p e s m args below meth c R q pc ls' st' h' H locs lsA ad cells slots Qc free hE hx hb hr hlocks hQ hf
    obtain ⟨e1, rfl, rfl⟩ := hE
    exact W.vret hx hb hr hQ hf e1 hlocks
  · rintro q pc ls' st' h' ⟨-, e2, e3⟩
    exact ⟨e3, e2⟩
