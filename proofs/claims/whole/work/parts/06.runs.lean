theorem x_gs {ws : List Cond} (h : ∀ w ∈ ws, w ∈ lw_gd) : GoodIn lw_gd ws := fun w hw => ⟨h w hw, good_of_word (x_gdG (h w hw))⟩
theorem x_gc {a : Cond} (ha : a ∈ lw_gd) : ∀ w ∈ a :: lw_gd, w ∈ lw_gd := fun w hw => (List.mem_cons.mp hw).elim (fun e => e ▸ ha) id
def xk (h : xH) (a : Nat) : Option Nat := match h[a]? with
  | some (.inr (c, _)) => some c
  | _ => none
theorem xk_spec {h : xH} {a c : Nat} (hk : xk h a = some c) : ∃ fs, h[a]? = some (.inr (c, fs)) := by
  unfold xk at hk
  split at hk
  · next c' fs he => cases hk; exact ⟨fs, he⟩
  · cases hk
theorem xI.obj {s : State} {D : va_G} {tA : Nat → Nat} {base : Nat} {ro : xH} {rd ad0 : Nat → Nat} {n0 z0 : Nat} {ad : Nat → Nat} {h : xH} {H : Heap} {locs : List Loc} (hG : xG D tA base ro rd s) (hI : xI s (D, tA, base, ro, rd, ad0, n0, z0) ad h H locs) {a : Nat} {x : Nat × List Value} (he : h[a]? = some (.inr x)) : 3 ≤ a := by
  rcases Nat.lt_or_ge a 3 with hl | hl
  · obtain ⟨i1, i2, i3, i4, i5, i6, -⟩ := hI
    obtain ⟨-, -, -, -, -, h6, -⟩ := hG
    obtain ⟨n, f, e1, -⟩ := h6 a hl
    rw [xtake_at i6 hl, e1] at he
    cases he
  · exact hl
theorem x_preS {s : State} {D : va_G} {tA : Nat → Nat} {base : Nat} {ro : xH} {rd ad0 : Nat → Nat} {n0 z0 : Nat} {ad : Nat → Nat} {h : xH} {H : Heap} {locs : List Loc} {av : List Value} (hG : xG D tA base ro rd s) (hI : xI s (D, tA, base, ro, rd, ad0, n0, z0) ad h H locs) (hav : ∀ v ∈ av, xcv h.length v) : PreS s H (xPc D tA base ro rd ad h av) (av.map (xv ad)) := by
  obtain ⟨i1, i2, i3, i4, i5, i6, i7, i8, i9, i10⟩ := hI
  refine ⟨fun a U g mk q => ⟨q.1, xG.same q.2.1 rfl rfl, q.2.2⟩, fun U hU hW => ⟨rfl, xG.go hG (by rw [hU]; exact i3.1) (fun q h1 h2 => by rw [hU]; exact i3.2.1 q h1 h2) hW, by rw [hU]; exact i1, i2, i5, i6, by omega, i9, hav⟩⟩
theorem x_cat (ad : Nat → Nat) (rest : List Value) : ((rest.map (xv ad)).map fun v => v.category).sum = (rest.map fun v => v.category).sum := by
  rw [List.map_map]
  congr 1
  apply List.map_congr_left
  intro v _
  exact xv_cat ad v
section RUNS
variable {K : xK} {L : xL} {nL d pc : Nat} {ls : List (Nat × Value)} {st rest : List Value} {h h1 : xH} {r : Option Value} {cc cy : ByteArray} {own nm : String} {y : MethodName} {ny dy idx b ci : Nat} {ret : Option FieldType} {av : List Value}
theorem R_S (hM : xM K.2.1 y cy ny ret dy av h r h1) (wc : (Cond.code y cy ny ret) ∈ lw_gd) (wl : (Cond.methodLink own idx y) ∈ lw_gd) (wt : (Cond.static y) ∈ lw_gd) (wi : (Cond.initialized y.cls) ∈ lw_gd) (hd : y.cls ≠ "java/lang/invoke/MethodHandle" ∧ y.cls ≠ "java/lang/invoke/VarHandle" ∧ (parseMethodDescriptor y.desc).map (fun d => d.parameters.length) = some av.length) (hR : dy + 1 ≤ d ∧ ny ≤ 13) (hst : st = av.reverse ++ rest) (hcat : (rest.map fun v => v.category).sum ≤ 8) (hdg : decode cc pc = .ok (.invokestatic idx, 3)) : xRun K L cc own nm nL d pc ls st rest h r h1 := by
  obtain ⟨p, l, e, s, m, args, below, meth, c⟩ := K
  obtain ⟨D, tA, base, ro, rd, ad0, n0, z0⟩ := L
  have m0 := hM.1 (p, l, e, s, m, args, below, meth, c)
  refine ⟨m0.1, m0.2, fun C R b1 b2 b3 b4 ad H locs lsA hI hc hl => ⟨(av.map (xv ad)).toArray, ?_⟩⟩
  have hn0 := hI
  obtain ⟨-, -, -, -, -, -, i7, i8, -⟩ := hn0
  obtain ⟨m1, m2⟩ := m0
  obtain ⟨hx, hb, hml, hown, hts, hG, hnm⟩ := C
  subst hst
  refine va_runS (Ts := lw_gd) (As := av.map (xv ad)) (rest := rest.map (xv ad)) ⟨hx, hb, hml, hown, hts⟩ (hM.2 D tA base ro rd ad) (va_cwS av.length hts (x_gs ?_) rfl rfl rfl hd ⟨?_, ?_⟩) (x_preS hG hI (fun v hv => hc.2 v (List.mem_append_left _ (List.mem_reverse.mpr hv)))) rfl (List.length_map ..) hl.1 (by simp) (lv_room (by rw [x_cat]; exact hcat)) hdg ⟨by omega, by omega⟩
  · intro w hw
    simp only [va_wsS, List.mem_append, List.mem_cons, List.not_mem_nil, or_false] at hw
    rcases hw with (h | h | h) | h
    · rw [h]; exact wl
    · rw [h]; exact wt
    · rw [h]; exact wi
    · exact x_gc wc w (List.mem_cons.mpr h)
  · show dy + 1 ≤ R.frames
    omega
  · show 8 + (ny + 11) + 32 * dy ≤ R.locals
    omega
theorem R_SN {host : String} (hM : xM K.2.1 y cy ny ret dy av h r h1) (wc : (Cond.code y cy ny ret) ∈ lw_gd) (wl : (own, idx, y, host) ∈ xNM) (wt : (Cond.static y) ∈ lw_gd) (wi : (Cond.initialized y.cls) ∈ lw_gd) (hd : y.cls ≠ "java/lang/invoke/MethodHandle" ∧ y.cls ≠ "java/lang/invoke/VarHandle" ∧ (parseMethodDescriptor y.desc).map (fun d => d.parameters.length) = some av.length) (hR : dy + 1 ≤ d ∧ ny ≤ 13) (hst : st = av.reverse ++ rest) (hcat : (rest.map fun v => v.category).sum ≤ 8) (hdg : decode cc pc = .ok (.invokestatic idx, 3)) : xRun K L cc own nm nL d pc ls st rest h r h1 := by
  obtain ⟨p, l, e, s, m, args, below, meth, c⟩ := K
  obtain ⟨D, tA, base, ro, rd, ad0, n0, z0⟩ := L
  have m0 := hM.1 (p, l, e, s, m, args, below, meth, c)
  refine ⟨m0.1, m0.2, fun C R b1 b2 b3 b4 ad H locs lsA hI hc hl => ⟨(av.map (xv ad)).toArray, ?_⟩⟩
  have hn0 := hI
  obtain ⟨-, -, -, -, -, -, i7, i8, -⟩ := hn0
  obtain ⟨m1, m2⟩ := m0
  obtain ⟨hx, hb, hml, hown, hts, hG, hnm⟩ := C
  subst hst
  refine va_runSN (Ts := lw_gd) (As := av.map (xv ad)) (rest := rest.map (xv ad)) ⟨hx, hb, hml, hown, hts⟩ (hM.2 D tA base ro rd ad) ⟨va_cnB av.length hts (x_gs (x_gc wc)) rfl rfl rfl (hG.2.2.2.2.2.2.1 _ wl) (hts _ wi) hd ⟨?_, ?_⟩, hts _ wt, trivial⟩ (x_preS hG hI (fun v hv => hc.2 v (List.mem_append_left _ (List.mem_reverse.mpr hv)))) rfl (List.length_map ..) hl.1 (by simp) (lv_room (by rw [x_cat]; exact hcat)) hdg ⟨by omega, by omega⟩
  · show dy + 1 ≤ R.frames
    omega
  · show 8 + (ny + 11) + 32 * dy ≤ R.locals
    omega
theorem R_I (hM : xM K.2.1 y cy ny none dy (.ref b :: av) h r h1) (wc : (Cond.code y cy ny none) ∈ lw_gd) (wl : (Cond.methodLink own idx y) ∈ lw_gd) (wt : (Cond.instanceMethod y) ∈ lw_gd) (wi : (Cond.initialized y.cls) ∈ lw_gd) (hy1 : y.name = "<init>") (hd : y.cls ≠ "java/lang/invoke/MethodHandle" ∧ y.cls ≠ "java/lang/invoke/VarHandle" ∧ (parseMethodDescriptor y.desc).map (fun d => d.parameters.length) = some av.length) (hR : dy + 1 ≤ d ∧ ny ≤ 13) (hst : st = av.reverse ++ .ref b :: rest) (hcat : (rest.map fun v => v.category).sum ≤ 8) (hdg : decode cc pc = .ok (.invokespecial idx, 3)) : xRun K L cc own nm nL d pc ls st rest h r h1 := by
  obtain ⟨p, l, e, s, m, args, below, meth, c⟩ := K
  obtain ⟨D, tA, base, ro, rd, ad0, n0, z0⟩ := L
  have m0 := hM.1 (p, l, e, s, m, args, below, meth, c)
  refine ⟨m0.1, m0.2, fun C R b1 b2 b3 b4 ad H locs lsA hI hc hl => ⟨(Value.ref (ad b) :: av.map (xv ad)).toArray, ?_⟩⟩
  have hn0 := hI
  obtain ⟨-, -, -, -, -, -, i7, i8, -⟩ := hn0
  obtain ⟨m1, m2⟩ := m0
  obtain ⟨hx, hb, hml, hown, hts, hG, hnm⟩ := C
  subst hst
  have hav : ∀ v ∈ (Value.ref b :: av), xcv h.length v := fun v hv => hc.2 v (by
    rcases List.mem_cons.mp hv with h | h
    · exact List.mem_append_right _ (List.mem_cons.mpr (Or.inl h))
    · exact List.mem_append_left _ (List.mem_reverse.mpr h))
  refine va_runI (Ts := lw_gd) (As := av.map (xv ad)) (rest := rest.map (xv ad)) ⟨hx, hb, hml, hown, hts⟩ (hM.2 D tA base ro rd ad) (cwI av.length hts (x_gs (x_gc wc)) rfl rfl rfl (hts _ wi) (hts _ wl) (hts _ wt) hy1 hd ⟨?_, ?_⟩) (x_preS hG hI hav) rfl (List.length_map ..) hl.1 (by simp; rfl) (lv_room (by rw [x_cat]; exact hcat)) hdg ⟨by omega, by omega⟩
  · show dy + 1 ≤ R.frames
    omega
  · show 8 + (ny + 11) + 32 * dy ≤ R.locals
    omega
theorem R_IN {host : String} (hM : xM K.2.1 y cy ny none dy (.ref b :: av) h r h1) (wc : (Cond.code y cy ny none) ∈ lw_gd) (wl : (own, idx, y, host) ∈ xNM) (wt : (Cond.instanceMethod y) ∈ lw_gd) (wi : (Cond.initialized y.cls) ∈ lw_gd) (hy1 : y.name = "<init>") (hd : y.cls ≠ "java/lang/invoke/MethodHandle" ∧ y.cls ≠ "java/lang/invoke/VarHandle" ∧ (parseMethodDescriptor y.desc).map (fun d => d.parameters.length) = some av.length) (hR : dy + 1 ≤ d ∧ ny ≤ 13) (hst : st = av.reverse ++ .ref b :: rest) (hcat : (rest.map fun v => v.category).sum ≤ 8) (hdg : decode cc pc = .ok (.invokespecial idx, 3)) : xRun K L cc own nm nL d pc ls st rest h r h1 := by
  obtain ⟨p, l, e, s, m, args, below, meth, c⟩ := K
  obtain ⟨D, tA, base, ro, rd, ad0, n0, z0⟩ := L
  have m0 := hM.1 (p, l, e, s, m, args, below, meth, c)
  refine ⟨m0.1, m0.2, fun C R b1 b2 b3 b4 ad H locs lsA hI hc hl => ⟨(Value.ref (ad b) :: av.map (xv ad)).toArray, ?_⟩⟩
  have hn0 := hI
  obtain ⟨-, -, -, -, -, -, i7, i8, -⟩ := hn0
  obtain ⟨m1, m2⟩ := m0
  obtain ⟨hx, hb, hml, hown, hts, hG, hnm⟩ := C
  subst hst
  have hav : ∀ v ∈ (Value.ref b :: av), xcv h.length v := fun v hv => hc.2 v (by
    rcases List.mem_cons.mp hv with h | h
    · exact List.mem_append_right _ (List.mem_cons.mpr (Or.inl h))
    · exact List.mem_append_left _ (List.mem_reverse.mpr h))
  refine va_runIN (Ts := lw_gd) (As := av.map (xv ad)) (rest := rest.map (xv ad)) ⟨hx, hb, hml, hown, hts⟩ (hM.2 D tA base ro rd ad) ⟨va_cnB av.length hts (x_gs (x_gc wc)) rfl rfl rfl (hG.2.2.2.2.2.2.1 _ wl) (hts _ wi) hd ⟨?_, ?_⟩, hy1, hts _ wt⟩ (x_preS hG hI hav) rfl (List.length_map ..) hl.1 (by simp; rfl) (lv_room (by rw [x_cat]; exact hcat)) hdg ⟨by omega, by omega⟩
  · show dy + 1 ≤ R.frames
    omega
  · show 8 + (ny + 11) + 32 * dy ≤ R.locals
    omega
theorem x_preV {s : State} {D : va_G} {tA : Nat → Nat} {base : Nat} {ro : xH} {rd ad0 : Nat → Nat} {n0 z0 : Nat} {ad : Nat → Nat} {H : Heap} {locs : List Loc} (hG : xG D tA base ro rd s) (hI : xI s (D, tA, base, ro, rd, ad0, n0, z0) ad h H locs) (hav : ∀ v ∈ (Value.ref b :: av), xcv h.length v) {q : vw_C} (hk : xk h b = some ci) (hq : vwCl[ci]? = some q) : PreV s H q.1 (ad b) (xPc D tA base ro rd ad h (.ref b :: av)) (av.map (xv ad)) := by
  obtain ⟨fs, he⟩ := xk_spec hk
  have h3 := hI.obj hG he
  obtain ⟨u1, u2⟩ := x_preS hG hI hav
  have hi := hI
  obtain ⟨i1, -⟩ := hi
  exact ⟨u1, va_recv hG.1 i1 hq (xw_get (tA := tA) (ad := ad) h3 he), u2⟩
theorem R_V {q : vw_C} (hM : xM K.2.1 y cy ny ret dy (.ref b :: av) h r h1) (hk : xk h b = some ci) (hq : vwCl[ci]? = some q) (wc : (Cond.code y cy ny ret) ∈ lw_gd) (wl : (Cond.methodLink own idx y) ∈ lw_gd) (wt : (Cond.instanceMethod y) ∈ lw_gd) (wi : (Cond.initialized q.1) ∈ lw_gd) (wsel : (Cond.selects q.1 y y) ∈ lw_gd) (hd : y.cls = q.1 ∧ y.cls ≠ "java/lang/invoke/MethodHandle" ∧ y.cls ≠ "java/lang/invoke/VarHandle" ∧ (parseMethodDescriptor y.desc).map (fun d => d.parameters.length) = some av.length) (hR : dy + 1 ≤ d ∧ ny ≤ 13) (hst : st = av.reverse ++ .ref b :: rest) (hcat : (rest.map fun v => v.category).sum ≤ 8) (hdg : decode cc pc = .ok (.invokevirtual idx, 3)) : xRun K L cc own nm nL d pc ls st rest h r h1 := by
  obtain ⟨p, l, e, s, m, args, below, meth, c⟩ := K
  obtain ⟨D, tA, base, ro, rd, ad0, n0, z0⟩ := L
  have m0 := hM.1 (p, l, e, s, m, args, below, meth, c)
  refine ⟨m0.1, m0.2, fun C R b1 b2 b3 b4 ad H locs lsA hI hc hl => ⟨(Value.ref (ad b) :: av.map (xv ad)).toArray, ?_⟩⟩
  have hn0 := hI
  obtain ⟨-, -, -, -, -, -, i7, i8, -⟩ := hn0
  obtain ⟨m1, m2⟩ := m0
  obtain ⟨hx, hb, hml, hown, hts, hG, hnm⟩ := C
  subst hst
  have hav : ∀ v ∈ (Value.ref b :: av), xcv h.length v := fun v hv => hc.2 v (by
    rcases List.mem_cons.mp hv with h | h
    · exact List.mem_append_right _ (List.mem_cons.mpr (Or.inl h))
    · exact List.mem_append_left _ (List.mem_reverse.mpr h))
  refine va_runV (Ts := lw_gd) (As := av.map (xv ad)) (rest := rest.map (xv ad)) ⟨hx, hb, hml, hown, hts⟩ (hM.2 D tA base ro rd ad) (cwV av.length hts (x_gs ?_) rfl rfl rfl hd ⟨?_, ?_⟩) (x_preV hG hI hav hk hq) rfl (List.length_map ..) hl.1 (by simp; rfl) (lv_room (by rw [x_cat]; exact hcat)) hdg ⟨by omega, by omega⟩
  · intro w hw
    simp only [wsV, List.mem_append, List.mem_cons, List.not_mem_nil, or_false] at hw
    rcases hw with (h | h | h | h) | h
    · rw [h]; exact wl
    · rw [h]; exact wt
    · rw [h]; exact wsel
    · rw [h]; exact wi
    · exact x_gc wc w (List.mem_cons.mpr h)
  · show dy + 1 ≤ R.frames
    omega
  · show 8 + (ny + 11) + 32 * dy ≤ R.locals
    omega
/-- a call whose named method x is another than the selected y -/
theorem R_U {q : vw_C} {x : MethodName} {owner : String} (hM : xM K.2.1 y cy ny ret dy (.ref b :: av) h r h1) (hk : xk h b = some ci) (hq : vwCl[ci]? = some q) (wc : (Cond.code y cy ny ret) ∈ lw_gd) (wl : (Cond.methodLink own idx x) ∈ lw_gd) (wt : (Cond.instanceMethod y) ∈ lw_gd) (wi : (Cond.initialized y.cls) ∈ lw_gd) (wsel : (Cond.selects q.1 x y) ∈ lw_gd) (wsm : (Cond.sameMethod x.cls owner x.name x.desc) ∈ lw_gd)
    (hdec : (∃ b0 m0 r0, (Cond.code ⟨owner, x.name, x.desc⟩ b0 m0 r0) ∈ lw_gd ∧ (Cond.instanceMethod ⟨owner, x.name, x.desc⟩) ∈ lw_gd) ∨ (⟨owner, x.name, x.desc⟩ : MethodName) ∈ xND) (hd : owner ≠ "java/lang/invoke/MethodHandle" ∧ owner ≠ "java/lang/invoke/VarHandle" ∧ (parseMethodDescriptor x.desc).map (fun d => d.parameters.length) = some av.length) (hR : dy + 1 ≤ d ∧ ny ≤ 13) (hst : st = av.reverse ++ .ref b :: rest) (hcat : (rest.map fun v => v.category).sum ≤ 8) (hdg : decode cc pc = .ok (.invokevirtual idx, 3)) : xRun K L cc own nm nL d pc ls st rest h r h1 := by
  obtain ⟨p, l, e, s, m, args, below, meth, c⟩ := K
  obtain ⟨D, tA, base, ro, rd, ad0, n0, z0⟩ := L
  have m0 := hM.1 (p, l, e, s, m, args, below, meth, c)
  refine ⟨m0.1, m0.2, fun C R b1 b2 b3 b4 ad H locs lsA hI hc hl => ⟨(Value.ref (ad b) :: av.map (xv ad)).toArray, ?_⟩⟩
  have hn0 := hI
  obtain ⟨-, -, -, -, -, -, i7, i8, -⟩ := hn0
  obtain ⟨m1, m2⟩ := m0
  obtain ⟨hx, hb, hml, hown, hts, hG, hnm⟩ := C
  subst hst
  have hav : ∀ v ∈ (Value.ref b :: av), xcv h.length v := fun v hv => hc.2 v (by
    rcases List.mem_cons.mp hv with h | h
    · exact List.mem_append_right _ (List.mem_cons.mpr (Or.inl h))
    · exact List.mem_append_left _ (List.mem_reverse.mpr h))
  have hdecl : va_Decl s ⟨owner, x.name, x.desc⟩ := by
    rcases hdec with ⟨b0, m0, r0, w1, w2⟩ | w
    · exact va_Decl.of (hts _ w2) (hts _ w1)
    · exact va_Decl.abs (hG.2.2.2.2.2.2.2.2.1 _ w)
  have hws : ∀ w ∈ (Cond.code y cy ny ret :: lw_gd), ∀ (a' : Array Value) (U : State), s.WarmedH U.vm → w.before a' U = true := fun w hw a' U hW => word_at hW (good_of_word (x_gdG (x_gc wc w hw))) (hts w (x_gc wc w hw))
  refine va_runU (Ts := lw_gd) (As := av.map (xv ad)) (rest := rest.map (xv ad)) (owner := owner) (x := x) (bytes := cy) (maxL := ny) (ret := ret) ⟨hx, hb, hml, hown, hts⟩ (hM.2 D tA base ro rd ad) ⟨⟨rfl, rfl, ?_, ?_, hws, List.mem_cons_self⟩, hts _ wc, hts _ wi, ⟨hd.1, hd.2.1⟩, fun sig hs => ?_, hts _ wl, hts _ wsm, hdecl, hts _ wsel, hts _ wt⟩ (x_preV hG hI hav hk hq) rfl (List.length_map ..) hl.1 (by simp; rfl) (lv_room (by rw [x_cat]; exact hcat)) hdg ⟨by omega, by omega⟩
  · show dy + 1 ≤ R.frames
    omega
  · show 8 + (ny + 11) + 32 * dy ≤ R.locals
    omega
  · have h2 := hd.2.2
    rw [hs] at h2
    exact (Option.some.inj h2).symm
/-- super.y(..) -/
theorem R_SU {q : vw_C} (hM : xM K.2.1 y cy ny ret dy (.ref b :: av) h r h1) (hk : xk h b = some ci) (hq : vwCl[ci]? = some q) (wc : (Cond.code y cy ny ret) ∈ lw_gd) (wl : (Cond.methodLink own idx y) ∈ lw_gd) (wt : (Cond.instanceMethod y) ∈ lw_gd) (wi : (Cond.initialized y.cls) ∈ lw_gd) (wsm : (Cond.sameMethod y.cls y.cls y.name y.desc) ∈ lw_gd) (wsu : (Cond.superclass own y.cls) ∈ lw_gd) (hd : y.name ≠ "<init>" ∧ (parseMethodDescriptor y.desc).map (fun d => d.parameters.length) = some av.length) (hR : dy + 1 ≤ d ∧ ny ≤ 13) (hst : st = av.reverse ++ .ref b :: rest) (hcat : (rest.map fun v => v.category).sum ≤ 8) (hdg : decode cc pc = .ok (.invokespecial idx, 3)) : xRun K L cc own nm nL d pc ls st rest h r h1 := by
  obtain ⟨p, l, e, s, m, args, below, meth, c⟩ := K
  obtain ⟨D, tA, base, ro, rd, ad0, n0, z0⟩ := L
  have m0 := hM.1 (p, l, e, s, m, args, below, meth, c)
  refine ⟨m0.1, m0.2, fun C R b1 b2 b3 b4 ad H locs lsA hI hc hl => ⟨(Value.ref (ad b) :: av.map (xv ad)).toArray, ?_⟩⟩
  have hn0 := hI
  obtain ⟨-, -, -, -, -, -, i7, i8, -⟩ := hn0
  obtain ⟨m1, m2⟩ := m0
  obtain ⟨hx, hb, hml, hown, hts, hG, hnm⟩ := C
  subst hst
  have hav : ∀ v ∈ (Value.ref b :: av), xcv h.length v := fun v hv => hc.2 v (by
    rcases List.mem_cons.mp hv with h | h
    · exact List.mem_append_right _ (List.mem_cons.mpr (Or.inl h))
    · exact List.mem_append_left _ (List.mem_reverse.mpr h))
  refine va_runSU (Ts := lw_gd) (As := av.map (xv ad)) (rest := rest.map (xv ad)) (hG.1.1 ci q hq).2 ⟨hx, hb, hml, hown, hts⟩ (hM.2 D tA base ro rd ad) (va_cwSU av.length hts (x_gs ?_) rfl rfl rfl hd ⟨?_, ?_⟩) (x_preV hG hI hav hk hq) rfl (List.length_map ..) hl.1 (by simp; rfl) (lv_room (by rw [x_cat]; exact hcat)) hdg ⟨by omega, by omega⟩
  · intro w hw
    simp only [va_wsSU, List.mem_append, List.mem_cons, List.not_mem_nil, or_false] at hw
    rcases hw with (h | h | h | h | h) | h
    · rw [h]; exact wl
    · rw [h]; exact wsm
    · rw [h]; exact wsu
    · rw [h]; exact wt
    · rw [h]; exact wi
    · exact x_gc wc w (List.mem_cons.mpr h)
  · show dy + 1 ≤ R.frames
    omega
  · show 8 + (ny + 11) + 32 * dy ≤ R.locals
    omega
end RUNS
