def xNM : List (String × Nat × MethodName × String) := [(RX11, 28, yX1_init, RX11), (RX3, 21, yX1_init, RX11), (RX11, 42, yX7_init, RX11), (RX11, 55, yX9_init, RX11), (RX11, 60, yX5_init, RX11), (RX1, 40, yX11_firstPlaces, RX11), (RX1, 80, yX11_offsetOf, RX11)]
def xNF : Cond := .fieldLinkNest RX1 71 "ClassBits" "WIDTHS" "[I" RX11
def xND : List MethodName := [⟨"ClassBits$Run", "bitOf", "(I)I"⟩, ⟨"ClassBits$Run", "kindNumber", "()I"⟩, yX6_onesWithin]
def xNC : List (String × String) := [(RX4, RX10), (RX8, RX10), (RX2, RX0), (RX4, RX6), (RX8, RX6), (RX0, RX6), (RX2, RX6), (RX10, RX6)]
def xNc : List (String × String) := [(RX0, RX2), (RX0, RX4), (RX0, RX8), (RX0, RX10), (RX2, RX4), (RX2, RX8), (RX2, RX10), (RX4, RX0), (RX4, RX2), (RX4, RX8), (RX8, RX0), (RX8, RX2), (RX8, RX4), (RX10, RX0), (RX10, RX2), (RX10, RX4), (RX10, RX8)]
def xAO : List String := [RX5, RX1, RX6]
abbrev xT (tA : Nat → Nat) : List (ClassId × FieldType) := [(tA 0, .int), (tA 1, .boolean), (tA 2, .object RX5), (tA 3, .object RX1), (tA 4, .object RX6)]
/-- the machine's part of a method's frame: program, launch, env, the state at the entry, method, arguments, the frames below, method and code -/
abbrev xK : Type := Program × Launch × Env × State × MethodId × Array Value × List Frame × Method × Code
/-- the abstract part: classes and slots, array classes, from where on cells are ours, the three read-only cells, their addresses, the addresses at the entry, how many cells and slots there were -/
abbrev xL : Type := va_G × (Nat → Nat) × Nat × xH × (Nat → Nat) × (Nat → Nat) × Nat × Nat
abbrev xn0 (L : xL) : Nat := L.2.2.2.2.2.2.1
abbrev xz0 (L : xL) : Nat := L.2.2.2.2.2.2.2
/-- what holds at every state: the tables' words that don't warm by themselves, the statics, the read-only arrays -/
def xG (D : va_G) (tA : Nat → Nat) (base : Nat) (ro : xH) (rd : Nat → Nat) (U : State) : Prop :=
  va_K D vwCl (xT tA) U ∧ base ≤ U.heap.size ∧ va_Z RX11 "CHOICES" "[I" (.ref (rd 0)) (fun q => base ≤ q) U U.heap ∧ va_Z RX11 "WIDTHS" "[I" (.ref (rd 1)) (fun q => base ≤ q) U U.heap ∧ ro.length = 3 ∧
  (∀ i, i < 3 → ∃ (n : Nat) (f : Nat → Int32), ro[i]? = some (.inl (0, n, .inl f)) ∧ va_T .int (rd i) n (fun j => .int (f j)) (fun q => base ≤ q) U U.heap) ∧
  (∀ q ∈ xNM, va_Nw (.methodLinkNest q.1 q.2.1 q.2.2.1 q.2.2.2) U) ∧ va_Nw xNF U ∧ (∀ q ∈ xND, va_Nw (.declares q) U) ∧ (∀ q ∈ xNC, va_Nw (.castable q.1 q.2) U) ∧ (∀ q ∈ xNc, va_Nc q.1 q.2 U) ∧ (∀ q ∈ xAO, va_AO q U)
theorem xG.go {D : va_G} {tA : Nat → Nat} {base : Nat} {ro : xH} {rd : Nat → Nat} {s U : State} (h : xG D tA base ro rd s) (hS : s.heap.size ≤ U.heap.size) (hk : ∀ q : Nat, q < s.heap.size → ¬ base ≤ q → U.heap[q]? = s.heap[q]?) (hW : s.WarmedH U.vm) : xG D tA base ro rd U := by
  obtain ⟨h1, h2, h3, h4, h5, h6, h7, h8, h9, h10, h11, h12⟩ := h
  refine ⟨va_K.moved hW.alike h1, Nat.le_trans h2 hS, va_Z.moved hW.alike (h3.kept hk), va_Z.moved hW.alike (h4.kept hk), h5, fun i hi => ?_, fun q hq => va_Nw.warmM hW (h7 q hq), va_Nw.warmF hW h8, fun q hq => va_Nw.warmD hW (h9 q hq), fun q hq => ?_, fun q hq => (h11 q hq).moved hW.alike, fun q hq => (h12 q hq).moved hW.alike⟩
  · obtain ⟨n, f, e1, e2⟩ := h6 i hi
    exact ⟨n, f, e1, va_T.moved hW.alike (e2.kept hk)⟩
  · exact va_tabs rfl (rfl : (s.setVm U.vm).vm = U.vm) (by rw [Cond.castable_setVm hW.alike]; exact h10 q hq)
theorem xG.same {D : va_G} {tA : Nat → Nat} {base : Nat} {ro : xH} {rd : Nat → Nat} {s U : State} (h : xG D tA base ro rd s) (hh : s.heap = U.heap) (hv : s.vm = U.vm) : xG D tA base ro rd U := by
  obtain ⟨h1, h2, h3, h4, h5, h6, h7, h8, h9, h10, h11, h12⟩ := h
  have hal : s.vm.Alike U.vm := by rw [hv]; exact Vm.Alike.refl U.vm
  rw [hh] at h2 h3 h4 h6
  refine ⟨va_K.moved hal h1, h2, va_Z.moved hal h3, va_Z.moved hal h4, h5, fun i hi => ?_, fun q hq => va_Nw.same rfl hv (h7 q hq), va_Nw.same rfl hv h8, fun q hq => va_Nw.same rfl hv (h9 q hq), fun q hq => va_Nw.same rfl hv (h10 q hq), fun q hq => (h11 q hq).moved hal, fun q hq => (h12 q hq).moved hal⟩
  obtain ⟨n, f, e1, e2⟩ := h6 i hi
  exact ⟨n, f, e1, va_T.moved hal e2⟩
/-- the heap H holds the abstract heap h at the addresses ad -/
def xI (s : State) (L : xL) (ad : Nat → Nat) (h : xH) (H : Heap) (locs : List Loc) : Prop := match L with
  | (D, tA, base, ro, rd, ad0, n0, z0) => va_P D vwCl (xw tA ad h) H ∧ va_D (fun q => base ≤ q) (xw tA ad h) ∧ va_S (fun q => base ≤ q) s.heap H locs ∧ (∀ k, k < n0 → ad k = ad0 k) ∧ (∀ i, i < 3 → ad i = rd i) ∧ h.take 3 = ro ∧ n0 ≤ h.length ∧ z0 ≤ xz h ∧ xcH h ∧ 3 ≤ n0
/-- the abstract walk: from every heap that holds h, the machine at pc with these locals and stack comes to Q -/
def AW (K : xK) (L : xL) (nL : Nat) (R : Room) (Q : State → Prop) (pc : Nat) (ls : List (Nat × Value)) (st : List Value) (h : xH) : Prop := match K with
  | (p, l, e, s, m, args, below, meth, c) => ∀ (ad : Nat → Nat) (H : Heap) (locs : List Loc) (lsA : Array Slot), xI s L ad h H locs → xcl h.length ls st → lv_has lsA nL (xl ad ls) → W p l e R s m args below meth c H locs (h.length - xn0 L) (xz h - xz0 L) Q (F0 m pc lsA (st.map (xv ad)))
def xX (K : xK) (L : xL) (cc : ByteArray) (own nm : String) (nL : Nat) : Prop := match K with
  | (p, l, e, s, m, args, below, meth, c) => match L with
    | (D, tA, base, ro, rd, ad0, n0, z0) => p.tables.exec = Jvm.exec ∧ c.code = cc ∧ c.maxLocals = nL ∧ s.vm.findClass own = some m.cls ∧ (∀ w ∈ lw_gd, w.before args s = true) ∧ xG D tA base ro rd s ∧ meth.name = nm
abbrev xE (ρ : Type) : Type := ρ → Nat → List (Nat × Value) → List Value → xH → Prop
/-- if X is some q, the walk from here comes to one of q's ends -/
def Sim {ρ : Type} (K : xK) (L : xL) (cc : ByteArray) (own nm : String) (nL d : Nat) (hp : ρ → xH) (E : xE ρ) (pc : Nat) (ls : List (Nat × Value)) (st : List Value) (h : xH) (X : Option ρ) : Prop :=
  ∀ q, X = some q → (h.length ≤ (hp q).length ∧ xz h ≤ xz (hp q)) ∧ (xX K L cc own nm nL → ∀ (R : Room) (Q : State → Prop), d ≤ R.frames → 32 * d ≤ R.locals → (hp q).length - xn0 L ≤ R.cells → xz (hp q) - xz0 L ≤ R.slots → (∀ pc' ls' st' h', E q pc' ls' st' h' → AW K L nL R Q pc' ls' st' h') → AW K L nL R Q pc ls st h)
section SIM
variable {ρ : Type} {K : xK} {L : xL} {cc : ByteArray} {own nm : String} {nL d : Nat} {hp : ρ → xH} {E : xE ρ} {pc : Nat} {ls : List (Nat × Value)} {st : List Value} {h : xH} {X : Option ρ}
theorem Sim.none : Sim K L cc own nm nL d hp E pc ls st h none := fun _ hq => by cases hq
theorem Sim.fin {q : ρ} (hE : E q pc ls st h) (hh : hp q = h) : Sim K L cc own nm nL d hp E pc ls st h (some q) := by
  intro q' hq
  cases hq
  exact ⟨by rw [hh]; exact ⟨Nat.le_refl _, Nat.le_refl _⟩, fun _ R Q _ _ _ _ k => k pc ls st h hE⟩
theorem Sim.step {pc' : Nat} {ls' : List (Nat × Value)} {st' : List Value} {h' : xH} (hm : h.length ≤ h'.length ∧ xz h ≤ xz h') (ha : xX K L cc own nm nL → ∀ (R : Room) (Q : State → Prop), d ≤ R.frames → 32 * d ≤ R.locals → h'.length - xn0 L ≤ R.cells → xz h' - xz0 L ≤ R.slots → AW K L nL R Q pc' ls' st' h' → AW K L nL R Q pc ls st h) (k : Sim K L cc own nm nL d hp E pc' ls' st' h' X) : Sim K L cc own nm nL d hp E pc ls st h X := by
  intro q hq
  obtain ⟨m, k⟩ := k q hq
  exact ⟨⟨Nat.le_trans hm.1 m.1, Nat.le_trans hm.2 m.2⟩, fun C R Q h1 h2 h3 h4 hE => ha C R Q h1 h2 (by omega) (by omega) (k C R Q h1 h2 h3 h4 hE)⟩
theorem Sim.step0 {pc' : Nat} {ls' : List (Nat × Value)} {st' : List Value} (ha : xX K L cc own nm nL → ∀ (R : Room) (Q : State → Prop), d ≤ R.frames → 32 * d ≤ R.locals → h.length - xn0 L ≤ R.cells → xz h - xz0 L ≤ R.slots → AW K L nL R Q pc' ls' st' h → AW K L nL R Q pc ls st h) (k : Sim K L cc own nm nL d hp E pc' ls' st' h X) : Sim K L cc own nm nL d hp E pc ls st h X :=
  Sim.step ⟨Nat.le_refl _, Nat.le_refl _⟩ ha k
theorem Sim.ite {c : Prop} [Decidable c] {A B : Option ρ} (ka : c → Sim K L cc own nm nL d hp E pc ls st h A) (kb : ¬ c → Sim K L cc own nm nL d hp E pc ls st h B) : Sim K L cc own nm nL d hp E pc ls st h (if c then A else B) := by
  by_cases hc : c
  · rw [if_pos hc]; exact ka hc
  · rw [if_neg hc]; exact kb hc
/-- a stretch with one end, then the rest -/
theorem Sim.bindS {σ : Type} {hs : σ → xH} {px : Nat} {lsx : σ → List (Nat × Value)} {stx : σ → List Value} {Y : Option σ} {F : σ → Option ρ} (k1 : Sim K L cc own nm nL d hs (fun q pc' ls' st' h' => pc' = px ∧ ls' = lsx q ∧ st' = stx q ∧ h' = hs q) pc ls st h Y) (k2 : ∀ q, Sim K L cc own nm nL d hp E px (lsx q) (stx q) (hs q) (F q)) : Sim K L cc own nm nL d hp E pc ls st h (Y.bind F) := by
  intro q hq
  obtain ⟨q1, h1, h2⟩ := Option.bind_eq_some_iff.mp hq
  obtain ⟨m1, k1⟩ := k1 q1 h1
  obtain ⟨m2, k2⟩ := k2 q1 q h2
  refine ⟨⟨Nat.le_trans m1.1 m2.1, Nat.le_trans m1.2 m2.2⟩, fun C R Q a1 a2 a3 a4 hE => k1 C R Q a1 a2 (by omega) (by omega) ?_⟩
  intro pc' ls' st' h' hh
  obtain ⟨rfl, rfl, rfl, rfl⟩ := hh
  exact k2 C R Q a1 a2 a3 a4 hE
theorem Sim.bind {σ : Type} {hs : σ → xH} {px : Nat} {lsx : σ → List (Nat × Value)} {Y : Option σ} {F : σ → Option ρ} (k1 : Sim K L cc own nm nL d hs (fun q pc' ls' st' h' => pc' = px ∧ ls' = lsx q ∧ st' = [] ∧ h' = hs q) pc ls st h Y) (k2 : ∀ q, Sim K L cc own nm nL d hp E px (lsx q) [] (hs q) (F q)) : Sim K L cc own nm nL d hp E pc ls st h (Y.bind F) := Sim.bindS (stx := fun _ => []) k1 k2
theorem Sim.cut {pc' : Nat} {st' : List Value} (k : Sim K L cc own nm nL d hp E pc' ls st' h X) (r : Sim K L cc own nm nL d hp E pc' ls st' h X → Sim K L cc own nm nL d hp E pc ls st h X) : Sim K L cc own nm nL d hp E pc ls st h X := r k
theorem x_st {st' : List Value} (e : st' = st) (k : Sim K L cc own nm nL d hp E pc ls st' h X) : Sim K L cc own nm nL d hp E pc ls st h X := e ▸ k
theorem S_sub {ls' : List (Nat × Value)} (ks : List Nat) (hk : lv_pick ls ks = ls') (k : Sim K L cc own nm nL d hp E pc ls' st h X) : Sim K L cc own nm nL d hp E pc ls st h X := by
  obtain ⟨p, l, e, s, m, args, below, meth, c⟩ := K
  refine Sim.step0 (fun C R Q _ _ _ _ k ad H locs lsA hI hc hl => ?_) k
  refine k ad H locs lsA hI ⟨fun q hq => ?_, hc.2⟩ (lv_sub hl ks (by rw [xl_pick, hk]))
  rw [← hk] at hq
  obtain ⟨i, -, hi⟩ := List.mem_filterMap.mp hq
  exact hc.1 q (List.mem_of_getElem? hi)
end SIM
/-- a method's start and end -/
def xPc (D : va_G) (tA : Nat → Nat) (base : Nat) (ro : xH) (rd ad : Nat → Nat) (h : xH) (av : List Value) : Array Value → State → Prop :=
  va_Pc (av.map (xv ad)) (fun U => xG D tA base ro rd U ∧ va_P D vwCl (xw tA ad h) U.heap ∧ va_D (fun q => base ≤ q) (xw tA ad h) ∧ (∀ i, i < 3 → ad i = rd i) ∧ h.take 3 = ro ∧ 3 ≤ h.length ∧ xcH h ∧ ∀ v ∈ av, xcv h.length v)
def xQc (D : va_G) (tA : Nat → Nat) (base : Nat) (ro : xH) (ad : Nat → Nat) (h : xH) (r : Option Value) (h' : xH) : Array Value → State → Outcome → State → Prop := fun _ st oc t =>
  (∃ ad' : Nat → Nat, oc = .returned (r.map (xv ad')) ∧ (∀ k, k < h.length → ad' k = ad k) ∧ va_P D vwCl (xw tA ad' h') t.heap ∧ va_D (fun q => base ≤ q) (xw tA ad' h') ∧ h'.take 3 = ro ∧ xcH h' ∧ ∀ v, r = some v → xcv h'.length v) ∧ va_F (fun q => base ≤ q) st t
/-- A CONTRACT: called with the arguments av and the abstract heap h, method y returns r and leaves h' -/
def xM (l : Launch) (y : MethodName) (cc : ByteArray) (nL : Nat) (ret : Option FieldType) (d : Nat) (av : List Value) (h : xH) (r : Option Value) (h' : xH) : Prop :=
  (∀ _ : xK, h.length ≤ h'.length ∧ xz h ≤ xz h') ∧ ∀ (D : va_G) (tA : Nat → Nat) (base : Nat) (ro : xH) (rd ad : Nat → Nat), Met l y (.code y cc nL ret :: lw_gd) { frames := d, cells := h'.length - h.length, slots := xz h' - xz h, locals := 32 * d } (xPc D tA base ro rd ad h av) (xQc D tA base ro ad h r h') (h'.length - h.length) (xz h' - xz h) (fun q => base ≤ q)
/-- a call that comes back with r and h1 -/
def xRun (K : xK) (L : xL) (cc : ByteArray) (own nm : String) (nL d pc : Nat) (ls : List (Nat × Value)) (st rest : List Value) (h : xH) (r : Option Value) (h1 : xH) : Prop :=
  h.length ≤ h1.length ∧ xz h ≤ xz h1 ∧ (xX K L cc own nm nL → match K with
  | (p, l, e, s, m, args, below, meth, c) => match L with
    | (D, tA, base, ro, rd, ad0, n0, z0) => ∀ (R : Room), d ≤ R.frames → 32 * d ≤ R.locals → h1.length - n0 ≤ R.cells → xz h1 - z0 ≤ R.slots → ∀ (ad : Nat → Nat) (H : Heap) (locs : List Loc) (lsA : Array Slot), xI s (D, tA, base, ro, rd, ad0, n0, z0) ad h H locs → xcl h.length ls st → lv_has lsA nL (xl ad ls) →
      ∃ a, va_Run p l e R s m args below meth c H locs (h.length - n0) (xz h - z0) (h1.length - h.length) (xz h1 - xz h) (F0 m pc lsA (st.map (xv ad))) (rest.map (xv ad)) (xQc D tA base ro ad h r h1 a) (fun q => base ≤ q))
theorem AW_call {K : xK} {L : xL} {cc : ByteArray} {own nm : String} {nL d pc : Nat} {ls : List (Nat × Value)} {st rest : List Value} {h h1 : xH} {r : Option Value} {R : Room} {Q : State → Prop} (hr : xRun K L cc own nm nL d pc ls st rest h r h1) (C : xX K L cc own nm nL) (hsub : ∀ v ∈ rest, v ∈ st) (b1 : d ≤ R.frames) (b2 : 32 * d ≤ R.locals) (b3 : h1.length - xn0 L ≤ R.cells) (b4 : xz h1 - xz0 L ≤ R.slots)
    (kk : AW K L nL R Q (pc + 3) ls (r.toList ++ rest) h1) : AW K L nL R Q pc ls st h := by
  obtain ⟨p, l, e, s, m, args, below, meth, c⟩ := K
  obtain ⟨D, tA, base, ro, rd, ad0, n0, z0⟩ := L
  obtain ⟨g1, g2, hr⟩ := hr
  intro ad H locs lsA hI hc hl
  obtain ⟨a, hrun⟩ := hr C R b1 b2 b3 b4 ad H locs lsA hI hc hl
  obtain ⟨i1, i2, i3, i4, i5, i6, i7, i8, i9, i10⟩ := hI
  intro T hT X
  obtain ⟨v, st₀, t, T', Lc, h0, X', hL, e1, e2, ⟨⟨ad', hv, hag, hP, hD, ht3, hcH, hcr⟩, hz, hk⟩, stp⟩ := hrun T hT X
  cases hv
  rw [h0] at hz hk
  have hcl : ∀ v ∈ rest, xcv h.length v := fun v hm => hc.2 v (hsub v hm)
  have hS' : va_S (fun q => base ≤ q) s.heap T'.heap (locs ++ Lc) := ⟨Nat.le_trans i3.1 (by rw [e1]; exact hz), fun q h1 h2 => by rw [e1, hk q (Nat.lt_of_lt_of_le h1 i3.1) h2]; exact i3.2.1 q h1 h2, fun q hq => by
      rcases List.mem_append.mp hq with h | h
      · exact i3.2.2 q h
      · exact hL q h⟩
  have hI' : xI s (D, tA, base, ro, rd, ad0, n0, z0) ad' h1 T'.heap (locs ++ Lc) := ⟨by rw [e1]; exact hP, hD, hS', fun k hk => by rw [hag k (by omega)]; exact i4 k hk, fun i hi => by rw [hag i (by omega)]; exact i5 i hi, ht3, by omega, by omega, hcH, i10⟩
  have hc' : xcl h1.length ls (r.toList ++ rest) := ⟨fun q hq => xcv_le g1 (hc.1 q hq), fun v hv => by
    rcases List.mem_append.mp hv with h | h
    · exact hcr v (by cases r with
        | none => cases h
        | some w => simp at h; rw [h])
    · exact xcv_le g1 (hcl v h)⟩
  have hl' : lv_has lsA nL (xl ad' ls) := by rw [xl_agree hc.1 hag]; exact hl
  have k2 := kk ad' T'.heap (locs ++ Lc) lsA hI' hc' hl'
  have ec : h1.length - n0 = h.length - n0 + (h1.length - h.length) := by omega
  have es : xz h1 - z0 = xz h - z0 + (xz h1 - xz h) := by omega
  obtain ⟨t2, a1, b1⟩ := k2 T' rfl (by show Stand p l e R s m args below meth c T' (locs ++ Lc) (h1.length - n0) (xz h1 - z0); rw [ec, es]; exact X')
  refine ⟨t2, stp t2 ?_, b1⟩
  have est : (r.toList ++ rest).map (xv ad') = (r.map (xv ad')).toList ++ rest.map (xv ad) := by
    rw [List.map_append, xm_agree hcl hag]
    cases r <;> rfl
  rw [est] at a1
  exact a1
section CALL
variable {ρ : Type} {K : xK} {L : xL} {cc : ByteArray} {own nm : String} {nL d : Nat} {hp : ρ → xH} {E : xE ρ} {pc : Nat} {ls : List (Nat × Value)} {st : List Value} {h : xH}
theorem S_call {σ : Type} {Y : Option σ} {rv : σ → Option Value} {hq : σ → xH} {F : σ → Option ρ} {rest : List Value} (hr : ∀ q, Y = some q → xRun K L cc own nm nL d pc ls st rest h (rv q) (hq q)) (hsub : ∀ v ∈ rest, v ∈ st)
    (kk : ∀ q, Sim K L cc own nm nL d hp E (pc + 3) ls ((rv q).toList ++ rest) (hq q) (F q)) : Sim K L cc own nm nL d hp E pc ls st h (Y.bind F) := by
  intro q hq'
  obtain ⟨q1, h1, h2⟩ := Option.bind_eq_some_iff.mp hq'
  have hr := hr q1 h1
  obtain ⟨m2, k2⟩ := kk q1 q h2
  refine ⟨⟨Nat.le_trans hr.1 m2.1, Nat.le_trans hr.2.1 m2.2⟩, fun C R Q a1 a2 a3 a4 hE => ?_⟩
  exact AW_call hr C hsub a1 a2 (by omega) (by omega) (k2 C R Q a1 a2 a3 a4 hE)
theorem S_call_i {Y : Option (Int32 × xH)} {F : Int32 × xH → Option ρ} {rest : List Value} (hr : ∀ q, Y = some q → xRun K L cc own nm nL d pc ls st rest h (some (.int q.1)) q.2) (hsub : ∀ v ∈ rest, v ∈ st)
    (kk : ∀ q, Sim K L cc own nm nL d hp E (pc + 3) ls (.int q.1 :: rest) q.2 (F q)) : Sim K L cc own nm nL d hp E pc ls st h (Y.bind F) := S_call (rv := fun q : Int32 × xH => some (.int q.1)) (hq := fun q : Int32 × xH => q.2) hr hsub kk
theorem S_call_l {Y : Option (Int64 × xH)} {F : Int64 × xH → Option ρ} {rest : List Value} (hr : ∀ q, Y = some q → xRun K L cc own nm nL d pc ls st rest h (some (.long q.1)) q.2) (hsub : ∀ v ∈ rest, v ∈ st)
    (kk : ∀ q, Sim K L cc own nm nL d hp E (pc + 3) ls (.long q.1 :: rest) q.2 (F q)) : Sim K L cc own nm nL d hp E pc ls st h (Y.bind F) := S_call (rv := fun q : Int64 × xH => some (.long q.1)) (hq := fun q : Int64 × xH => q.2) hr hsub kk
theorem S_call_r {Y : Option (Nat × xH)} {F : Nat × xH → Option ρ} {rest : List Value} (hr : ∀ q, Y = some q → xRun K L cc own nm nL d pc ls st rest h (some (.ref q.1)) q.2) (hsub : ∀ v ∈ rest, v ∈ st)
    (kk : ∀ q, Sim K L cc own nm nL d hp E (pc + 3) ls (.ref q.1 :: rest) q.2 (F q)) : Sim K L cc own nm nL d hp E pc ls st h (Y.bind F) := S_call (rv := fun q : Nat × xH => some (.ref q.1)) (hq := fun q : Nat × xH => q.2) hr hsub kk
theorem S_call_v {Y : Option xH} {F : xH → Option ρ} {rest : List Value} (hr : ∀ q, Y = some q → xRun K L cc own nm nL d pc ls st rest h none q) (hsub : ∀ v ∈ rest, v ∈ st)
    (kk : ∀ q, Sim K L cc own nm nL d hp E (pc + 3) ls rest q (F q)) : Sim K L cc own nm nL d hp E pc ls st h (Y.bind F) := S_call (rv := fun _ => none) (hq := fun q => q) hr hsub kk
end CALL
