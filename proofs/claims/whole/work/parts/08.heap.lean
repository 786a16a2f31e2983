/-! reads and writes of the abstract heap -/
def xgI (cs : List Nat) (h : xH) (a k : Nat) : Option Int32 := match h[a]? with
  | some (.inr (c, fs)) => if cs.elem c = true then (match fs[k]? with
    | some (.int x) => some x
    | _ => none) else none
  | _ => none
def xgR (cs : List Nat) (h : xH) (a k : Nat) : Option Nat := match h[a]? with
  | some (.inr (c, fs)) => if cs.elem c = true then (match fs[k]? with
    | some (.ref x) => some x
    | _ => none) else none
  | _ => none
def xpI (cs : List Nat) (h : xH) (a k : Nat) (x : Int32) : Option xH := match h[a]? with
  | some (.inr (c, fs)) => if cs.elem c = true ∧ k < fs.length then some (h.set a (.inr (c, fs.set k (.int x)))) else none
  | _ => none
def xpR (cs : List Nat) (h : xH) (a k : Nat) (x : Nat) : Option xH := match h[a]? with
  | some (.inr (c, fs)) => if cs.elem c = true ∧ k < fs.length then some (h.set a (.inr (c, fs.set k (.ref x)))) else none
  | _ => none
def xaI (h : xH) (a : Nat) (i : Int32) : Option Int32 := match h[a]? with
  | some (.inl (0, n, .inl f)) => if i < 0 ∨ n ≤ i.toNatClampNeg then none else some (f i.toNatClampNeg)
  | _ => none
def xuI (h : xH) (a : Nat) (i x : Int32) : Option xH := match h[a]? with
  | some (.inl (0, n, .inl f)) => if a < 3 ∨ i < 0 ∨ n ≤ i.toNatClampNeg then none else some (h.set a (.inl (0, n, .inl (upd f i.toNatClampNeg x))))
  | _ => none
def xaZ (h : xH) (a : Nat) (i : Int32) : Option Int32 := match h[a]? with
  | some (.inl (1, n, .inl f)) => if i < 0 ∨ n ≤ i.toNatClampNeg then none else some (f i.toNatClampNeg)
  | _ => none
def xuZ (h : xH) (a : Nat) (i x : Int32) : Option xH := match h[a]? with
  | some (.inl (1, n, .inl f)) => if i < 0 ∨ n ≤ i.toNatClampNeg then none else some (h.set a (.inl (1, n, .inl (upd f i.toNatClampNeg (vp_nar .boolean x)))))
  | _ => none
def xaQ (t : Nat) (h : xH) (a : Nat) (i : Int32) : Option (Option Nat) := match h[a]? with
  | some (.inl (c, n, .inr (.inr (.inr (.inr f))))) => if ¬ c = t ∨ i < 0 ∨ n ≤ i.toNatClampNeg then none else some (f i.toNatClampNeg)
  | _ => none
def xaR (t : Nat) (h : xH) (a : Nat) (i : Int32) : Option Nat := (xaQ t h a i).bind id
def xuQ (t : Nat) (h : xH) (a : Nat) (i : Int32) (r : Option Nat) : Option xH := match h[a]? with
  | some (.inl (c, n, .inr (.inr (.inr (.inr f))))) => if ¬ c = t ∨ i < 0 ∨ n ≤ i.toNatClampNeg then none else some (h.set a (.inl (c, n, .inr (.inr (.inr (.inr (va_up f i.toNatClampNeg r)))))))
  | _ => none
def xaL (h : xH) (a : Nat) : Option Int32 := match h[a]? with
  | some (.inl (0, n, .inl _)) => some (Int32.ofNat n)
  | _ => none
def xcp (h : xH) (a : Nat) (sp : Int32) (b : Nat) (dp n : Int32) : Option xH := match h[a]?, h[b]? with
  | some (.inl (0, n0, .inl f)), some (.inl (0, n1, .inl g)) => if a < 3 ∨ b < 3 ∨ sp < 0 ∨ dp < 0 ∨ n < 0 ∨ n0 < sp.toNatClampNeg + n.toNatClampNeg ∨ n1 < dp.toNatClampNeg + n.toNatClampNeg then none else some (h.set b (.inl (0, n1, .inl (va_cpy f g sp.toNatClampNeg dp.toNatClampNeg n.toNatClampNeg))))
  | _, _ => none
abbrev xaI0 (n : Nat) : va_E := .inl (0, n, .inl (fun _ => 0))
abbrev xaZ0 (n : Nat) : va_E := .inl (1, n, .inl (fun _ => 0))
abbrev xaR0 (t n : Nat) : va_E := .inl (t, n, .inr (.inr (.inr (.inr (fun _ => none)))))
/-- field k of the classes cs: its name, descriptor, whether it is final, its type -/
def xFd (cs : List Nat) (k : Nat) (ref name desc : String) (fin : Bool) (ty : FieldType) : Prop := ∀ c ∈ cs, ∃ (C : String) (T : u_T) (N : Nat) (ty0 : Nat → FieldType), vwCl[c]? = some (C, T, N) ∧ k < N ∧ T k = (ref, name, desc, fin) ∧ (∀ w ∈ u_ws C T N, w ∈ lw_gd) ∧ (∀ k, k < N → parseFieldDescriptor (T k).2.2.1 = some (ty0 k)) ∧ (∀ a, a < N → ∀ b, b < N → a ≠ b → (T a).2.1 ≠ (T b).2.1) ∧ parseFieldDescriptor desc = some ty
theorem xgI_spec {cs : List Nat} {h : xH} {a k : Nat} {x : Int32} (e : xgI cs h a k = some x) : ∃ c fs, h[a]? = some (.inr (c, fs)) ∧ c ∈ cs ∧ fs[k]? = some (.int x) := by
  unfold xgI at e
  split at e
  · next c fs he =>
    split at e
    · next hc =>
      split at e
      · next y hy => cases e; exact ⟨c, fs, he, List.mem_of_elem_eq_true hc, hy⟩
      · cases e
    · cases e
  · cases e
theorem xgR_spec {cs : List Nat} {h : xH} {a k : Nat} {x : Nat} (e : xgR cs h a k = some x) : ∃ c fs, h[a]? = some (.inr (c, fs)) ∧ c ∈ cs ∧ fs[k]? = some (.ref x) := by
  unfold xgR at e
  split at e
  · next c fs he =>
    split at e
    · next hc =>
      split at e
      · next y hy => cases e; exact ⟨c, fs, he, List.mem_of_elem_eq_true hc, hy⟩
      · cases e
    · cases e
  · cases e
theorem xpI_spec {cs : List Nat} {h h1 : xH} {a k : Nat} {x : Int32} (e : xpI cs h a k x = some h1) : ∃ c fs, h[a]? = some (.inr (c, fs)) ∧ c ∈ cs ∧ k < fs.length ∧ h1 = h.set a (.inr (c, fs.set k (.int x))) := by
  unfold xpI at e
  split at e
  · next c fs he =>
    split at e
    · next hc => cases e; exact ⟨c, fs, he, List.mem_of_elem_eq_true hc.1, hc.2, rfl⟩
    · cases e
  · cases e
theorem xpR_spec {cs : List Nat} {h h1 : xH} {a k : Nat} {x : Nat} (e : xpR cs h a k x = some h1) : ∃ c fs, h[a]? = some (.inr (c, fs)) ∧ c ∈ cs ∧ k < fs.length ∧ h1 = h.set a (.inr (c, fs.set k (.ref x))) := by
  unfold xpR at e
  split at e
  · next c fs he =>
    split at e
    · next hc => cases e; exact ⟨c, fs, he, List.mem_of_elem_eq_true hc.1, hc.2, rfl⟩
    · cases e
  · cases e
theorem xaI_spec {h : xH} {a : Nat} {i x : Int32} (e : xaI h a i = some x) : ∃ n f, h[a]? = some (.inl (0, n, .inl f)) ∧ vp_in i n ∧ x = f i.toNatClampNeg := by
  unfold xaI at e
  split at e
  · next n f he =>
    split at e
    · cases e
    · next hn => cases e; exact ⟨n, f, he, hn, rfl⟩
  · cases e
theorem xuI_spec {h h1 : xH} {a : Nat} {i x : Int32} (e : xuI h a i x = some h1) : ∃ n f, h[a]? = some (.inl (0, n, .inl f)) ∧ 3 ≤ a ∧ vp_in i n ∧ h1 = h.set a (.inl (0, n, .inl (upd f i.toNatClampNeg x))) := by
  unfold xuI at e
  split at e
  · next n f he =>
    split at e
    · cases e
    · next hn => cases e; exact ⟨n, f, he, Nat.not_lt.mp (fun z => hn (Or.inl z)), fun z => hn (Or.inr z), rfl⟩
  · cases e
theorem xaZ_spec {h : xH} {a : Nat} {i x : Int32} (e : xaZ h a i = some x) : ∃ n f, h[a]? = some (.inl (1, n, .inl f)) ∧ vp_in i n ∧ x = f i.toNatClampNeg := by
  unfold xaZ at e
  split at e
  · next n f he =>
    split at e
    · cases e
    · next hn => cases e; exact ⟨n, f, he, hn, rfl⟩
  · cases e
theorem xuZ_spec {h h1 : xH} {a : Nat} {i x : Int32} (e : xuZ h a i x = some h1) : ∃ n f, h[a]? = some (.inl (1, n, .inl f)) ∧ vp_in i n ∧ h1 = h.set a (.inl (1, n, .inl (upd f i.toNatClampNeg (vp_nar .boolean x)))) := by
  unfold xuZ at e
  split at e
  · next n f he =>
    split at e
    · cases e
    · next hn => cases e; exact ⟨n, f, he, hn, rfl⟩
  · cases e
theorem xaQ_spec {t : Nat} {h : xH} {a : Nat} {i : Int32} {r : Option Nat} (e : xaQ t h a i = some r) : ∃ n f, h[a]? = some (.inl (t, n, .inr (.inr (.inr (.inr f))))) ∧ vp_in i n ∧ r = f i.toNatClampNeg := by
  unfold xaQ at e
  split at e
  · next c n f he =>
    split at e
    · cases e
    · next hn =>
      cases e
      have hc : c = t := Decidable.not_not.mp (fun z => hn (Or.inl z))
      subst hc
      exact ⟨n, f, he, fun z => hn (Or.inr z), rfl⟩
  · cases e
theorem xuQ_spec {t : Nat} {h h1 : xH} {a : Nat} {i : Int32} {r : Option Nat} (e : xuQ t h a i r = some h1) : ∃ n f, h[a]? = some (.inl (t, n, .inr (.inr (.inr (.inr f))))) ∧ vp_in i n ∧ h1 = h.set a (.inl (t, n, .inr (.inr (.inr (.inr (va_up f i.toNatClampNeg r)))))) := by
  unfold xuQ at e
  split at e
  · next c n f he =>
    split at e
    · cases e
    · next hn =>
      cases e
      have hc : c = t := Decidable.not_not.mp (fun z => hn (Or.inl z))
      subst hc
      exact ⟨n, f, he, fun z => hn (Or.inr z), rfl⟩
  · cases e
theorem xaL_spec {h : xH} {a : Nat} {x : Int32} (e : xaL h a = some x) : ∃ n f, h[a]? = some (.inl (0, n, .inl f)) ∧ Int32.ofNat n = x := by
  unfold xaL at e
  split at e
  · next n f he => cases e; exact ⟨n, f, he, rfl⟩
  · cases e
theorem xcp_spec {h h1 : xH} {a b : Nat} {sp dp n : Int32} (e : xcp h a sp b dp n = some h1) : ∃ n0 f n1 g, h[a]? = some (.inl (0, n0, .inl f)) ∧ h[b]? = some (.inl (0, n1, .inl g)) ∧ 3 ≤ a ∧ 3 ≤ b ∧ ¬ sp < 0 ∧ ¬ dp < 0 ∧ ¬ n < 0 ∧ sp.toNatClampNeg + n.toNatClampNeg ≤ n0 ∧ dp.toNatClampNeg + n.toNatClampNeg ≤ n1 ∧ h1 = h.set b (.inl (0, n1, .inl (va_cpy f g sp.toNatClampNeg dp.toNatClampNeg n.toNatClampNeg))) := by
  unfold xcp at e
  split at e
  · next n0 f n1 g he hg =>
    split at e
    · cases e
    · next hn =>
      cases e
      simp only [not_or, Nat.not_lt] at hn
      exact ⟨n0, f, n1, g, he, hg, hn.1, hn.2.1, hn.2.2.1, hn.2.2.2.1, hn.2.2.2.2.1, hn.2.2.2.2.2.1, hn.2.2.2.2.2.2, rfl⟩
  · cases e
/-- an array of ours that isn't of ints has its place behind the read-only ones -/
theorem xI.arr {s : State} {D : va_G} {tA : Nat → Nat} {base : Nat} {ro : xH} {rd ad0 : Nat → Nat} {n0 z0 : Nat} {ad : Nat → Nat} {h : xH} {H : Heap} {locs : List Loc} (hG : xG D tA base ro rd s) (hI : xI s (D, tA, base, ro, rd, ad0, n0, z0) ad h H locs) {a : Nat} {x : Nat × Nat × xB} (he : h[a]? = some (.inl x)) (hx : x.1 ≠ 0 ∨ ∀ f, x.2.2 ≠ .inl f) : 3 ≤ a := by
  rcases Nat.lt_or_ge a 3 with hl | hl
  · obtain ⟨i1, i2, i3, i4, i5, i6, -⟩ := hI
    obtain ⟨-, -, -, -, -, h6, -⟩ := hG
    obtain ⟨n, f, e1, -⟩ := h6 a hl
    rw [xtake_at i6 hl, e1] at he
    cases he
    rcases hx with z | z
    · exact absurd rfl z
    · exact absurd rfl (z f)
  · exact hl
/-- a cell is written: the world behind it -/
theorem xI.set {s : State} {D : va_G} {tA : Nat → Nat} {base : Nat} {ro : xH} {rd ad0 : Nat → Nat} {n0 z0 : Nat} {ad : Nat → Nat} {h : xH} {H H1 : Heap} {locs locs1 : List Loc} (hI : xI s (D, tA, base, ro, rd, ad0, n0, z0) ad h H locs) {a : Nat} {e e1 : va_E} (ha : 3 ≤ a) (he : h[a]? = some e) (hs : xs e1 = xs e) (hc : xce h.length e1) (hP : va_P D vwCl ((xw tA ad h).set (a - 3) (ad a, xe tA ad e1)) H1) (hD : va_D (fun q => base ≤ q) ((xw tA ad h).set (a - 3) (ad a, xe tA ad e1))) (hS : va_S (fun q => base ≤ q) s.heap H1 locs1) : xI s (D, tA, base, ro, rd, ad0, n0, z0) ad (h.set a e1) H1 locs1 := by
  obtain ⟨i1, i2, i3, i4, i5, i6, i7, i8, i9, i10⟩ := hI
  rw [← xw_set ha] at hP hD
  exact ⟨hP, hD, hS, i4, i5, by rw [xtake_set ha]; exact i6, by rw [List.length_set]; exact i7, by rw [xz_set he hs]; exact i8, xcH_set i9 hc, i10⟩
/-- a cell is made: the world behind it -/
theorem xI.push {s : State} {D : va_G} {tA : Nat → Nat} {base : Nat} {ro : xH} {rd ad0 : Nat → Nat} {n0 z0 : Nat} {ad : Nat → Nat} {h : xH} {H H1 : Heap} {locs : List Loc} (hI : xI s (D, tA, base, ro, rd, ad0, n0, z0) ad h H locs) {e1 : va_E} {q : Nat} (hc : xce (h.length) e1) (hP : va_P D vwCl (xw tA ad h ++ [(q, xe tA ad e1)]) H1) (hD : va_D (fun q => base ≤ q) (xw tA ad h ++ [(q, xe tA ad e1)])) (hS : va_S (fun q => base ≤ q) s.heap H1 locs) : xI s (D, tA, base, ro, rd, ad0, n0, z0) (va_up ad h.length q) (h ++ [e1]) H1 locs ∧ (∀ k, k < h.length → va_up ad h.length q k = ad k) := by
  obtain ⟨i1, i2, i3, i4, i5, i6, i7, i8, i9, i10⟩ := hI
  have hag : ∀ k, k < h.length → va_up ad h.length q k = ad k := fun k hk => by
    unfold va_up
    rw [if_neg (by omega)]
  have ew : xw tA (va_up ad h.length q) (h ++ [e1]) = xw tA ad h ++ [(q, xe tA ad e1)] := by
    rw [xw_push (by omega), xw_agree i9 hag, xe_agree hag hc]
    unfold va_up
    rw [if_pos rfl]
  refine ⟨⟨by rw [ew]; exact hP, by rw [ew]; exact hD, hS, fun k hk => by rw [hag k (by omega)]; exact i4 k hk, fun i hi => by rw [hag i (by omega)]; exact i5 i hi, by rw [xtake_push (by omega)]; exact i6, by rw [List.length_append]; omega, by rw [xz_push]; omega, xcH_push i9 (xce_le (Nat.le_add_right _ _) hc), i10⟩, hag⟩
section XHEAP
variable {ρ : Type} {K : xK} {L : xL} {nm : String} {nL d : Nat} {hp : ρ → xH} {E : xE ρ} {pc : Nat} {ls : List (Nat × Value)} {st : List Value} {h : xH} {X : Option ρ} {cc : ByteArray} {own : String} {a k idx : Nat} {cs : List Nat} {ref name desc : String} {fin : Bool} {ty : FieldType}
theorem S_getI {F : Int32 → Option ρ} (hf : xFd cs k ref name desc fin ty) (wd : (Cond.fieldLink own idx ref name desc) ∈ lw_gd) (hdg : decode cc pc = .ok (.getfield idx, 3)) (kk : ∀ v, Sim K L cc own nm nL d hp E (pc + 3) ls (.int v :: st) h (F v)) : Sim K L cc own nm nL d hp E pc ls (.ref a :: st) h ((xgI cs h a k).bind F) := by
  obtain ⟨p, l, e, s, m, args, below, meth, c⟩ := K
  obtain ⟨D, tA, base, ro, rd, ad0, n0, z0⟩ := L
  intro q hq
  obtain ⟨v, h1, h2⟩ := Option.bind_eq_some_iff.mp hq
  obtain ⟨mo, k2⟩ := kk v q h2
  obtain ⟨ci, fs, he, hci, hv⟩ := xgI_spec h1
  obtain ⟨Cn, T, N, ty0, f1, f2, f3, f4, f5, f6, f7⟩ := hf ci hci
  refine ⟨mo, fun C R Q a1 a2 a3 a4 hE ad H locs lsA hI hc hl => ?_⟩
  have k2 := k2 C
  obtain ⟨hx, hb, hml, hown, hts, hG, hnm⟩ := C
  have h3 := hI.obj hG he
  have hi := hI
  obtain ⟨i1, -⟩ := hi
  refine va_get (D := D) (own := own) (ref := ref) (T := T) (v := .int v) (fs := fs.map (xv ad)) hx hb hts f4 hown hG.1 i1 (a - 3) (xw_get h3 he) f1 k f2 (by rw [f3]; exact hts _ wd) (by rw [f3]; exact fun _ z => z) (by rw [List.getElem?_map, hv]; rfl) hdg ?_
  exact k2 R Q a1 a2 a3 a4 hE ad H locs lsA hI ⟨hc.1, xcc xcv_i (xct hc.2)⟩ hl
theorem S_getR {F : Nat → Option ρ} (hf : xFd cs k ref name desc fin ty) (wd : (Cond.fieldLink own idx ref name desc) ∈ lw_gd) (hdg : decode cc pc = .ok (.getfield idx, 3)) (kk : ∀ v, Sim K L cc own nm nL d hp E (pc + 3) ls (.ref v :: st) h (F v)) : Sim K L cc own nm nL d hp E pc ls (.ref a :: st) h ((xgR cs h a k).bind F) := by
  obtain ⟨p, l, e, s, m, args, below, meth, c⟩ := K
  obtain ⟨D, tA, base, ro, rd, ad0, n0, z0⟩ := L
  intro q hq
  obtain ⟨v, h1, h2⟩ := Option.bind_eq_some_iff.mp hq
  obtain ⟨mo, k2⟩ := kk v q h2
  obtain ⟨ci, fs, he, hci, hv⟩ := xgR_spec h1
  obtain ⟨Cn, T, N, ty0, f1, f2, f3, f4, f5, f6, f7⟩ := hf ci hci
  refine ⟨mo, fun C R Q a1 a2 a3 a4 hE ad H locs lsA hI hc hl => ?_⟩
  have k2 := k2 C
  obtain ⟨hx, hb, hml, hown, hts, hG, hnm⟩ := C
  have h3 := hI.obj hG he
  have hi := hI
  obtain ⟨i1, -, -, -, -, -, -, -, i9, -⟩ := hi
  have hcv : xcv h.length (.ref v) := (i9 _ _ he : ∀ v ∈ fs, xcv h.length v) _ (List.mem_of_getElem? hv)
  refine va_get (D := D) (own := own) (ref := ref) (T := T) (v := .ref (ad v)) (fs := fs.map (xv ad)) hx hb hts f4 hown hG.1 i1 (a - 3) (xw_get h3 he) f1 k f2 (by rw [f3]; exact hts _ wd) (by rw [f3]; exact fun _ z => z) (by rw [List.getElem?_map, hv]; rfl) hdg ?_
  exact k2 R Q a1 a2 a3 a4 hE ad H locs lsA hI ⟨hc.1, xcc hcv (xct hc.2)⟩ hl
theorem S_putI {F : xH → Option ρ} {x : Int32} (hf : xFd cs k ref name desc false ty) (wd : (Cond.fieldLink own idx ref name desc) ∈ lw_gd) (hn : narrow ty (.int x) = .int x) (hft : fits ty (.int x) = true) (hdg : decode cc pc = .ok (.putfield idx, 3)) (kk : ∀ h1, Sim K L cc own nm nL d hp E (pc + 3) ls st h1 (F h1)) : Sim K L cc own nm nL d hp E pc ls (.int x :: .ref a :: st) h ((xpI cs h a k x).bind F) := by
  obtain ⟨p, l, e, s, m, args, below, meth, c⟩ := K
  obtain ⟨D, tA, base, ro, rd, ad0, n0, z0⟩ := L
  intro q hq
  obtain ⟨h1, e1, e2⟩ := Option.bind_eq_some_iff.mp hq
  obtain ⟨mo, k2⟩ := kk h1 q e2
  obtain ⟨ci, fs, he, hci, hlen, rfl⟩ := xpI_spec e1
  obtain ⟨Cn, T, N, ty0, f1, f2, f3, f4, f5, f6, f7⟩ := hf ci hci
  have hs : xs (.inr (ci, fs.set k (.int x))) = xs (.inr (ci, fs)) := by simp [xs]
  rw [List.length_set, xz_set he hs] at mo
  refine ⟨mo, fun C R Q a1 a2 a3 a4 hE ad H locs lsA hI hc hl => ?_⟩
  have k2 := k2 C
  obtain ⟨hx, hb, hml, hown, hts, hG, hnm⟩ := C
  have h3 := hI.obj hG he
  have hi := hI
  obtain ⟨i1, i2, i3, -, -, -, -, -, i9, -⟩ := hi
  refine va_put (D := D) (own := own) (ref := ref) (T := T) (v := .int x) (ty := ty) (fs := fs.map (xv ad)) hx hb hts f4 ty0 f5 f6 hown hG.1 i1 i2 i3 (a - 3) (xw_get h3 he) f1 k f2 (by rw [f3]; exact hts _ wd) (by rw [f3]; exact fun _ z => z) (by rw [f3]) (by rw [f3]; exact f7) hn hft (by rw [List.length_map]; exact hlen) hdg (fun H1 locs1 hP hD hS => ?_)
  have em : (fs.map (xv ad)).set k (.int x) = (fs.set k (.int x)).map (xv ad) := by rw [List.map_set]; rfl
  rw [em] at hP hD
  have hce : xce h.length (.inr (ci, fs.set k (.int x))) := fun v hv => by
    rcases List.mem_or_eq_of_mem_set hv with z | z
    · exact (i9 _ _ he : ∀ v ∈ fs, xcv h.length v) v z
    · rw [z]; exact xcv_i
  have hI' := hI.set h3 he hs hce hP hD hS
  have := k2 R Q a1 a2 a3 a4 hE ad H1 locs1 lsA hI' (by rw [List.length_set]; exact ⟨hc.1, xct (xct hc.2)⟩) hl
  rw [List.length_set, xz_set he hs] at this
  exact this
theorem S_putIF {F : xH → Option ρ} {x : Int32} (hf : xFd cs k own name desc true ty) (wd : (Cond.fieldLink own idx own name desc) ∈ lw_gd) (hn : narrow ty (.int x) = .int x) (hft : fits ty (.int x) = true) (hdg : decode cc pc = .ok (.putfield idx, 3)) (kk : ∀ h1, Sim K L cc own "<init>" nL d hp E (pc + 3) ls st h1 (F h1)) : Sim K L cc own "<init>" nL d hp E pc ls (.int x :: .ref a :: st) h ((xpI cs h a k x).bind F) := by
  obtain ⟨p, l, e, s, m, args, below, meth, c⟩ := K
  obtain ⟨D, tA, base, ro, rd, ad0, n0, z0⟩ := L
  intro q hq
  obtain ⟨h1, e1, e2⟩ := Option.bind_eq_some_iff.mp hq
  obtain ⟨mo, k2⟩ := kk h1 q e2
  obtain ⟨ci, fs, he, hci, hlen, rfl⟩ := xpI_spec e1
  obtain ⟨Cn, T, N, ty0, f1, f2, f3, f4, f5, f6, f7⟩ := hf ci hci
  have hs : xs (.inr (ci, fs.set k (.int x))) = xs (.inr (ci, fs)) := by simp [xs]
  rw [List.length_set, xz_set he hs] at mo
  refine ⟨mo, fun C R Q a1 a2 a3 a4 hE ad H locs lsA hI hc hl => ?_⟩
  have k2 := k2 C
  obtain ⟨hx, hb, hml, hown, hts, hG, hnm⟩ := C
  have h3 := hI.obj hG he
  have hi := hI
  obtain ⟨i1, i2, i3, -, -, -, -, -, i9, -⟩ := hi
  refine va_putF (D := D) (own := own) (ref := own) (T := T) (v := .int x) (ty := ty) (fs := fs.map (xv ad)) hx hb hts f4 ty0 f5 f6 hown hG.1 i1 i2 i3 (a - 3) (xw_get h3 he) f1 k f2 (by rw [f3]; exact hts _ wd) (by rw [f3]; exact fun _ z => z) (by rw [f3]) hnm (by rw [f3]) (by rw [f3]; exact f7) hn hft (by rw [List.length_map]; exact hlen) hdg (fun H1 locs1 hP hD hS => ?_)
  have em : (fs.map (xv ad)).set k (.int x) = (fs.set k (.int x)).map (xv ad) := by rw [List.map_set]; rfl
  rw [em] at hP hD
  have hce : xce h.length (.inr (ci, fs.set k (.int x))) := fun v hv => by
    rcases List.mem_or_eq_of_mem_set hv with z | z
    · exact (i9 _ _ he : ∀ v ∈ fs, xcv h.length v) v z
    · rw [z]; exact xcv_i
  have hI' := hI.set h3 he hs hce hP hD hS
  have := k2 R Q a1 a2 a3 a4 hE ad H1 locs1 lsA hI' (by rw [List.length_set]; exact ⟨hc.1, xct (xct hc.2)⟩) hl
  rw [List.length_set, xz_set he hs] at this
  exact this
theorem S_putRF {F : xH → Option ρ} {x : Nat} (hf : xFd cs k own name desc true ty) (wd : (Cond.fieldLink own idx own name desc) ∈ lw_gd) (hn : ∀ q, narrow ty (.ref q) = .ref q) (hft : ∀ q, fits ty (.ref q) = true) (hdg : decode cc pc = .ok (.putfield idx, 3)) (kk : ∀ h1, Sim K L cc own "<init>" nL d hp E (pc + 3) ls st h1 (F h1)) : Sim K L cc own "<init>" nL d hp E pc ls (.ref x :: .ref a :: st) h ((xpR cs h a k x).bind F) := by
  obtain ⟨p, l, e, s, m, args, below, meth, c⟩ := K
  obtain ⟨D, tA, base, ro, rd, ad0, n0, z0⟩ := L
  intro q hq
  obtain ⟨h1, e1, e2⟩ := Option.bind_eq_some_iff.mp hq
  obtain ⟨mo, k2⟩ := kk h1 q e2
  obtain ⟨ci, fs, he, hci, hlen, rfl⟩ := xpR_spec e1
  obtain ⟨Cn, T, N, ty0, f1, f2, f3, f4, f5, f6, f7⟩ := hf ci hci
  have hs : xs (.inr (ci, fs.set k (.ref x))) = xs (.inr (ci, fs)) := by simp [xs]
  rw [List.length_set, xz_set he hs] at mo
  refine ⟨mo, fun C R Q a1 a2 a3 a4 hE ad H locs lsA hI hc hl => ?_⟩
  have k2 := k2 C
  obtain ⟨hx, hb, hml, hown, hts, hG, hnm⟩ := C
  have h3 := hI.obj hG he
  have hi := hI
  obtain ⟨i1, i2, i3, -, -, -, -, -, i9, -⟩ := hi
  refine va_putF (D := D) (own := own) (ref := own) (T := T) (v := .ref (ad x)) (ty := ty) (fs := fs.map (xv ad)) hx hb hts f4 ty0 f5 f6 hown hG.1 i1 i2 i3 (a - 3) (xw_get h3 he) f1 k f2 (by rw [f3]; exact hts _ wd) (by rw [f3]; exact fun _ z => z) (by rw [f3]) hnm (by rw [f3]) (by rw [f3]; exact f7) (hn _) (hft _) (by rw [List.length_map]; exact hlen) hdg (fun H1 locs1 hP hD hS => ?_)
  have em : (fs.map (xv ad)).set k (.ref (ad x)) = (fs.set k (.ref x)).map (xv ad) := by rw [List.map_set]; rfl
  rw [em] at hP hD
  have hce : xce h.length (.inr (ci, fs.set k (.ref x))) := fun v hv => by
    rcases List.mem_or_eq_of_mem_set hv with z | z
    · exact (i9 _ _ he : ∀ v ∈ fs, xcv h.length v) v z
    · rw [z]; exact xch hc.2
  have hI' := hI.set h3 he hs hce hP hD hS
  have := k2 R Q a1 a2 a3 a4 hE ad H1 locs1 lsA hI' (by rw [List.length_set]; exact ⟨hc.1, xct (xct hc.2)⟩) hl
  rw [List.length_set, xz_set he hs] at this
  exact this
theorem S_gets0 (wd : (Cond.fieldLink own idx RX11 "CHOICES" "[I") ∈ lw_gd) (hdg : decode cc pc = .ok (.getstatic idx, 3)) (k : Sim K L cc own nm nL d hp E (pc + 3) ls (.ref 0 :: st) h X) : Sim K L cc own nm nL d hp E pc ls st h X := by
  obtain ⟨p, l, e, s, m, args, below, meth, c⟩ := K
  obtain ⟨D, tA, base, ro, rd, ad0, n0, z0⟩ := L
  refine Sim.step0 (fun C R Q _ _ _ _ k ad H locs lsA hI hc hl => ?_) k
  obtain ⟨hx, hb, hml, hown, hts, hG, hnm⟩ := C
  have hi := hI
  obtain ⟨i1, i2, i3, -, i5, -, i7, -, -, i10⟩ := hi
  refine va_gets hx hb hG.2.2.1 i3 hown (hts _ wd) (fun _ z => z) hdg ?_
  rw [← i5 0 (by omega)]
  exact k ad H locs lsA hI ⟨hc.1, xcc (xcv_r (by omega)) hc.2⟩ hl
theorem S_gets1 (wd : (Cond.fieldLink own idx RX11 "WIDTHS" "[I") ∈ lw_gd) (hdg : decode cc pc = .ok (.getstatic idx, 3)) (k : Sim K L cc own nm nL d hp E (pc + 3) ls (.ref 1 :: st) h X) : Sim K L cc own nm nL d hp E pc ls st h X := by
  obtain ⟨p, l, e, s, m, args, below, meth, c⟩ := K
  obtain ⟨D, tA, base, ro, rd, ad0, n0, z0⟩ := L
  refine Sim.step0 (fun C R Q _ _ _ _ k ad H locs lsA hI hc hl => ?_) k
  obtain ⟨hx, hb, hml, hown, hts, hG, hnm⟩ := C
  have hi := hI
  obtain ⟨i1, i2, i3, -, i5, -, i7, -, -, i10⟩ := hi
  refine va_gets hx hb hG.2.2.2.1 i3 hown (hts _ wd) (fun _ z => z) hdg ?_
  rw [← i5 1 (by omega)]
  exact k ad H locs lsA hI ⟨hc.1, xcc (xcv_r (by omega)) hc.2⟩ hl
theorem S_getsN1 (hdg : decode cc pc = .ok (.getstatic 71, 3)) (k : Sim K L cc RX1 nm nL d hp E (pc + 3) ls (.ref 1 :: st) h X) : Sim K L cc RX1 nm nL d hp E pc ls st h X := by
  obtain ⟨p, l, e, s, m, args, below, meth, c⟩ := K
  obtain ⟨D, tA, base, ro, rd, ad0, n0, z0⟩ := L
  refine Sim.step0 (fun C R Q _ _ _ _ k ad H locs lsA hI hc hl => ?_) k
  obtain ⟨hx, hb, hml, hown, hts, hG, hnm⟩ := C
  have hi := hI
  obtain ⟨i1, i2, i3, -, i5, -, i7, -, -, i10⟩ := hi
  refine va_getsN hx hb hG.2.2.2.1 i3 hown (va_Nw.use (A := args) rfl hG.2.2.2.2.2.2.2.1) (fun _ z => z) hdg ?_
  rw [← i5 1 (by omega)]
  exact k ad H locs lsA hI ⟨hc.1, xcc (xcv_r (by omega)) hc.2⟩ hl
theorem S_aI {F : Int32 → Option ρ} {i : Int32} (hdg : decode cc pc = .ok (.iaload, 1)) (kk : ∀ v, Sim K L cc own nm nL d hp E (pc + 1) ls (.int v :: st) h (F v)) : Sim K L cc own nm nL d hp E pc ls (.int i :: .ref a :: st) h ((xaI h a i).bind F) := by
  obtain ⟨p, l, e, s, m, args, below, meth, c⟩ := K
  obtain ⟨D, tA, base, ro, rd, ad0, n0, z0⟩ := L
  intro q hq
  obtain ⟨v, h1, h2⟩ := Option.bind_eq_some_iff.mp hq
  obtain ⟨mo, k2⟩ := kk v q h2
  obtain ⟨n, f, he, hin, rfl⟩ := xaI_spec h1
  refine ⟨mo, fun C R Q a1 a2 a3 a4 hE ad H locs lsA hI hc hl => ?_⟩
  have k2 := k2 C
  obtain ⟨hx, hb, hml, hown, hts, hG, hnm⟩ := C
  have hi := hI
  obtain ⟨i1, i2, i3, i4, i5, i6, -⟩ := hi
  have kf := k2 R Q a1 a2 a3 a4 hE ad H locs lsA hI ⟨hc.1, xcc xcv_i (xct (xct hc.2))⟩ hl
  rcases Nat.lt_or_ge a 3 with hl3 | hl3
  · obtain ⟨n', f', u1, u2⟩ := hG.2.2.2.2.2.1 a hl3
    rw [xtake_at i6 hl3, u1] at he
    cases he
    rw [← i5 a hl3] at u2
    exact va_ti hx hb u2 i3 hin rfl hdg kf
  · exact va_iald (f := f) hx hb hG.1 i1 (a - 3) 0 (xw_get hl3 he) rfl hin hdg kf
theorem S_uI {F : xH → Option ρ} {i x : Int32} (hdg : decode cc pc = .ok (.iastore, 1)) (kk : ∀ h1, Sim K L cc own nm nL d hp E (pc + 1) ls st h1 (F h1)) : Sim K L cc own nm nL d hp E pc ls (.int x :: .int i :: .ref a :: st) h ((xuI h a i x).bind F) := by
  obtain ⟨p, l, e, s, m, args, below, meth, c⟩ := K
  obtain ⟨D, tA, base, ro, rd, ad0, n0, z0⟩ := L
  intro q hq
  obtain ⟨h1, e1, e2⟩ := Option.bind_eq_some_iff.mp hq
  obtain ⟨mo, k2⟩ := kk h1 q e2
  obtain ⟨n, f, he, h3, hin, rfl⟩ := xuI_spec e1
  have hs : xs (.inl (0, n, .inl (upd f i.toNatClampNeg x))) = xs (.inl (0, n, .inl f)) := rfl
  rw [List.length_set, xz_set he hs] at mo
  refine ⟨mo, fun C R Q a1 a2 a3 a4 hE ad H locs lsA hI hc hl => ?_⟩
  have k2 := k2 C
  obtain ⟨hx, hb, hml, hown, hts, hG, hnm⟩ := C
  have hi := hI
  obtain ⟨i1, i2, i3, -⟩ := hi
  refine va_iast (f := f) hx hb hG.1 i1 i2 i3 (a - 3) 0 (xw_get h3 he) rfl hin hdg (fun H1 locs1 hP hD hS => ?_)
  have hI' := hI.set (e1 := .inl (0, n, .inl (upd f i.toNatClampNeg x))) h3 he hs trivial hP hD hS
  have := k2 R Q a1 a2 a3 a4 hE ad H1 locs1 lsA hI' (by rw [List.length_set]; exact ⟨hc.1, xct (xct (xct hc.2))⟩) hl
  rw [List.length_set, xz_set he hs] at this
  exact this
theorem S_aZ {F : Int32 → Option ρ} {i : Int32} (hdg : decode cc pc = .ok (.baload, 1)) (kk : ∀ v, Sim K L cc own nm nL d hp E (pc + 1) ls (.int v :: st) h (F v)) : Sim K L cc own nm nL d hp E pc ls (.int i :: .ref a :: st) h ((xaZ h a i).bind F) := by
  obtain ⟨p, l, e, s, m, args, below, meth, c⟩ := K
  obtain ⟨D, tA, base, ro, rd, ad0, n0, z0⟩ := L
  intro q hq
  obtain ⟨v, h1, h2⟩ := Option.bind_eq_some_iff.mp hq
  obtain ⟨mo, k2⟩ := kk v q h2
  obtain ⟨n, f, he, hin, rfl⟩ := xaZ_spec h1
  refine ⟨mo, fun C R Q a1 a2 a3 a4 hE ad H locs lsA hI hc hl => ?_⟩
  have k2 := k2 C
  obtain ⟨hx, hb, hml, hown, hts, hG, hnm⟩ := C
  have h3 := hI.arr hG he (Or.inl Nat.one_ne_zero)
  have hi := hI
  obtain ⟨i1, i2, i3, i4, i5, i6, -⟩ := hi
  exact va_zald (f := f) hx hb hG.1 i1 (a - 3) 1 (xw_get h3 he) rfl hin hdg (k2 R Q a1 a2 a3 a4 hE ad H locs lsA hI ⟨hc.1, xcc xcv_i (xct (xct hc.2))⟩ hl)
theorem S_uZ {F : xH → Option ρ} {i x : Int32} (hdg : decode cc pc = .ok (.bastore, 1)) (kk : ∀ h1, Sim K L cc own nm nL d hp E (pc + 1) ls st h1 (F h1)) : Sim K L cc own nm nL d hp E pc ls (.int x :: .int i :: .ref a :: st) h ((xuZ h a i x).bind F) := by
  obtain ⟨p, l, e, s, m, args, below, meth, c⟩ := K
  obtain ⟨D, tA, base, ro, rd, ad0, n0, z0⟩ := L
  intro q hq
  obtain ⟨h1, e1, e2⟩ := Option.bind_eq_some_iff.mp hq
  obtain ⟨mo, k2⟩ := kk h1 q e2
  obtain ⟨n, f, he, hin, rfl⟩ := xuZ_spec e1
  have hs : xs (.inl (1, n, .inl (upd f i.toNatClampNeg (vp_nar .boolean x)))) = xs (.inl (1, n, .inl f)) := rfl
  rw [List.length_set, xz_set he hs] at mo
  refine ⟨mo, fun C R Q a1 a2 a3 a4 hE ad H locs lsA hI hc hl => ?_⟩
  have k2 := k2 C
  obtain ⟨hx, hb, hml, hown, hts, hG, hnm⟩ := C
  have h3 := hI.arr hG he (Or.inl Nat.one_ne_zero)
  have hi := hI
  obtain ⟨i1, i2, i3, -⟩ := hi
  refine va_zast (f := f) hx hb hG.1 i1 i2 i3 (a - 3) 1 (xw_get h3 he) rfl hin hdg (fun H1 locs1 hP hD hS => ?_)
  have hI' := hI.set (e1 := .inl (1, n, .inl (upd f i.toNatClampNeg (vp_nar .boolean x)))) h3 he hs trivial hP hD hS
  have := k2 R Q a1 a2 a3 a4 hE ad H1 locs1 lsA hI' (by rw [List.length_set]; exact ⟨hc.1, xct (xct (xct hc.2))⟩) hl
  rw [List.length_set, xz_set he hs] at this
  exact this
theorem S_aQ {F : Option Nat → Option ρ} {i : Int32} {t : Nat} {Cn : String} (ht : ∀ tA, (xT tA)[t]? = some (tA t, .object Cn)) (hdg : decode cc pc = .ok (.aaload, 1)) (kn : Sim K L cc own nm nL d hp E (pc + 1) ls (.null :: st) h (F none)) (kk : ∀ v, Sim K L cc own nm nL d hp E (pc + 1) ls (.ref v :: st) h (F (some v))) : Sim K L cc own nm nL d hp E pc ls (.int i :: .ref a :: st) h ((xaQ t h a i).bind F) := by
  obtain ⟨p, l, e, s, m, args, below, meth, c⟩ := K
  obtain ⟨D, tA, base, ro, rd, ad0, n0, z0⟩ := L
  intro q hq
  obtain ⟨r, h1, h2⟩ := Option.bind_eq_some_iff.mp hq
  obtain ⟨n, f, he, hin, hr⟩ := xaQ_spec h1
  have key : ∀ (v : Value), v = va_rf r → Sim (p, l, e, s, m, args, below, meth, c) (D, tA, base, ro, rd, ad0, n0, z0) cc own nm nL d hp E (pc + 1) ls (v :: st) h (F r) := by
    intro v hv
    subst hv
    cases r with
    | none => exact kn
    | some w => exact kk w
  obtain ⟨mo, k2⟩ := key _ rfl q h2
  refine ⟨mo, fun C R Q a1 a2 a3 a4 hE ad H locs lsA hI hc hl => ?_⟩
  have k2 := k2 C
  obtain ⟨hx, hb, hml, hown, hts, hG, hnm⟩ := C
  have h3 := hI.arr hG he (Or.inr (fun _ z => by cases z))
  have hi := hI
  obtain ⟨i1, i2, i3, i4, i5, i6, -, -, i9, -⟩ := hi
  have hcv : xcv h.length (va_rf r) := by
    subst hr
    cases hw : f i.toNatClampNeg with
    | none => exact xcv_n
    | some w => exact xcv_r ((i9 _ _ he : ∀ j a, f j = some a → a < h.length) _ _ hw)
  have kf := k2 R Q a1 a2 a3 a4 hE ad H locs lsA hI ⟨hc.1, xcc hcv (xct (xct hc.2))⟩ hl
  refine va_aldq (f := fun j => (f j).map ad) hx hb hG.1 i1 (a - 3) t (xw_get h3 he) (ht tA) hin hdg ?_
  show W p l e R s m args below meth c H locs _ _ Q (F0 m (pc + 1) lsA (va_rf ((f i.toNatClampNeg).map ad) :: st.map (xv ad)))
  rw [← hr, ← xv_rf]
  exact kf
theorem S_aR {F : Nat → Option ρ} {i : Int32} {t : Nat} {Cn : String} (ht : ∀ tA, (xT tA)[t]? = some (tA t, .object Cn)) (hdg : decode cc pc = .ok (.aaload, 1)) (kk : ∀ v, Sim K L cc own nm nL d hp E (pc + 1) ls (.ref v :: st) h (F v)) : Sim K L cc own nm nL d hp E pc ls (.int i :: .ref a :: st) h ((xaR t h a i).bind F) := by
  have e : (xaR t h a i).bind F = (xaQ t h a i).bind (fun r => r.bind F) := by
    unfold xaR
    rw [Option.bind_assoc]
    rfl
  rw [e]
  exact S_aQ ht hdg Sim.none kk
theorem S_uN {F : xH → Option ρ} {i : Int32} {t : Nat} {Cn : String} (ht : ∀ tA, (xT tA)[t]? = some (tA t, .object Cn)) (hdg : decode cc pc = .ok (.aastore, 1)) (kk : ∀ h1, Sim K L cc own nm nL d hp E (pc + 1) ls st h1 (F h1)) : Sim K L cc own nm nL d hp E pc ls (.null :: .int i :: .ref a :: st) h ((xuQ t h a i none).bind F) := by
  obtain ⟨p, l, e, s, m, args, below, meth, c⟩ := K
  obtain ⟨D, tA, base, ro, rd, ad0, n0, z0⟩ := L
  intro q hq
  obtain ⟨h1, e1, e2⟩ := Option.bind_eq_some_iff.mp hq
  obtain ⟨mo, k2⟩ := kk h1 q e2
  obtain ⟨n, f, he, hin, rfl⟩ := xuQ_spec e1
  have hs : xs (.inl (t, n, .inr (.inr (.inr (.inr (va_up f i.toNatClampNeg none)))))) = xs (.inl (t, n, .inr (.inr (.inr (.inr f))))) := rfl
  rw [List.length_set, xz_set he hs] at mo
  refine ⟨mo, fun C R Q a1 a2 a3 a4 hE ad H locs lsA hI hc hl => ?_⟩
  have k2 := k2 C
  obtain ⟨hx, hb, hml, hown, hts, hG, hnm⟩ := C
  have h3 := hI.arr hG he (Or.inr (fun _ z => by cases z))
  have hi := hI
  obtain ⟨i1, i2, i3, -, -, -, -, -, i9, -⟩ := hi
  refine va_astqN (f := fun j => (f j).map ad) hx hb hG.1 i1 i2 i3 (a - 3) t (xw_get h3 he) (ht tA) hin hdg (fun H1 locs1 hP hD hS => ?_)
  have em : va_up (fun j => (f j).map ad) i.toNatClampNeg none = fun j => (va_up f i.toNatClampNeg none j).map ad := by
    funext j
    unfold va_up
    split <;> rfl
  rw [em] at hP hD
  have hce : xce h.length (.inl (t, n, .inr (.inr (.inr (.inr (va_up f i.toNatClampNeg none)))))) := fun j w hw => by
    unfold va_up at hw
    split at hw
    · cases hw
    · exact (i9 _ _ he : ∀ j a, f j = some a → a < h.length) _ _ hw
  have hI' := hI.set h3 he hs hce hP hD hS
  have := k2 R Q a1 a2 a3 a4 hE ad H1 locs1 lsA hI' (by rw [List.length_set]; exact ⟨hc.1, xct (xct (xct hc.2))⟩) hl
  rw [List.length_set, xz_set he hs] at this
  exact this
/-- a reference is stored into an array of its own class, or of one that it can be cast to -/
theorem S_uR {F : xH → Option ρ} {i : Int32} {t b ci : Nat} {q0 : vw_C} {Cn : String} (ht : ∀ tA, (xT tA)[t]? = some (tA t, .object Cn)) (hk : xk h b = some ci) (hq0 : vwCl[ci]? = some q0) (hcst : q0.1 = Cn ∨ (q0.1, Cn) ∈ xNC) (hdg : decode cc pc = .ok (.aastore, 1)) (kk : ∀ h1, Sim K L cc own nm nL d hp E (pc + 1) ls st h1 (F h1)) : Sim K L cc own nm nL d hp E pc ls (.ref b :: .int i :: .ref a :: st) h ((xuQ t h a i (some b)).bind F) := by
  obtain ⟨p, l, e, s, m, args, below, meth, c⟩ := K
  obtain ⟨D, tA, base, ro, rd, ad0, n0, z0⟩ := L
  intro q hq
  obtain ⟨h1, e1, e2⟩ := Option.bind_eq_some_iff.mp hq
  obtain ⟨mo, k2⟩ := kk h1 q e2
  obtain ⟨n, f, he, hin, rfl⟩ := xuQ_spec e1
  obtain ⟨fs, hb0⟩ := xk_spec hk
  have hs : xs (.inl (t, n, .inr (.inr (.inr (.inr (va_up f i.toNatClampNeg (some b))))))) = xs (.inl (t, n, .inr (.inr (.inr (.inr f))))) := rfl
  rw [List.length_set, xz_set he hs] at mo
  refine ⟨mo, fun C R Q a1 a2 a3 a4 hE ad H locs lsA hI hc hl => ?_⟩
  have k2 := k2 C
  obtain ⟨hx, hb, hml, hown, hts, hG, hnm⟩ := C
  have h3 := hI.arr hG he (Or.inr (fun _ z => by cases z))
  have h3b := hI.obj hG hb0
  have hi := hI
  obtain ⟨i1, i2, i3, -, -, -, -, -, i9, -⟩ := hi
  have fin : ∀ (H1 : Heap) (locs1 : List Loc), va_P D vwCl ((xw tA ad h).set (a - 3) (ad a, .inl (tA t, n, .inr (.inr (.inr (.inr (va_up (fun j => (f j).map ad) i.toNatClampNeg (some (ad b))))))))) H1 → va_D (fun q => base ≤ q) ((xw tA ad h).set (a - 3) (ad a, .inl (tA t, n, .inr (.inr (.inr (.inr (va_up (fun j => (f j).map ad) i.toNatClampNeg (some (ad b))))))))) → va_S (fun q => base ≤ q) s.heap H1 locs1 → W p l e R s m args below meth c H1 locs1 (h.length - n0) (xz h - z0) Q (F0 m (pc + 1) lsA (st.map (xv ad))) := by
    intro H1 locs1 hP hD hS
    have em : va_up (fun j => (f j).map ad) i.toNatClampNeg (some (ad b)) = fun j => (va_up f i.toNatClampNeg (some b) j).map ad := by
      funext j
      unfold va_up
      split <;> rfl
    rw [em] at hP hD
    have hce : xce h.length (.inl (t, n, .inr (.inr (.inr (.inr (va_up f i.toNatClampNeg (some b))))))) := fun j w hw => by
      unfold va_up at hw
      split at hw
      · cases hw; exact xch hc.2 b rfl
      · exact (i9 _ _ he : ∀ j a, f j = some a → a < h.length) _ _ hw
    have hI' := hI.set h3 he hs hce hP hD hS
    have := k2 R Q a1 a2 a3 a4 hE ad H1 locs1 lsA hI' (by rw [List.length_set]; exact ⟨hc.1, xct (xct (xct hc.2))⟩) hl
    rw [List.length_set, xz_set he hs] at this
    exact this
  rcases hcst with z | z
  · subst z
    exact va_astq (f := fun j => (f j).map ad) hx hb hG.1 i1 i2 i3 (a - 3) t (b - 3) ci (xw_get h3 he) (ht tA) (xw_get h3b hb0) hq0 hin hdg fin
  · exact va_astqO (f := fun j => (f j).map ad) hx hb hG.1 i1 i2 i3 (a - 3) t (b - 3) ci (xw_get h3 he) (ht tA) (hG.2.2.2.2.2.2.2.2.2.1 _ z) (xw_get h3b hb0) hq0 hin hdg fin
theorem S_aL {F : Int32 → Option ρ} (hdg : decode cc pc = .ok (.arraylength, 1)) (kk : ∀ v, Sim K L cc own nm nL d hp E (pc + 1) ls (.int v :: st) h (F v)) : Sim K L cc own nm nL d hp E pc ls (.ref a :: st) h ((xaL h a).bind F) := by
  obtain ⟨p, l, e, s, m, args, below, meth, c⟩ := K
  obtain ⟨D, tA, base, ro, rd, ad0, n0, z0⟩ := L
  intro q hq
  obtain ⟨v, h1, h2⟩ := Option.bind_eq_some_iff.mp hq
  obtain ⟨mo, k2⟩ := kk v q h2
  obtain ⟨n, f, he, hv⟩ := xaL_spec h1
  refine ⟨mo, fun C R Q a1 a2 a3 a4 hE ad H locs lsA hI hc hl => ?_⟩
  have k2 := k2 C
  obtain ⟨hx, hb, hml, hown, hts, hG, hnm⟩ := C
  have hi := hI
  obtain ⟨i1, i2, i3, i4, i5, i6, -⟩ := hi
  have kf := k2 R Q a1 a2 a3 a4 hE ad H locs lsA hI ⟨hc.1, xcc xcv_i (xct hc.2)⟩ hl
  rcases Nat.lt_or_ge a 3 with hl3 | hl3
  · obtain ⟨n', f', u1, u2⟩ := hG.2.2.2.2.2.1 a hl3
    rw [xtake_at i6 hl3, u1] at he
    cases he
    rw [← i5 a hl3] at u2
    exact va_tlen hx hb u2 i3 hv hdg kf
  · exact va_alen (x := (n, .inl f)) hx hb hG.1 i1 (a - 3) 0 (xw_get hl3 he) (ty := .int) rfl hv hdg kf
end XHEAP
