/-! THE ABSTRACT MACHINE. An abstract heap is a list of cells; cell k stands at the address 'ad k'; references inside are places of the list. The first three cells are arrays that nobody writes: CHOICES, WIDTHS, the script. -/
abbrev xH : Type := List va_E
def xv (ad : Nat → Nat) : Value → Value
  | .ref a => .ref (ad a)
  | .int x => .int x
  | .long x => .long x
  | .null => .null
  | .float x => .float x
  | .double x => .double x
  | .retAddr x => .retAddr x
abbrev xB : Type := (Nat → Int32) ⊕ (Nat → Int64) ⊕ (Nat → UInt32) ⊕ (Nat → UInt64) ⊕ (Nat → Option Nat)
def xa (ad : Nat → Nat) : xB → xB
  | .inl f => .inl f
  | .inr (.inl f) => .inr (.inl f)
  | .inr (.inr (.inl f)) => .inr (.inr (.inl f))
  | .inr (.inr (.inr (.inl f))) => .inr (.inr (.inr (.inl f)))
  | .inr (.inr (.inr (.inr f))) => .inr (.inr (.inr (.inr (fun j => (f j).map ad))))
def xe (tA ad : Nat → Nat) : va_E → va_E
  | .inl (c, n, a) => .inl (tA c, n, xa ad a)
  | .inr (c, fs) => .inr (c, fs.map (xv ad))
def xw (tA ad : Nat → Nat) (h : xH) : va_W := (h.drop 3).mapIdx (fun k e => (ad (k + 3), xe tA ad e))
def xs : va_E → Nat
  | .inl (_, n, _) => n
  | .inr (_, fs) => fs.length
def xz (h : xH) : Nat := (h.map xs).sum
def xcv (n : Nat) (v : Value) : Prop := ∀ a, v = .ref a → a < n
def xca (n : Nat) : xB → Prop
  | .inl _ => True
  | .inr (.inl _) => True
  | .inr (.inr (.inl _)) => True
  | .inr (.inr (.inr (.inl _))) => True
  | .inr (.inr (.inr (.inr f))) => ∀ j a, f j = some a → a < n
def xce (n : Nat) : va_E → Prop
  | .inl (_, _, a) => xca n a
  | .inr (_, fs) => ∀ v ∈ fs, xcv n v
def xcH (h : xH) : Prop := ∀ (k : Nat) (e : va_E), h[k]? = some e → xce h.length e
def xl (ad : Nat → Nat) (ls : List (Nat × Value)) : List (Nat × Value) := ls.map (fun q => (q.1, xv ad q.2))
def xcl (n : Nat) (ls : List (Nat × Value)) (st : List Value) : Prop := (∀ q ∈ ls, xcv n q.2) ∧ ∀ v ∈ st, xcv n v
-- small rows
theorem xv_cat (ad : Nat → Nat) (v : Value) : (xv ad v).category = v.category := by cases v <;> rfl
theorem xv_rf (ad : Nat → Nat) (r : Option Nat) : xv ad (va_rf r) = va_rf (r.map ad) := by cases r <;> rfl
theorem xw_at (tA ad : Nat → Nat) (h : xH) (k : Nat) : (xw tA ad h)[k]? = (h[k + 3]?).map (fun e => (ad (k + 3), xe tA ad e)) := by
  simp only [xw, List.getElem?_mapIdx, List.getElem?_drop]
  rw [Nat.add_comm 3 k]
theorem xw_get {tA ad : Nat → Nat} {h : xH} {a : Nat} {e : va_E} (ha : 3 ≤ a) (he : h[a]? = some e) : (xw tA ad h)[a - 3]? = some (ad a, xe tA ad e) := by
  rw [xw_at, show a - 3 + 3 = a by omega, he]; rfl
theorem xw_set {tA ad : Nat → Nat} {h : xH} {a : Nat} {e : va_E} (ha : 3 ≤ a) : xw tA ad (h.set a e) = (xw tA ad h).set (a - 3) (ad a, xe tA ad e) := by
  apply List.ext_getElem?
  intro k
  rw [xw_at, List.getElem?_set, List.getElem?_set]
  by_cases hk : a = k + 3
  · subst hk
    have hl : (xw tA ad h).length = h.length - 3 := by simp [xw]
    simp only [Nat.add_sub_cancel, if_true]
    rw [hl]
    by_cases hl2 : k + 3 < h.length
    · rw [if_pos hl2, if_pos (by omega)]; rfl
    · rw [if_neg hl2, if_neg (by omega)]; rfl
  · rw [if_neg hk, if_neg (by omega), xw_at]
theorem xw_push {tA ad : Nat → Nat} {h : xH} {e : va_E} (h3 : 3 ≤ h.length) : xw tA ad (h ++ [e]) = xw tA ad h ++ [(ad h.length, xe tA ad e)] := by
  simp only [xw]
  rw [List.drop_append_of_le_length h3, List.mapIdx_append]
  simp only [List.mapIdx_cons, List.mapIdx_nil, List.length_drop]
  rw [show 0 + (h.length - 3) + 3 = h.length by omega]
theorem xw_len (tA ad : Nat → Nat) (h : xH) : (xw tA ad h).length = h.length - 3 := by simp [xw]
theorem xv_agree {ad ad' : Nat → Nat} {n : Nat} (h : ∀ k, k < n → ad' k = ad k) {v : Value} (hv : xcv n v) : xv ad' v = xv ad v := by
  cases v with
  | ref a => show Value.ref (ad' a) = Value.ref (ad a); rw [h a (hv a rfl)]
  | _ => rfl
theorem xa_agree {ad ad' : Nat → Nat} {n : Nat} (h : ∀ k, k < n → ad' k = ad k) {a : xB} (hv : xca n a) : xa ad' a = xa ad a := by
  match a, hv with
  | .inl _, _ => rfl
  | .inr (.inl _), _ => rfl
  | .inr (.inr (.inl _)), _ => rfl
  | .inr (.inr (.inr (.inl _))), _ => rfl
  | .inr (.inr (.inr (.inr f))), hv =>
    have : (fun j => (f j).map ad') = (fun j => (f j).map ad) := by
      funext j
      cases hj : f j with
      | none => rfl
      | some q => show some (ad' q) = some (ad q); rw [h q (hv j q hj)]
    show Sum.inr (Sum.inr (Sum.inr (Sum.inr _))) = Sum.inr (Sum.inr (Sum.inr (Sum.inr _)))
    rw [this]
theorem xe_agree {tA ad ad' : Nat → Nat} {n : Nat} (h : ∀ k, k < n → ad' k = ad k) {e : va_E} (hv : xce n e) : xe tA ad' e = xe tA ad e := by
  match e, hv with
  | .inl (c, m, a), hv => show Sum.inl (tA c, m, xa ad' a) = Sum.inl (tA c, m, xa ad a); rw [xa_agree h hv]
  | .inr (c, fs), hv =>
    show Sum.inr (c, fs.map (xv ad')) = Sum.inr (c, fs.map (xv ad))
    rw [List.map_congr_left (fun v hm => xv_agree h (hv v hm))]
theorem xw_agree {tA ad ad' : Nat → Nat} {h : xH} (hc : xcH h) (hag : ∀ k, k < h.length → ad' k = ad k) : xw tA ad' h = xw tA ad h := by
  apply List.ext_getElem?
  intro k
  rw [xw_at, xw_at]
  cases he : h[k + 3]? with
  | none => rfl
  | some e =>
    have hl : k + 3 < h.length := (List.getElem?_eq_some_iff.mp he).1
    show some (ad' (k + 3), xe tA ad' e) = some (ad (k + 3), xe tA ad e)
    rw [hag _ hl, xe_agree hag (hc _ _ he)]
theorem xl_agree {ad ad' : Nat → Nat} {n : Nat} {ls : List (Nat × Value)} (hc : ∀ q ∈ ls, xcv n q.2) (hag : ∀ k, k < n → ad' k = ad k) : xl ad' ls = xl ad ls :=
  List.map_congr_left (fun q hm => by rw [xv_agree hag (hc q hm)])
theorem xm_agree {ad ad' : Nat → Nat} {n : Nat} {st : List Value} (hc : ∀ v ∈ st, xcv n v) (hag : ∀ k, k < n → ad' k = ad k) : st.map (xv ad') = st.map (xv ad) :=
  List.map_congr_left (fun q hm => by rw [xv_agree hag (hc q hm)])
theorem xl_at {ad : Nat → Nat} {ls : List (Nat × Value)} {k i : Nat} {v : Value} (h : ls[k]? = some (i, v)) : (xl ad ls)[k]? = some (i, xv ad v) := by
  simp [xl, h]
theorem xl_filter (ad : Nat → Nat) (ls : List (Nat × Value)) (i : Nat) : (xl ad ls).filter (fun q => !(q.1 == i) && !(q.1 + 1 == i && q.2.category == 2)) = xl ad (ls.filter (fun q => !(q.1 == i) && !(q.1 + 1 == i && q.2.category == 2))) := by
  simp only [xl, List.filter_map]
  congr 1
  apply List.filter_congr
  intro q _
  simp only [Function.comp, xv_cat]
theorem xl_filter2 (ad : Nat → Nat) (ls : List (Nat × Value)) (i : Nat) : (xl ad ls).filter (fun q => !(q.1 == i) && (!(q.1 == i + 1) && !(q.1 + 1 == i && q.2.category == 2))) = xl ad (ls.filter (fun q => !(q.1 == i) && (!(q.1 == i + 1) && !(q.1 + 1 == i && q.2.category == 2)))) := by
  simp only [xl, List.filter_map]
  congr 1
  apply List.filter_congr
  intro q _
  simp only [Function.comp, xv_cat]
theorem xl_pick (ad : Nat → Nat) (ls : List (Nat × Value)) (ks : List Nat) : lv_pick (xl ad ls) ks = xl ad (lv_pick ls ks) := by
  simp only [lv_pick, xl, List.map_filterMap]
  congr 1
  funext k
  simp [List.getElem?_map]
theorem xcv_i {n : Nat} {x : Int32} : xcv n (.int x) := fun _ h => by cases h
theorem xcv_l {n : Nat} {x : Int64} : xcv n (.long x) := fun _ h => by cases h
theorem xcv_n {n : Nat} : xcv n .null := fun _ h => by cases h
theorem xcv_r {n a : Nat} (h : a < n) : xcv n (.ref a) := fun _ e => by cases e; exact h
theorem xcv_le {n n' : Nat} (hn : n ≤ n') {v : Value} (h : xcv n v) : xcv n' v := fun a e => Nat.lt_of_lt_of_le (h a e) hn
theorem xca_le {n n' : Nat} (hn : n ≤ n') {a : xB} (h : xca n a) : xca n' a := by
  match a, h with
  | .inl _, _ => trivial
  | .inr (.inl _), _ => trivial
  | .inr (.inr (.inl _)), _ => trivial
  | .inr (.inr (.inr (.inl _))), _ => trivial
  | .inr (.inr (.inr (.inr f))), h => exact fun j q e => Nat.lt_of_lt_of_le (h j q e) hn
theorem xce_le {n n' : Nat} (hn : n ≤ n') {e : va_E} (h : xce n e) : xce n' e := by
  match e, h with
  | .inl (c, m, a), h => exact xca_le hn h
  | .inr (c, fs), h => exact fun v hv => xcv_le hn (h v hv)
theorem xcl_le {n n' : Nat} (hn : n ≤ n') {ls : List (Nat × Value)} {st : List Value} (h : xcl n ls st) : xcl n' ls st := ⟨fun q hq => xcv_le hn (h.1 q hq), fun v hv => xcv_le hn (h.2 v hv)⟩
theorem xcH_set {h : xH} {a : Nat} {e : va_E} (hc : xcH h) (he : xce h.length e) : xcH (h.set a e) := by
  intro k x hk
  rw [List.length_set]
  rw [List.getElem?_set] at hk
  split at hk
  · split at hk
    · cases hk; exact he
    · cases hk
  · exact hc k x hk
theorem xcH_push {h : xH} {e : va_E} (hc : xcH h) (he : xce (h.length + 1) e) : xcH (h ++ [e]) := by
  intro k x hk
  rw [List.length_append]
  by_cases hl : k < h.length
  · rw [List.getElem?_append_left hl] at hk
    exact xce_le (Nat.le_add_right _ _) (hc k x hk)
  · rw [List.getElem?_append_right (by omega)] at hk
    have hz : k - h.length < 1 := (List.getElem?_eq_some_iff.mp hk).1
    rw [show k - h.length = 0 by omega] at hk
    cases hk
    exact he
theorem xz_set {h : xH} {a : Nat} {e e' : va_E} (he : h[a]? = some e) (hs : xs e' = xs e) : xz (h.set a e') = xz h := by
  have hl := (List.getElem?_eq_some_iff.mp he).1
  unfold xz
  rw [List.map_set, hs]
  congr 1
  apply List.ext_getElem?
  intro k
  rw [List.getElem?_set]
  split
  · next hk =>
    subst hk
    simp [hl]
    have := (List.getElem?_eq_some_iff.mp he).2
    rw [this]
  · rfl
theorem xz_push (h : xH) (e : va_E) : xz (h ++ [e]) = xz h + xs e := by simp [xz]
theorem xtake_set {h : xH} {a : Nat} {e : va_E} (ha : 3 ≤ a) : (h.set a e).take 3 = h.take 3 := List.take_set_of_le ha
theorem xtake_push {h : xH} {e : va_E} (h3 : 3 ≤ h.length) : (h ++ [e]).take 3 = h.take 3 := List.take_append_of_le_length h3
theorem xtake_at {h ro : xH} (ht : h.take 3 = ro) {i : Nat} (hi : i < 3) : h[i]? = ro[i]? := by rw [← ht, List.getElem?_take, if_pos hi]
