/-! the constructors -/
theorem xpR_at {h : xH} {a c k x : Nat} {fs : List Value} {cs : List Nat} (he : h[a]? = some (.inr (c, fs))) (hc : cs.elem c = true) (hk : k < fs.length) : xpR cs h a k x = some (h.set a (.inr (c, fs.set k (.ref x)))) := by
  unfold xpR
  rw [he]
  show (if cs.elem c = true ∧ k < fs.length then some (h.set a (.inr (c, fs.set k (.ref x)))) else none) = _
  rw [if_pos ⟨hc, hk⟩]
theorem xpI_at {h : xH} {a c k : Nat} {x : Int32} {fs : List Value} {cs : List Nat} (he : h[a]? = some (.inr (c, fs))) (hc : cs.elem c = true) (hk : k < fs.length) : xpI cs h a k x = some (h.set a (.inr (c, fs.set k (.int x)))) := by
  unfold xpI
  rw [he]
  show (if cs.elem c = true ∧ k < fs.length then some (h.set a (.inr (c, fs.set k (.int x)))) else none) = _
  rw [if_pos ⟨hc, hk⟩]
theorem xgR_at {h : xH} {a c k x : Nat} {fs : List Value} {cs : List Nat} (he : h[a]? = some (.inr (c, fs))) (hc : cs.elem c = true) (hf : fs[k]? = some (.ref x)) : xgR cs h a k = some x := by
  unfold xgR
  rw [he]
  show (if cs.elem c = true then (match fs[k]? with | some (.ref x) => some x | _ => none) else none) = _
  rw [if_pos hc, hf]
theorem xuQ_at {h : xH} {a n t k : Nat} {f : Nat → Option Nat} {q : Option Nat} (he : h[a]? = some (.inl (t, n, .inr (.inr (.inr (.inr f)))))) (hk : k < n) (hn : n < 2 ^ 31) : xuQ t h a (nI k) q = some (h.set a (.inl (t, n, .inr (.inr (.inr (.inr (va_up f k q))))))) := by
  unfold xuQ
  rw [he]
  show (if ¬ t = t ∨ nI k < 0 ∨ n ≤ (nI k).toNatClampNeg then none else some (h.set a (.inl (t, n, .inr (.inr (.inr (.inr (va_up f (nI k).toNatClampNeg q)))))))) = _
  rw [if_neg (by intro h; rcases h with h | h; exact h rfl; exact nI_in hk hn h), nI_clamp (by omega)]
theorem ap_get (h : xH) (e x : va_E) : ((h ++ [e]) ++ [x])[h.length]? = some e := by
  rw [List.append_assoc, List.getElem?_append_right (Nat.le_refl _), Nat.sub_self]
  rfl
theorem ap_set (h : xH) (e e' x : va_E) : ((h ++ [e]) ++ [x]).set h.length e' = h ++ [e', x] := by
  rw [List.append_assoc, List.set_append_right _ _ (Nat.le_refl _), Nat.sub_self]
  rfl
theorem ap_get2 (h : xH) (e x : va_E) : (h ++ [e, x])[h.length]? = some e := by
  rw [List.getElem?_append_right (Nat.le_refl _), Nat.sub_self]
  rfl
theorem ap_set2 (h : xH) (e e' x : va_E) : (h ++ [e, x]).set h.length e' = h ++ [e', x] := by
  rw [List.set_append_right _ _ (Nat.le_refl _), Nat.sub_self]
  rfl
theorem ap_xk (h : xH) (c : Nat) (fs : List Value) (x : va_E) : xk (h ++ [.inr (c, fs), x]) h.length = some c := by
  unfold xk
  rw [ap_get2]
theorem iX1 (h : xH) : f_X1_init h.length (h ++ [.inr (1, [.null, .int 0])]) = some (h ++ [.inr (1, [.ref (h.length + 1), .int 0]), xaI0 32]) := by
  unfold f_X1_init
  rw [xpR_at (ap_get h _ _) (by decide) (by decide), ob_s, ap_set, List.length_append]
  rfl
theorem iX5 (h : xH) : f_X5_init h.length (h ++ [.inr (5, [.null, .int 0, .int 0, .int 0])]) = some (h ++ [.inr (5, [.ref (h.length + 1), .int 1, .int 0, .int 0]), xaI0 40]) := by
  unfold f_X5_init
  rw [xpR_at (ap_get h _ _) (by decide) (by decide), ob_s, ap_set, xpI_at (ap_get2 h _ _) (by decide) (by rw [List.length_set]; decide), ob_s, ap_set2, List.length_append]
  rfl
theorem set_id {h : xH} {a : Nat} {e : va_E} (he : h[a]? = some e) : h.set a e = h := by
  obtain ⟨h1, h2⟩ := List.getElem?_eq_some_iff.mp he
  rw [← h2]
  exact List.set_getElem_self h1
/-- d vectors, d rows, at b -/
def vT : Nat → Nat → xH
  | _, 0 => []
  | b, d + 1 => .inr (1, [.ref (b + 1), .int 0]) :: xaI0 32 :: vT (b + 2) d
def rT : Nat → Nat → xH
  | _, 0 => []
  | b, d + 1 => .inr (5, [.ref (b + 1), .int 1, .int 0, .int 0]) :: xaI0 40 :: rT (b + 2) d
def fF : (Nat → Option Nat) → Nat → Nat → Nat → (Nat → Option Nat)
  | f, _, _, 0 => f
  | f, b, i, d + 1 => fF (va_up f i (some b)) (b + 2) (i + 1) d
theorem fF_at : ∀ (d : Nat) (f : Nat → Option Nat) (b i t : Nat), fF f b i d t = if i ≤ t ∧ t < i + d then some (b + 2 * (t - i)) else f t
  | 0, f, b, i, t => by
    show f t = _
    rw [if_neg (by omega)]
  | d + 1, f, b, i, t => by
    show fF (va_up f i (some b)) (b + 2) (i + 1) d t = _
    rw [fF_at d]
    by_cases e : i + 1 ≤ t ∧ t < i + 1 + d
    · rw [if_pos e, if_pos (by omega)]
      congr 1
      omega
    · rw [if_neg e]
      by_cases e2 : t = i
      · subst e2
        rw [va_up_self, if_pos (by omega), Nat.sub_self]
        rfl
      · rw [va_up_ne _ _ e2, if_neg (by omega)]
theorem fF_rw : fF (fun _ => none) 44 0 8 = rwF := by
  funext t
  rw [fF_at]
  unfold rwF
  by_cases h : t < 8
  · rw [if_pos (by omega), if_pos h, Nat.sub_zero]
  · rw [if_neg (by omega), if_neg h]
theorem fF_vc : fF (fun _ => none) 60 0 4 = vcF := by
  funext t
  rw [fF_at]
  unfold vcF
  by_cases h : t < 4
  · rw [if_pos (by omega), if_pos h, Nat.sub_zero]
  · rw [if_neg (by omega), if_neg h]
theorem fF_im : fF (fun _ => none) 68 0 8 = imF := by
  funext t
  rw [fF_at]
  unfold imF
  by_cases h : t < 8
  · rw [if_pos (by omega), if_pos h, Nat.sub_zero]
  · rw [if_neg (by omega), if_neg h]
theorem fF_bf : fF (fun _ => none) 13 0 12 = bfF := by
  funext t
  rw [fF_at]
  unfold bfF
  by_cases h : t < 12
  · rw [if_pos (by omega), if_pos h, Nat.sub_zero]
  · rw [if_neg (by omega), if_neg h]
theorem lo_23 : ∀ n i d (h : xH) (f : Nat → Option Nat) (fs : List Value), i + d = 12 → d < n → h[10]? = some (.inr (3, fs)) → fs[0]? = some (.ref 11) → h[11]? = some (.inl (3, 12, .inr (.inr (.inr (.inr f))))) → f_X3_init_L23 n 10 (nI i) h = some (nI 12, h.set 11 (.inl (3, 12, .inr (.inr (.inr (.inr (fF f h.length i d)))))) ++ vT h.length d) := by
  intro n
  induction n with
  | zero => intro i d h f fs h1 h2; omega
  | succ n ih =>
    intro i d h f fs h1 h2 h3 h4 h5
    unfold f_X3_init_L23
    cases d with
    | zero =>
      have : i = 12 := by omega
      subst this
      rw [if_pos (by decide)]
      show _ = some (nI 12, h.set 11 (.inl (3, 12, .inr (.inr (.inr (.inr f))))) ++ [])
      rw [set_id h5, List.append_nil]
    | succ d =>
      have hl : 11 < h.length := (List.getElem?_eq_some_iff.mp h5).1
      have hl3 : 10 < h.length := (List.getElem?_eq_some_iff.mp h3).1
      rw [if_neg (show ¬ (12 : Int32) ≤ nI i by rw [l_12, q_le (by omega) (by omega)]; omega), xgR_at h3 (by decide) h4, ob_s, iX1, ob_s, ap_xk, if_pos rfl, xuQ_at (f := f) (by rw [List.getElem?_append_left hl]; exact h5) (show i < 12 by omega) (by decide), ob_s, l_1, q_add, List.set_append_left _ _ hl, ih (i + 1) d _ (va_up f i (some h.length)) fs (by omega) (by omega) (by rw [List.getElem?_append_left (by rw [List.length_set]; exact hl3), List.getElem?_set_ne (by decide)]; exact h3) h4 (by rw [List.getElem?_append_left (by rw [List.length_set]; exact hl), List.getElem?_set_self hl]), List.set_append_left _ _ (by rw [List.length_set]; exact hl), List.set_set, List.length_append, List.length_set, List.append_assoc]
      rfl
theorem lo_92 : ∀ n i d (h : xH) (f : Nat → Option Nat) (fs : List Value), i + d = 8 → d < n → h[3]? = some (.inr (10, fs)) → fs[0]? = some (.ref 4) → h[4]? = some (.inl (2, 8, .inr (.inr (.inr (.inr f))))) → f_X11_init_L92 n 3 (nI i) h = some (nI 8, h.set 4 (.inl (2, 8, .inr (.inr (.inr (.inr (fF f h.length i d)))))) ++ rT h.length d) := by
  intro n
  induction n with
  | zero => intro i d h f fs h1 h2; omega
  | succ n ih =>
    intro i d h f fs h1 h2 h3 h4 h5
    unfold f_X11_init_L92
    cases d with
    | zero =>
      have : i = 8 := by omega
      subst this
      rw [if_pos (by decide)]
      show _ = some (nI 8, h.set 4 (.inl (2, 8, .inr (.inr (.inr (.inr f))))) ++ [])
      rw [set_id h5, List.append_nil]
    | succ d =>
      have hl : 4 < h.length := (List.getElem?_eq_some_iff.mp h5).1
      have hl3 : 3 < h.length := (List.getElem?_eq_some_iff.mp h3).1
      rw [if_neg (show ¬ (8 : Int32) ≤ nI i by rw [l_8, q_le (by omega) (by omega)]; omega), xgR_at h3 (by decide) h4, ob_s, iX5, ob_s, ap_xk, if_pos rfl, xuQ_at (f := f) (by rw [List.getElem?_append_left hl]; exact h5) (show i < 8 by omega) (by decide), ob_s, l_1, q_add, List.set_append_left _ _ hl, ih (i + 1) d _ (va_up f i (some h.length)) fs (by omega) (by omega) (by rw [List.getElem?_append_left (by rw [List.length_set]; exact hl3), List.getElem?_set_ne (by decide)]; exact h3) h4 (by rw [List.getElem?_append_left (by rw [List.length_set]; exact hl), List.getElem?_set_self hl]), List.set_append_left _ _ (by rw [List.length_set]; exact hl), List.set_set, List.length_append, List.length_set, List.append_assoc]
      rfl
theorem lo_119 : ∀ n i d (h : xH) (f : Nat → Option Nat) (fs : List Value), i + d = 4 → d < n → h[3]? = some (.inr (10, fs)) → fs[1]? = some (.ref 5) → h[5]? = some (.inl (3, 4, .inr (.inr (.inr (.inr f))))) → f_X11_init_L119 n 3 (nI i) h = some (nI 4, h.set 5 (.inl (3, 4, .inr (.inr (.inr (.inr (fF f h.length i d)))))) ++ vT h.length d) := by
  intro n
  induction n with
  | zero => intro i d h f fs h1 h2; omega
  | succ n ih =>
    intro i d h f fs h1 h2 h3 h4 h5
    unfold f_X11_init_L119
    cases d with
    | zero =>
      have : i = 4 := by omega
      subst this
      rw [if_pos (by decide)]
      show _ = some (nI 4, h.set 5 (.inl (3, 4, .inr (.inr (.inr (.inr f))))) ++ [])
      rw [set_id h5, List.append_nil]
    | succ d =>
      have hl : 5 < h.length := (List.getElem?_eq_some_iff.mp h5).1
      have hl3 : 3 < h.length := (List.getElem?_eq_some_iff.mp h3).1
      rw [if_neg (show ¬ (4 : Int32) ≤ nI i by rw [l_4, q_le (by omega) (by omega)]; omega), xgR_at h3 (by decide) h4, ob_s, iX1, ob_s, ap_xk, if_pos rfl, xuQ_at (f := f) (by rw [List.getElem?_append_left hl]; exact h5) (show i < 4 by omega) (by decide), ob_s, l_1, q_add, List.set_append_left _ _ hl, ih (i + 1) d _ (va_up f i (some h.length)) fs (by omega) (by omega) (by rw [List.getElem?_append_left (by rw [List.length_set]; exact hl3), List.getElem?_set_ne (by decide)]; exact h3) h4 (by rw [List.getElem?_append_left (by rw [List.length_set]; exact hl), List.getElem?_set_self hl]), List.set_append_left _ _ (by rw [List.length_set]; exact hl), List.set_set, List.length_append, List.length_set, List.append_assoc]
      rfl
theorem lo_145 : ∀ n i d (h : xH) (f : Nat → Option Nat) (fs : List Value), i + d = 8 → d < n → h[3]? = some (.inr (10, fs)) → fs[2]? = some (.ref 6) → h[6]? = some (.inl (3, 8, .inr (.inr (.inr (.inr f))))) → f_X11_init_L145 n 3 (nI i) h = some (nI 8, h.set 6 (.inl (3, 8, .inr (.inr (.inr (.inr (fF f h.length i d)))))) ++ vT h.length d) := by
  intro n
  induction n with
  | zero => intro i d h f fs h1 h2; omega
  | succ n ih =>
    intro i d h f fs h1 h2 h3 h4 h5
    unfold f_X11_init_L145
    cases d with
    | zero =>
      have : i = 8 := by omega
      subst this
      rw [if_pos (by decide)]
      show _ = some (nI 8, h.set 6 (.inl (3, 8, .inr (.inr (.inr (.inr f))))) ++ [])
      rw [set_id h5, List.append_nil]
    | succ d =>
      have hl : 6 < h.length := (List.getElem?_eq_some_iff.mp h5).1
      have hl3 : 3 < h.length := (List.getElem?_eq_some_iff.mp h3).1
      rw [if_neg (show ¬ (8 : Int32) ≤ nI i by rw [l_8, q_le (by omega) (by omega)]; omega), xgR_at h3 (by decide) h4, ob_s, iX1, ob_s, ap_xk, if_pos rfl, xuQ_at (f := f) (by rw [List.getElem?_append_left hl]; exact h5) (show i < 8 by omega) (by decide), ob_s, l_1, q_add, List.set_append_left _ _ hl, ih (i + 1) d _ (va_up f i (some h.length)) fs (by omega) (by omega) (by rw [List.getElem?_append_left (by rw [List.length_set]; exact hl3), List.getElem?_set_ne (by decide)]; exact h3) h4 (by rw [List.getElem?_append_left (by rw [List.length_set]; exact hl), List.getElem?_set_self hl]), List.set_append_left _ _ (by rw [List.length_set]; exact hl), List.set_set, List.length_append, List.length_set, List.append_assoc]
      rfl
def hA0 (L : Nat) (ys : Nat → Int32) : xH := [.inl (0, 256, .inl CHf), .inl (0, 16, .inl WDf), .inl (0, L, .inl ys), .inr (10, [.null, .null, .null, .null, .null, .null, .null, .null, .null, .int 0, .int 0, .int 0])]
def hA1 (L : Nat) (ys : Nat → Int32) : xH := [.inl (0, 256, .inl CHf), .inl (0, 16, .inl WDf), .inl (0, L, .inl ys), .inr (10, [.ref 4, .null, .null, .null, .null, .null, .null, .null, .null, .int 0, .int 0, .int 0]), .inl (2, 8, .inr (.inr (.inr (.inr (fun _ => none)))))]
def hA2 (L : Nat) (ys : Nat → Int32) : xH := [.inl (0, 256, .inl CHf), .inl (0, 16, .inl WDf), .inl (0, L, .inl ys), .inr (10, [.ref 4, .ref 5, .null, .null, .null, .null, .null, .null, .null, .int 0, .int 0, .int 0]), .inl (2, 8, .inr (.inr (.inr (.inr (fun _ => none))))), .inl (3, 4, .inr (.inr (.inr (.inr (fun _ => none)))))]
def hA3 (L : Nat) (ys : Nat → Int32) : xH := [.inl (0, 256, .inl CHf), .inl (0, 16, .inl WDf), .inl (0, L, .inl ys), .inr (10, [.ref 4, .ref 5, .ref 6, .null, .null, .null, .null, .null, .null, .int 0, .int 0, .int 0]), .inl (2, 8, .inr (.inr (.inr (.inr (fun _ => none))))), .inl (3, 4, .inr (.inr (.inr (.inr (fun _ => none))))), .inl (3, 8, .inr (.inr (.inr (.inr (fun _ => none)))))]
def hA4 (L : Nat) (ys : Nat → Int32) : xH := [.inl (0, 256, .inl CHf), .inl (0, 16, .inl WDf), .inl (0, L, .inl ys), .inr (10, [.ref 4, .ref 5, .ref 6, .ref 7, .null, .null, .null, .null, .null, .int 0, .int 0, .int 0]), .inl (2, 8, .inr (.inr (.inr (.inr (fun _ => none))))), .inl (3, 4, .inr (.inr (.inr (.inr (fun _ => none))))), .inl (3, 8, .inr (.inr (.inr (.inr (fun _ => none))))), .inl (1, 2, .inl (fun _ => 0))]
def hA5 (L : Nat) (ys : Nat → Int32) : xH := [.inl (0, 256, .inl CHf), .inl (0, 16, .inl WDf), .inl (0, L, .inl ys), .inr (10, [.ref 4, .ref 5, .ref 6, .ref 7, .null, .null, .null, .null, .null, .int 0, .int 0, .int 0]), .inl (2, 8, .inr (.inr (.inr (.inr (fun _ => none))))), .inl (3, 4, .inr (.inr (.inr (.inr (fun _ => none))))), .inl (3, 8, .inr (.inr (.inr (.inr (fun _ => none))))), .inl (1, 2, .inl (fun _ => 0)), .inr (1, [.ref 9, .int 0]), .inl (0, 32, .inl (fun _ => 0))]
def hA6 (L : Nat) (ys : Nat → Int32) : xH := [.inl (0, 256, .inl CHf), .inl (0, 16, .inl WDf), .inl (0, L, .inl ys), .inr (10, [.ref 4, .ref 5, .ref 6, .ref 7, .ref 8, .null, .null, .null, .null, .int 0, .int 0, .int 0]), .inl (2, 8, .inr (.inr (.inr (.inr (fun _ => none))))), .inl (3, 4, .inr (.inr (.inr (.inr (fun _ => none))))), .inl (3, 8, .inr (.inr (.inr (.inr (fun _ => none))))), .inl (1, 2, .inl (fun _ => 0)), .inr (1, [.ref 9, .int 0]), .inl (0, 32, .inl (fun _ => 0))]
def hA7 (L : Nat) (ys : Nat → Int32) : xH := [.inl (0, 256, .inl CHf), .inl (0, 16, .inl WDf), .inl (0, L, .inl ys), .inr (10, [.ref 4, .ref 5, .ref 6, .ref 7, .ref 8, .null, .null, .null, .null, .int 0, .int 0, .int 0]), .inl (2, 8, .inr (.inr (.inr (.inr (fun _ => none))))), .inl (3, 4, .inr (.inr (.inr (.inr (fun _ => none))))), .inl (3, 8, .inr (.inr (.inr (.inr (fun _ => none))))), .inl (1, 2, .inl (fun _ => 0)), .inr (1, [.ref 9, .int 0]), .inl (0, 32, .inl (fun _ => 0)), .inr (3, [.ref 11, .ref 12, .int 0, .int 0]), .inl (3, 12, .inr (.inr (.inr (.inr bfF)))), .inl (0, 12, .inl (fun _ => 0)), .inr (1, [.ref 14, .int 0]), .inl (0, 32, .inl (fun _ => 0)), .inr (1, [.ref 16, .int 0]), .inl (0, 32, .inl (fun _ => 0)), .inr (1, [.ref 18, .int 0]), .inl (0, 32, .inl (fun _ => 0)), .inr (1, [.ref 20, .int 0]), .inl (0, 32, .inl (fun _ => 0)), .inr (1, [.ref 22, .int 0]), .inl (0, 32, .inl (fun _ => 0)), .inr (1, [.ref 24, .int 0]), .inl (0, 32, .inl (fun _ => 0)), .inr (1, [.ref 26, .int 0]), .inl (0, 32, .inl (fun _ => 0)), .inr (1, [.ref 28, .int 0]), .inl (0, 32, .inl (fun _ => 0)), .inr (1, [.ref 30, .int 0]), .inl (0, 32, .inl (fun _ => 0)), .inr (1, [.ref 32, .int 0]), .inl (0, 32, .inl (fun _ => 0)), .inr (1, [.ref 34, .int 0]), .inl (0, 32, .inl (fun _ => 0)), .inr (1, [.ref 36, .int 0]), .inl (0, 32, .inl (fun _ => 0))]
def hA8 (L : Nat) (ys : Nat → Int32) : xH := [.inl (0, 256, .inl CHf), .inl (0, 16, .inl WDf), .inl (0, L, .inl ys), .inr (10, [.ref 4, .ref 5, .ref 6, .ref 7, .ref 8, .ref 10, .null, .null, .null, .int 0, .int 0, .int 0]), .inl (2, 8, .inr (.inr (.inr (.inr (fun _ => none))))), .inl (3, 4, .inr (.inr (.inr (.inr (fun _ => none))))), .inl (3, 8, .inr (.inr (.inr (.inr (fun _ => none))))), .inl (1, 2, .inl (fun _ => 0)), .inr (1, [.ref 9, .int 0]), .inl (0, 32, .inl (fun _ => 0)), .inr (3, [.ref 11, .ref 12, .int 0, .int 0]), .inl (3, 12, .inr (.inr (.inr (.inr bfF)))), .inl (0, 12, .inl (fun _ => 0)), .inr (1, [.ref 14, .int 0]), .inl (0, 32, .inl (fun _ => 0)), .inr (1, [.ref 16, .int 0]), .inl (0, 32, .inl (fun _ => 0)), .inr (1, [.ref 18, .int 0]), .inl (0, 32, .inl (fun _ => 0)), .inr (1, [.ref 20, .int 0]), .inl (0, 32, .inl (fun _ => 0)), .inr (1, [.ref 22, .int 0]), .inl (0, 32, .inl (fun _ => 0)), .inr (1, [.ref 24, .int 0]), .inl (0, 32, .inl (fun _ => 0)), .inr (1, [.ref 26, .int 0]), .inl (0, 32, .inl (fun _ => 0)), .inr (1, [.ref 28, .int 0]), .inl (0, 32, .inl (fun _ => 0)), .inr (1, [.ref 30, .int 0]), .inl (0, 32, .inl (fun _ => 0)), .inr (1, [.ref 32, .int 0]), .inl (0, 32, .inl (fun _ => 0)), .inr (1, [.ref 34, .int 0]), .inl (0, 32, .inl (fun _ => 0)), .inr (1, [.ref 36, .int 0]), .inl (0, 32, .inl (fun _ => 0))]
def hA9 (L : Nat) (ys : Nat → Int32) : xH := [.inl (0, 256, .inl CHf), .inl (0, 16, .inl WDf), .inl (0, L, .inl ys), .inr (10, [.ref 4, .ref 5, .ref 6, .ref 7, .ref 8, .ref 10, .null, .null, .null, .int 0, .int 0, .int 0]), .inl (2, 8, .inr (.inr (.inr (.inr (fun _ => none))))), .inl (3, 4, .inr (.inr (.inr (.inr (fun _ => none))))), .inl (3, 8, .inr (.inr (.inr (.inr (fun _ => none))))), .inl (1, 2, .inl (fun _ => 0)), .inr (1, [.ref 9, .int 0]), .inl (0, 32, .inl (fun _ => 0)), .inr (3, [.ref 11, .ref 12, .int 0, .int 0]), .inl (3, 12, .inr (.inr (.inr (.inr bfF)))), .inl (0, 12, .inl (fun _ => 0)), .inr (1, [.ref 14, .int 0]), .inl (0, 32, .inl (fun _ => 0)), .inr (1, [.ref 16, .int 0]), .inl (0, 32, .inl (fun _ => 0)), .inr (1, [.ref 18, .int 0]), .inl (0, 32, .inl (fun _ => 0)), .inr (1, [.ref 20, .int 0]), .inl (0, 32, .inl (fun _ => 0)), .inr (1, [.ref 22, .int 0]), .inl (0, 32, .inl (fun _ => 0)), .inr (1, [.ref 24, .int 0]), .inl (0, 32, .inl (fun _ => 0)), .inr (1, [.ref 26, .int 0]), .inl (0, 32, .inl (fun _ => 0)), .inr (1, [.ref 28, .int 0]), .inl (0, 32, .inl (fun _ => 0)), .inr (1, [.ref 30, .int 0]), .inl (0, 32, .inl (fun _ => 0)), .inr (1, [.ref 32, .int 0]), .inl (0, 32, .inl (fun _ => 0)), .inr (1, [.ref 34, .int 0]), .inl (0, 32, .inl (fun _ => 0)), .inr (1, [.ref 36, .int 0]), .inl (0, 32, .inl (fun _ => 0)), .inr (6, [.ref 38, .ref 39, .ref 40, .int 0, .int 0, .int 0, .int 0, .int 0, .int 0]), .inl (0, 60, .inl (fun _ => 0)), .inl (0, 12, .inl (fun _ => 0)), .inl (0, 12, .inl (fun _ => 0))]
def hA10 (L : Nat) (ys : Nat → Int32) : xH := [.inl (0, 256, .inl CHf), .inl (0, 16, .inl WDf), .inl (0, L, .inl ys), .inr (10, [.ref 4, .ref 5, .ref 6, .ref 7, .ref 8, .ref 10, .ref 37, .null, .null, .int 0, .int 0, .int 0]), .inl (2, 8, .inr (.inr (.inr (.inr (fun _ => none))))), .inl (3, 4, .inr (.inr (.inr (.inr (fun _ => none))))), .inl (3, 8, .inr (.inr (.inr (.inr (fun _ => none))))), .inl (1, 2, .inl (fun _ => 0)), .inr (1, [.ref 9, .int 0]), .inl (0, 32, .inl (fun _ => 0)), .inr (3, [.ref 11, .ref 12, .int 0, .int 0]), .inl (3, 12, .inr (.inr (.inr (.inr bfF)))), .inl (0, 12, .inl (fun _ => 0)), .inr (1, [.ref 14, .int 0]), .inl (0, 32, .inl (fun _ => 0)), .inr (1, [.ref 16, .int 0]), .inl (0, 32, .inl (fun _ => 0)), .inr (1, [.ref 18, .int 0]), .inl (0, 32, .inl (fun _ => 0)), .inr (1, [.ref 20, .int 0]), .inl (0, 32, .inl (fun _ => 0)), .inr (1, [.ref 22, .int 0]), .inl (0, 32, .inl (fun _ => 0)), .inr (1, [.ref 24, .int 0]), .inl (0, 32, .inl (fun _ => 0)), .inr (1, [.ref 26, .int 0]), .inl (0, 32, .inl (fun _ => 0)), .inr (1, [.ref 28, .int 0]), .inl (0, 32, .inl (fun _ => 0)), .inr (1, [.ref 30, .int 0]), .inl (0, 32, .inl (fun _ => 0)), .inr (1, [.ref 32, .int 0]), .inl (0, 32, .inl (fun _ => 0)), .inr (1, [.ref 34, .int 0]), .inl (0, 32, .inl (fun _ => 0)), .inr (1, [.ref 36, .int 0]), .inl (0, 32, .inl (fun _ => 0)), .inr (6, [.ref 38, .ref 39, .ref 40, .int 0, .int 0, .int 0, .int 0, .int 0, .int 0]), .inl (0, 60, .inl (fun _ => 0)), .inl (0, 12, .inl (fun _ => 0)), .inl (0, 12, .inl (fun _ => 0))]
def hA11 (L : Nat) (ys : Nat → Int32) : xH := [.inl (0, 256, .inl CHf), .inl (0, 16, .inl WDf), .inl (0, L, .inl ys), .inr (10, [.ref 4, .ref 5, .ref 6, .ref 7, .ref 8, .ref 10, .ref 37, .ref 41, .null, .int 0, .int 0, .int 0]), .inl (2, 8, .inr (.inr (.inr (.inr (fun _ => none))))), .inl (3, 4, .inr (.inr (.inr (.inr (fun _ => none))))), .inl (3, 8, .inr (.inr (.inr (.inr (fun _ => none))))), .inl (1, 2, .inl (fun _ => 0)), .inr (1, [.ref 9, .int 0]), .inl (0, 32, .inl (fun _ => 0)), .inr (3, [.ref 11, .ref 12, .int 0, .int 0]), .inl (3, 12, .inr (.inr (.inr (.inr bfF)))), .inl (0, 12, .inl (fun _ => 0)), .inr (1, [.ref 14, .int 0]), .inl (0, 32, .inl (fun _ => 0)), .inr (1, [.ref 16, .int 0]), .inl (0, 32, .inl (fun _ => 0)), .inr (1, [.ref 18, .int 0]), .inl (0, 32, .inl (fun _ => 0)), .inr (1, [.ref 20, .int 0]), .inl (0, 32, .inl (fun _ => 0)), .inr (1, [.ref 22, .int 0]), .inl (0, 32, .inl (fun _ => 0)), .inr (1, [.ref 24, .int 0]), .inl (0, 32, .inl (fun _ => 0)), .inr (1, [.ref 26, .int 0]), .inl (0, 32, .inl (fun _ => 0)), .inr (1, [.ref 28, .int 0]), .inl (0, 32, .inl (fun _ => 0)), .inr (1, [.ref 30, .int 0]), .inl (0, 32, .inl (fun _ => 0)), .inr (1, [.ref 32, .int 0]), .inl (0, 32, .inl (fun _ => 0)), .inr (1, [.ref 34, .int 0]), .inl (0, 32, .inl (fun _ => 0)), .inr (1, [.ref 36, .int 0]), .inl (0, 32, .inl (fun _ => 0)), .inr (6, [.ref 38, .ref 39, .ref 40, .int 0, .int 0, .int 0, .int 0, .int 0, .int 0]), .inl (0, 60, .inl (fun _ => 0)), .inl (0, 12, .inl (fun _ => 0)), .inl (0, 12, .inl (fun _ => 0)), .inl (4, 12, .inr (.inr (.inr (.inr (fun _ => none)))))]
def hA12 (L : Nat) (ys : Nat → Int32) : xH := [.inl (0, 256, .inl CHf), .inl (0, 16, .inl WDf), .inl (0, L, .inl ys), .inr (10, [.ref 4, .ref 5, .ref 6, .ref 7, .ref 8, .ref 10, .ref 37, .ref 41, .null, .int 0, .int 0, .int 0]), .inl (2, 8, .inr (.inr (.inr (.inr (fun _ => none))))), .inl (3, 4, .inr (.inr (.inr (.inr (fun _ => none))))), .inl (3, 8, .inr (.inr (.inr (.inr (fun _ => none))))), .inl (1, 2, .inl (fun _ => 0)), .inr (1, [.ref 9, .int 0]), .inl (0, 32, .inl (fun _ => 0)), .inr (3, [.ref 11, .ref 12, .int 0, .int 0]), .inl (3, 12, .inr (.inr (.inr (.inr bfF)))), .inl (0, 12, .inl (fun _ => 0)), .inr (1, [.ref 14, .int 0]), .inl (0, 32, .inl (fun _ => 0)), .inr (1, [.ref 16, .int 0]), .inl (0, 32, .inl (fun _ => 0)), .inr (1, [.ref 18, .int 0]), .inl (0, 32, .inl (fun _ => 0)), .inr (1, [.ref 20, .int 0]), .inl (0, 32, .inl (fun _ => 0)), .inr (1, [.ref 22, .int 0]), .inl (0, 32, .inl (fun _ => 0)), .inr (1, [.ref 24, .int 0]), .inl (0, 32, .inl (fun _ => 0)), .inr (1, [.ref 26, .int 0]), .inl (0, 32, .inl (fun _ => 0)), .inr (1, [.ref 28, .int 0]), .inl (0, 32, .inl (fun _ => 0)), .inr (1, [.ref 30, .int 0]), .inl (0, 32, .inl (fun _ => 0)), .inr (1, [.ref 32, .int 0]), .inl (0, 32, .inl (fun _ => 0)), .inr (1, [.ref 34, .int 0]), .inl (0, 32, .inl (fun _ => 0)), .inr (1, [.ref 36, .int 0]), .inl (0, 32, .inl (fun _ => 0)), .inr (6, [.ref 38, .ref 39, .ref 40, .int 0, .int 0, .int 0, .int 0, .int 0, .int 0]), .inl (0, 60, .inl (fun _ => 0)), .inl (0, 12, .inl (fun _ => 0)), .inl (0, 12, .inl (fun _ => 0)), .inl (4, 12, .inr (.inr (.inr (.inr (fun _ => none))))), .inr (8, [.ref 43, .int 0]), .inl (0, 16, .inl (fun _ => 0))]
def hA13 (L : Nat) (ys : Nat → Int32) : xH := [.inl (0, 256, .inl CHf), .inl (0, 16, .inl WDf), .inl (0, L, .inl ys), .inr (10, [.ref 4, .ref 5, .ref 6, .ref 7, .ref 8, .ref 10, .ref 37, .ref 41, .ref 42, .int 0, .int 0, .int 0]), .inl (2, 8, .inr (.inr (.inr (.inr (fun _ => none))))), .inl (3, 4, .inr (.inr (.inr (.inr (fun _ => none))))), .inl (3, 8, .inr (.inr (.inr (.inr (fun _ => none))))), .inl (1, 2, .inl (fun _ => 0)), .inr (1, [.ref 9, .int 0]), .inl (0, 32, .inl (fun _ => 0)), .inr (3, [.ref 11, .ref 12, .int 0, .int 0]), .inl (3, 12, .inr (.inr (.inr (.inr bfF)))), .inl (0, 12, .inl (fun _ => 0)), .inr (1, [.ref 14, .int 0]), .inl (0, 32, .inl (fun _ => 0)), .inr (1, [.ref 16, .int 0]), .inl (0, 32, .inl (fun _ => 0)), .inr (1, [.ref 18, .int 0]), .inl (0, 32, .inl (fun _ => 0)), .inr (1, [.ref 20, .int 0]), .inl (0, 32, .inl (fun _ => 0)), .inr (1, [.ref 22, .int 0]), .inl (0, 32, .inl (fun _ => 0)), .inr (1, [.ref 24, .int 0]), .inl (0, 32, .inl (fun _ => 0)), .inr (1, [.ref 26, .int 0]), .inl (0, 32, .inl (fun _ => 0)), .inr (1, [.ref 28, .int 0]), .inl (0, 32, .inl (fun _ => 0)), .inr (1, [.ref 30, .int 0]), .inl (0, 32, .inl (fun _ => 0)), .inr (1, [.ref 32, .int 0]), .inl (0, 32, .inl (fun _ => 0)), .inr (1, [.ref 34, .int 0]), .inl (0, 32, .inl (fun _ => 0)), .inr (1, [.ref 36, .int 0]), .inl (0, 32, .inl (fun _ => 0)), .inr (6, [.ref 38, .ref 39, .ref 40, .int 0, .int 0, .int 0, .int 0, .int 0, .int 0]), .inl (0, 60, .inl (fun _ => 0)), .inl (0, 12, .inl (fun _ => 0)), .inl (0, 12, .inl (fun _ => 0)), .inl (4, 12, .inr (.inr (.inr (.inr (fun _ => none))))), .inr (8, [.ref 43, .int 0]), .inl (0, 16, .inl (fun _ => 0))]
def hX0 (L : Nat) (ys : Nat → Int32) : xH := [.inl (0, 256, .inl CHf), .inl (0, 16, .inl WDf), .inl (0, L, .inl ys), .inr (10, [.ref 4, .ref 5, .ref 6, .ref 7, .ref 8, .null, .null, .null, .null, .int 0, .int 0, .int 0]), .inl (2, 8, .inr (.inr (.inr (.inr (fun _ => none))))), .inl (3, 4, .inr (.inr (.inr (.inr (fun _ => none))))), .inl (3, 8, .inr (.inr (.inr (.inr (fun _ => none))))), .inl (1, 2, .inl (fun _ => 0)), .inr (1, [.ref 9, .int 0]), .inl (0, 32, .inl (fun _ => 0)), .inr (3, [.null, .null, .int 0, .int 0])]
def hX1 (L : Nat) (ys : Nat → Int32) : xH := [.inl (0, 256, .inl CHf), .inl (0, 16, .inl WDf), .inl (0, L, .inl ys), .inr (10, [.ref 4, .ref 5, .ref 6, .ref 7, .ref 8, .null, .null, .null, .null, .int 0, .int 0, .int 0]), .inl (2, 8, .inr (.inr (.inr (.inr (fun _ => none))))), .inl (3, 4, .inr (.inr (.inr (.inr (fun _ => none))))), .inl (3, 8, .inr (.inr (.inr (.inr (fun _ => none))))), .inl (1, 2, .inl (fun _ => 0)), .inr (1, [.ref 9, .int 0]), .inl (0, 32, .inl (fun _ => 0)), .inr (3, [.ref 11, .null, .int 0, .int 0]), .inl (3, 12, .inr (.inr (.inr (.inr (fun _ => none)))))]
def hX2 (L : Nat) (ys : Nat → Int32) : xH := [.inl (0, 256, .inl CHf), .inl (0, 16, .inl WDf), .inl (0, L, .inl ys), .inr (10, [.ref 4, .ref 5, .ref 6, .ref 7, .ref 8, .null, .null, .null, .null, .int 0, .int 0, .int 0]), .inl (2, 8, .inr (.inr (.inr (.inr (fun _ => none))))), .inl (3, 4, .inr (.inr (.inr (.inr (fun _ => none))))), .inl (3, 8, .inr (.inr (.inr (.inr (fun _ => none))))), .inl (1, 2, .inl (fun _ => 0)), .inr (1, [.ref 9, .int 0]), .inl (0, 32, .inl (fun _ => 0)), .inr (3, [.ref 11, .ref 12, .int 0, .int 0]), .inl (3, 12, .inr (.inr (.inr (.inr (fun _ => none))))), .inl (0, 12, .inl (fun _ => 0))]
def H11 (L : Nat) (ys : Nat → Int32) : xH := [.inl (0, 256, .inl CHf),
  .inl (0, 16, .inl WDf),
  .inl (0, L, .inl ys),
  .inr (10, [.ref 4, .ref 5, .ref 6, .ref 7, .ref 8, .ref 10, .ref 37, .ref 41, .ref 42, .int 0, .int 0, .int 0]),
  .inl (2, 8, .inr (.inr (.inr (.inr rwF)))),
  .inl (3, 4, .inr (.inr (.inr (.inr vcF)))),
  .inl (3, 8, .inr (.inr (.inr (.inr imF)))),
  .inl (1, 2, .inl (fun _ => 0)),
  .inr (1, [.ref 9, .int 0]),
  .inl (0, 32, .inl (fun _ => 0)),
  .inr (3, [.ref 11, .ref 12, .int 0, .int 0]),
  .inl (3, 12, .inr (.inr (.inr (.inr bfF)))),
  .inl (0, 12, .inl (fun _ => 0)),
  .inr (1, [.ref 14, .int 0]),
  .inl (0, 32, .inl (fun _ => 0)),
  .inr (1, [.ref 16, .int 0]),
  .inl (0, 32, .inl (fun _ => 0)),
  .inr (1, [.ref 18, .int 0]),
  .inl (0, 32, .inl (fun _ => 0)),
  .inr (1, [.ref 20, .int 0]),
  .inl (0, 32, .inl (fun _ => 0)),
  .inr (1, [.ref 22, .int 0]),
  .inl (0, 32, .inl (fun _ => 0)),
  .inr (1, [.ref 24, .int 0]),
  .inl (0, 32, .inl (fun _ => 0)),
  .inr (1, [.ref 26, .int 0]),
  .inl (0, 32, .inl (fun _ => 0)),
  .inr (1, [.ref 28, .int 0]),
  .inl (0, 32, .inl (fun _ => 0)),
  .inr (1, [.ref 30, .int 0]),
  .inl (0, 32, .inl (fun _ => 0)),
  .inr (1, [.ref 32, .int 0]),
  .inl (0, 32, .inl (fun _ => 0)),
  .inr (1, [.ref 34, .int 0]),
  .inl (0, 32, .inl (fun _ => 0)),
  .inr (1, [.ref 36, .int 0]),
  .inl (0, 32, .inl (fun _ => 0)),
  .inr (6, [.ref 38, .ref 39, .ref 40, .int 0, .int 0, .int 0, .int 0, .int 0, .int 0]),
  .inl (0, 60, .inl (fun _ => 0)),
  .inl (0, 12, .inl (fun _ => 0)),
  .inl (0, 12, .inl (fun _ => 0)),
  .inl (4, 12, .inr (.inr (.inr (.inr (fun _ => none))))),
  .inr (8, [.ref 43, .int 0]),
  .inl (0, 16, .inl (fun _ => 0)),
  .inr (5, [.ref 45, .int 1, .int 0, .int 0]),
  .inl (0, 40, .inl (fun _ => 0)),
  .inr (5, [.ref 47, .int 1, .int 0, .int 0]),
  .inl (0, 40, .inl (fun _ => 0)),
  .inr (5, [.ref 49, .int 1, .int 0, .int 0]),
  .inl (0, 40, .inl (fun _ => 0)),
  .inr (5, [.ref 51, .int 1, .int 0, .int 0]),
  .inl (0, 40, .inl (fun _ => 0)),
  .inr (5, [.ref 53, .int 1, .int 0, .int 0]),
  .inl (0, 40, .inl (fun _ => 0)),
  .inr (5, [.ref 55, .int 1, .int 0, .int 0]),
  .inl (0, 40, .inl (fun _ => 0)),
  .inr (5, [.ref 57, .int 1, .int 0, .int 0]),
  .inl (0, 40, .inl (fun _ => 0)),
  .inr (5, [.ref 59, .int 1, .int 0, .int 0]),
  .inl (0, 40, .inl (fun _ => 0)),
  .inr (1, [.ref 61, .int 0]),
  .inl (0, 32, .inl (fun _ => 0)),
  .inr (1, [.ref 63, .int 0]),
  .inl (0, 32, .inl (fun _ => 0)),
  .inr (1, [.ref 65, .int 0]),
  .inl (0, 32, .inl (fun _ => 0)),
  .inr (1, [.ref 67, .int 0]),
  .inl (0, 32, .inl (fun _ => 0)),
  .inr (1, [.ref 69, .int 0]),
  .inl (0, 32, .inl (fun _ => 0)),
  .inr (1, [.ref 71, .int 0]),
  .inl (0, 32, .inl (fun _ => 0)),
  .inr (1, [.ref 73, .int 0]),
  .inl (0, 32, .inl (fun _ => 0)),
  .inr (1, [.ref 75, .int 0]),
  .inl (0, 32, .inl (fun _ => 0)),
  .inr (1, [.ref 77, .int 0]),
  .inl (0, 32, .inl (fun _ => 0)),
  .inr (1, [.ref 79, .int 0]),
  .inl (0, 32, .inl (fun _ => 0)),
  .inr (1, [.ref 81, .int 0]),
  .inl (0, 32, .inl (fun _ => 0)),
  .inr (1, [.ref 83, .int 0]),
  .inl (0, 32, .inl (fun _ => 0))]
theorem iX3 (L : Nat) (ys : Nat → Int32) : f_X3_init 10 (hX0 L ys) = some (hA7 L ys) := by
  have e1 : xpR [3] (hX0 L ys ++ [xaR0 3 12]) 10 0 (hX0 L ys).length = some (hX1 L ys) := rfl
  have e2 : xpR [3] (hX1 L ys ++ [xaI0 12]) 10 1 (hX1 L ys).length = some (hX2 L ys) := rfl
  have e3 := lo_23 xN 0 12 (hX2 L ys) (fun _ => none) [.ref 11, .ref 12, .int 0, .int 0] (by omega) (by unfold xN; omega) rfl rfl rfl
  rw [show (hX2 L ys).length = 13 from rfl, fF_bf] at e3
  unfold f_X3_init
  rw [e1, ob_s, e2, ob_s, l_0, e3, ob_s]
  rfl
theorem iX7 (L : Nat) (ys : Nat → Int32) : f_X7_init 37 (hA8 L ys ++ [.inr (6, [.null, .null, .null, .int 0, .int 0, .int 0, .int 0, .int 0, .int 0])]) = some (hA9 L ys) := rfl
theorem iX9 (L : Nat) (ys : Nat → Int32) : f_X9_init 42 (hA11 L ys ++ [.inr (8, [.null, .int 0])]) = some (hA12 L ys) := rfl
theorem iA1 (L : Nat) (ys : Nat → Int32) : xpR [10] (hA0 L ys ++ [xaR0 2 8]) 3 0 (hA0 L ys).length = some (hA1 L ys) := rfl
theorem iA2 (L : Nat) (ys : Nat → Int32) : xpR [10] (hA1 L ys ++ [xaR0 3 4]) 3 1 (hA1 L ys).length = some (hA2 L ys) := rfl
theorem iA3 (L : Nat) (ys : Nat → Int32) : xpR [10] (hA2 L ys ++ [xaR0 3 8]) 3 2 (hA2 L ys).length = some (hA3 L ys) := rfl
theorem iA4 (L : Nat) (ys : Nat → Int32) : xpR [10] (hA3 L ys ++ [xaZ0 2]) 3 3 (hA3 L ys).length = some (hA4 L ys) := rfl
theorem iA5 (L : Nat) (ys : Nat → Int32) : f_X1_init (hA4 L ys).length (hA4 L ys ++ [.inr (1, [.null, .int 0])]) = some (hA5 L ys) := rfl
theorem iA6 (L : Nat) (ys : Nat → Int32) : xpR [10] (hA5 L ys) 3 4 (hA4 L ys).length = some (hA6 L ys) := rfl
theorem iA8 (L : Nat) (ys : Nat → Int32) : xpR [10] (hA7 L ys) 3 5 (hA6 L ys).length = some (hA8 L ys) := rfl
theorem iA10 (L : Nat) (ys : Nat → Int32) : xpR [10] (hA9 L ys) 3 6 (hA8 L ys).length = some (hA10 L ys) := rfl
theorem iA11 (L : Nat) (ys : Nat → Int32) : xpR [10] (hA10 L ys ++ [xaR0 4 12]) 3 7 (hA10 L ys).length = some (hA11 L ys) := rfl
theorem iA13 (L : Nat) (ys : Nat → Int32) : xpR [10] (hA12 L ys) 3 8 (hA11 L ys).length = some (hA13 L ys) := rfl
theorem i11 (L : Nat) (ys : Nat → Int32) : f_X11_init 3 (hA0 L ys) = some (H11 L ys) := by
  have a7 : f_X3_init (hA6 L ys).length (hA6 L ys ++ [.inr (3, [.null, .null, .int 0, .int 0])]) = some (hA7 L ys) := iX3 L ys
  have a9 : f_X7_init (hA8 L ys).length (hA8 L ys ++ [.inr (6, [.null, .null, .null, .int 0, .int 0, .int 0, .int 0, .int 0, .int 0])]) = some (hA9 L ys) := iX7 L ys
  have a12 : f_X9_init (hA11 L ys).length (hA11 L ys ++ [.inr (8, [.null, .int 0])]) = some (hA12 L ys) := iX9 L ys
  obtain ⟨k1, e1, k1'⟩ : ∃ k1, f_X11_init_L92 xN 3 (nI 0) (hA13 L ys) = some (nI 8, k1) ∧ k1 = (hA13 L ys).set 4 (.inl (2, 8, .inr (.inr (.inr (.inr rwF))))) ++ rT 44 8 := ⟨_, lo_92 xN 0 8 (hA13 L ys) (fun _ => none) [.ref 4, .ref 5, .ref 6, .ref 7, .ref 8, .ref 10, .ref 37, .ref 41, .ref 42, .int 0, .int 0, .int 0] (by omega) (by unfold xN; omega) rfl rfl rfl, by rw [show (hA13 L ys).length = 44 from rfl, fF_rw]⟩
  obtain ⟨k2, e2, k2'⟩ : ∃ k2, f_X11_init_L119 xN 3 (nI 0) k1 = some (nI 4, k2) ∧ k2 = k1.set 5 (.inl (3, 4, .inr (.inr (.inr (.inr vcF))))) ++ vT 60 4 := ⟨_, lo_119 xN 0 4 k1 (fun _ => none) [.ref 4, .ref 5, .ref 6, .ref 7, .ref 8, .ref 10, .ref 37, .ref 41, .ref 42, .int 0, .int 0, .int 0] (by omega) (by unfold xN; omega) (by rw [k1']; rfl) rfl (by rw [k1']; rfl), by rw [show k1.length = 60 by rw [k1']; rfl, fF_vc]⟩
  obtain ⟨k3, e3, k3'⟩ : ∃ k3, f_X11_init_L145 xN 3 (nI 0) k2 = some (nI 8, k3) ∧ k3 = k2.set 6 (.inl (3, 8, .inr (.inr (.inr (.inr imF))))) ++ vT 68 8 := ⟨_, lo_145 xN 0 8 k2 (fun _ => none) [.ref 4, .ref 5, .ref 6, .ref 7, .ref 8, .ref 10, .ref 37, .ref 41, .ref 42, .int 0, .int 0, .int 0] (by omega) (by unfold xN; omega) (by rw [k2', k1']; rfl) rfl (by rw [k2', k1']; rfl), by rw [show k2.length = 68 by rw [k2', k1']; rfl, fF_im]⟩
  unfold f_X11_init
  rw [iA1, ob_s, iA2, ob_s, iA3, ob_s, iA4, ob_s, iA5, ob_s, iA6, ob_s, a7, ob_s, iA8, ob_s, a9, ob_s, iA10, ob_s, iA11, ob_s, a12, ob_s, iA13, ob_s, l_0, e1, ob_s]
  dsimp only
  rw [e2, ob_s]
  dsimp only
  rw [e3, ob_s, k3', k2', k1']
  rfl
