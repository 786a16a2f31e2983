/-- the trace holds l: the class's, the reference's -/
def tC (g : xS) (l : List Int32) : xS := gs (va_up g 9 (fun i => if i < l.length then l.getD i 0 else g 9 i)) 48 1 (nI l.length)
def tM (g : xS) (l : List Int32) : xS := gs (va_up g 65 (fun i => if i < l.length then l.getD i 0 else g 65 i)) 66 27 (nI l.length)
section TR
variable {g : xS} {l : List Int32} {x : Int32}
theorem tC_48 : tC g l 48 1 = nI l.length := gs_same
theorem tM_66 : tM g l 66 27 = nI l.length := gs_same
theorem tC_9 {i : Nat} : tC g l 9 i = if i < l.length then l.getD i 0 else g 9 i := by
  unfold tC
  rw [gs_oc (by omega), up_c]
theorem tM_65 {i : Nat} : tM g l 65 i = if i < l.length then l.getD i 0 else g 65 i := by
  unfold tM
  rw [gs_oc (by omega), up_c]
theorem tC_o {c k : Nat} (h1 : c ≠ 9) (h2 : ¬ (c = 48 ∧ k = 1)) : tC g l c k = g c k := by
  unfold tC
  rw [gs_n h2, up_oc h1]
theorem tM_o {c k : Nat} (h1 : c ≠ 65) (h2 : ¬ (c = 66 ∧ k = 27)) : tM g l c k = g c k := by
  unfold tM
  rw [gs_n h2, up_oc h1]
theorem gd_end : (l ++ [x]).getD l.length 0 = x := by
  rw [List.getD_eq_getElem?_getD, List.getElem?_append_right (Nat.le_refl _), Nat.sub_self]
  rfl
theorem gd_in {i : Nat} (h : i < l.length) : (l ++ [x]).getD i 0 = l.getD i 0 := by
  rw [List.getD_eq_getElem?_getD, List.getD_eq_getElem?_getD, List.getElem?_append_left h]
theorem len1 : (l ++ [x]).length = l.length + 1 := by rw [List.length_append]; rfl
theorem tC_add : gs (gs (tC g l) 9 l.length x) 48 1 (nI (l.length + 1)) = tC g (l ++ [x]) := by
  funext c k
  by_cases e1 : c = 48 ∧ k = 1
  · obtain ⟨e1, e2⟩ := e1
    subst e1; subst e2
    rw [gs_same, tC_48, len1]
  · rw [gs_n e1]
    by_cases e2 : c = 9
    · subst e2
      rw [tC_9, len1]
      by_cases e3 : k = l.length
      · subst e3
        rw [gs_same, if_pos (by omega), gd_end]
      · rw [gs_n (by omega), tC_9]
        by_cases e4 : k < l.length
        · rw [if_pos e4, if_pos (by omega), gd_in e4]
        · rw [if_neg e4, if_neg (by omega)]
    · rw [gs_n (by omega), tC_o e2 e1, tC_o e2 e1]
theorem tM_add : gs (gs (tM g l) 65 l.length x) 66 27 (nI (l.length + 1)) = tM g (l ++ [x]) := by
  funext c k
  by_cases e1 : c = 66 ∧ k = 27
  · obtain ⟨e1, e2⟩ := e1
    subst e1; subst e2
    rw [gs_same, tM_66, len1]
  · rw [gs_n e1]
    by_cases e2 : c = 65
    · subst e2
      rw [tM_65, len1]
      by_cases e3 : k = l.length
      · subst e3
        rw [gs_same, if_pos (by omega), gd_end]
      · rw [gs_n (by omega), tM_65]
        by_cases e4 : k < l.length
        · rw [if_pos e4, if_pos (by omega), gd_in e4]
        · rw [if_neg e4, if_neg (by omega)]
    · rw [gs_n (by omega), tM_o e2 e1, tM_o e2 e1]
theorem tC_nil : gs g 48 1 0 = tC g [] := by
  unfold tC
  rw [show (fun i => if i < ([] : List Int32).length then ([] : List Int32).getD i 0 else g 9 i) = g 9 from funext fun i => if_neg (by simp), up_self]
  rfl
theorem tM_nil : gs g 66 27 0 = tM g [] := by
  unfold tM
  rw [show (fun i => if i < ([] : List Int32).length then ([] : List Int32).getD i 0 else g 65 i) = g 65 from funext fun i => if_neg (by simp), up_self]
  rfl
end TR
theorem sel3 {q K : Nat} {h : xH} (hK : K = 1 ∨ K = 2 ∨ K = 3) (hk : xk h q = some (kC K)) (A : Option (Int32 × xH)) : (if xk h q = some 4 then A else if xk h q = some 7 then A else if xk h q = some 9 then A else none) = A := by
  rcases hK with e | e | e <;> subst e <;> rw [hk] <;> rfl
theorem sel2 {q K : Nat} {h : xH} (hK : K = 4 ∨ K = 5) (hk : xk h q = some (kC K)) (A : Option (Int32 × xH)) : (if xk h q = some 0 then A else if xk h q = some 2 then A else none) = A := by
  rcases hK with e | e <;> subst e <;> rw [hk] <;> rfl
/-- what is marked, and left in the trace, of a run that is a zeros -/
def zmV (K : Nat) (v : Int32) : Int32 := if K = 2 then (2 : Int32) * v else if K = 3 then v - (1000 : Int32) else v
def zmL (K : Nat) (l : List Int32) : List Int32 := (if K = 2 then l ++ [24] else if K = 3 then l ++ [22] else l) ++ [21] ++ [20]
def zsL (K : Nat) (l : List Int32) : List Int32 := zmL K ((if K = 2 then l ++ [12] else l) ++ [11] ++ [10])
def zsV (K : Nat) (v : Int32) : Int32 := if K = 2 then 0 - v else v
def asL (K : Nat) (l : List Int32) : List Int32 := (if K = 5 then l ++ [14] else l) ++ [13] ++ [10]
def asV (K : Nat) (v : Int32) : Int32 := if K = 5 then (2 : Int32) * (v - 100) else v - 100
section ASK
variable {L : Nat} {xs : Nat → Int32} {g : xS} {r : Nat → Option Nat} {rs : xH} {a K i len : Nat} {l : List Int32}
theorem t_note (h : l.length < 16) (x : Int32) : f_X9_note 42 x (wH L xs (tC g l) r rs) = some (wH L xs (tC g (l ++ [x])) r rs) := by
  unfold f_X9_note
  rw [wi_42_1, ob_s, tC_48, if_neg (show ¬ (16 : Int32) ≤ nI l.length by rw [l_16, q_le (by omega) (by omega)]; omega), wr_42_0, ob_s, ob_s, wu_43' h, ob_s, wi_42_1, ob_s, gs_oc (by omega), tC_48, wp_42_1, ob_s, l_1, q_add, tC_add]
theorem m_tr (h : l.length < 16) (x : Int32) : f_X12_traces 84 x (wH L xs (tM g l) r rs) = some (wH L xs (tM g (l ++ [x])) r rs) := by
  unfold f_X12_traces
  rw [wi_84_27, ob_s, tM_66, if_neg (show ¬ (16 : Int32) ≤ nI l.length by rw [l_16, q_le (by omega) (by omega)]; omega), wr_84_26, ob_s, ob_s, wu_100' h, ob_s, wi_84_27, ob_s, gs_oc (by omega), tM_66, wp_84_27, ob_s, l_1, q_add, tM_add]
theorem e6s (h1 : 1 ≤ K) (h2 : K ≤ 5) (ho : rs[a]? = some (.inr (kC K, [.int (nI i), .int (nI len)]))) (h : l.length < 16) : f_X6_tellSize (101 + a) 42 (wH L xs (tC g l) r rs) = some (nI len, wH L xs (tC g (l ++ [10])) r rs) := by
  unfold f_X6_tellSize
  rw [wk_42, if_pos rfl, t_note h, ob_s, xg1_ru h1 h2 ho, ob_s]
theorem e6m (h1 : 1 ≤ K) (h2 : K ≤ 5) (ho : rs[a]? = some (.inr (kC K, [.int (nI i), .int (nI len)]))) (h : l.length < 16) : f_X6_tellMark (101 + a) 42 (wH L xs (tC g l) r rs) = some (nI i, wH L xs (tC g (l ++ [20])) r rs) := by
  unfold f_X6_tellMark
  rw [wk_42, if_pos rfl, t_note h, ob_s, xg0_ru h1 h2 ho, ob_s]
theorem bt_s (q : Nat → Bool) (k : Nat) : fb_ct q k + (q k).toNat = fb_ct q (k + 1) := by
  rw [fb_ct_succ]
  cases q k <;> rfl
theorem e_within_L (h1 : 1 ≤ K) (h2 : K ≤ 5) (hl : len ≤ 99) (ho : rs[a]? = some (.inr (kC K, [.int (nI i), .int (nI len)]))) : ∀ m k, k ≤ len → len < k + m → f_X6_onesWithin_L4 m (101 + a) (nI (fb_ct (bR K) k)) (nI k) (wH L xs g r rs) = some (nI (fb_ct (bR K) len), nI len, wH L xs g r rs) := by
  intro m
  induction m with
  | zero => intro k a1 a2; omega
  | succ m ih =>
    intro k a1 a2
    unfold f_X6_onesWithin_L4
    rw [xg1_ru h1 h2 ho, ob_s]
    by_cases hk : k = len
    · subst hk
      rw [if_pos (Int32.le_refl _)]
    · rw [if_neg (by rw [q_le (by omega) (by omega)]; omega), e_rbit h1 h2 (xk_ru ho) (by omega), ob_s]
      dsimp only
      rw [l_1, q_add, q_add, bt_s]
      exact ih (k + 1) (by omega) (by omega)
theorem e_within (h1 : 1 ≤ K) (h2 : K ≤ 5) (hl : len ≤ 99) (ho : rs[a]? = some (.inr (kC K, [.int (nI i), .int (nI len)]))) : f_X6_onesWithin (101 + a) (wH L xs g r rs) = some (nI (fb_ct (bR K) len), wH L xs g r rs) := by
  unfold f_X6_onesWithin
  have := e_within_L (L := L) (xs := xs) (g := g) (r := r) h1 h2 hl ho xN 0 (by omega) (by unfold xN; omega)
  rw [show fb_ct (bR K) 0 = 0 from rfl] at this
  rw [l_0, this, ob_s]
theorem m_onesOf_L (h1 : 1 ≤ K) (h2 : K ≤ 5) (hl : len ≤ 99) (hi : i < 12) (h60 : g 60 i = nI K) (h61 : g 61 i = nI len) : ∀ m k, k ≤ len → len < k + m → f_X12_onesOf_L4 m 84 (nI i) (nI (fb_ct (bR K) k)) (nI k) (wH L xs g r rs) = some (nI (fb_ct (bR K) len), nI len, wH L xs g r rs) := by
  intro m
  induction m with
  | zero => intro k a1 a2; omega
  | succ m ih =>
    intro k a1 a2
    unfold f_X12_onesOf_L4
    rw [wr_84_21, ob_s, wa_96' hi, ob_s, h61]
    by_cases hk : k = len
    · subst hk
      rw [if_pos (Int32.le_refl _)]
    · rw [if_neg (by rw [q_le (by omega) (by omega)]; omega), wr_84_20, ob_s, wa_95' hi, ob_s, h60, m_rbit h1 h2 (by omega), ob_s]
      dsimp only
      rw [l_1, q_add, q_add, bt_s]
      exact ih (k + 1) (by omega) (by omega)
theorem m_onesOf (h1 : 1 ≤ K) (h2 : K ≤ 5) (hl : len ≤ 99) (hi : i < 12) (h60 : g 60 i = nI K) (h61 : g 61 i = nI len) : f_X12_onesOf 84 (nI i) (wH L xs g r rs) = some (nI (fb_ct (bR K) len), wH L xs g r rs) := by
  unfold f_X12_onesOf
  have := m_onesOf_L (L := L) (xs := xs) (r := r) (rs := rs) h1 h2 hl hi h60 h61 xN 0 (by omega) (by unfold xN; omega)
  rw [show fb_ct (bR K) 0 = 0 from rfl] at this
  rw [l_0, this, ob_s]
theorem e10m (hK : K = 1 ∨ K = 2 ∨ K = 3) (hl : len ≤ 99) (ho : rs[a]? = some (.inr (kC K, [.int (nI i), .int (nI len)]))) (h : l.length < 15) : f_X10_tellMark (101 + a) 42 (wH L xs (tC g l) r rs) = some (nI (i + fb_ct (bR K) len), wH L xs (tC g (l ++ [21] ++ [20])) r rs) := by
  have h1 : 1 ≤ K := by omega
  have h2 : K ≤ 5 := by omega
  unfold f_X10_tellMark
  rw [wk_42, if_pos rfl, t_note (by omega), ob_s, sel3 hK (xk_ru ho), e6m h1 h2 ho (by rw [len1]; omega), ob_s]
  dsimp only
  rw [sel3 hK (xk_ru ho), e_within h1 h2 hl ho, ob_s]
  dsimp only
  rw [q_add]
theorem ezm (hK : K = 1 ∨ K = 2 ∨ K = 3) (hl : len ≤ 99) (ho : rs[a]? = some (.inr (kC K, [.int (nI i), .int (nI len)]))) (h : l.length < 14) : (if xk (wH L xs (tC g l) r rs) (101 + a) = some 4 then f_X4_tellMark (101 + a) 42 (wH L xs (tC g l) r rs) else if xk (wH L xs (tC g l) r rs) (101 + a) = some 7 then f_X8_tellMark (101 + a) 42 (wH L xs (tC g l) r rs) else if xk (wH L xs (tC g l) r rs) (101 + a) = some 9 then f_X10_tellMark (101 + a) 42 (wH L xs (tC g l) r rs) else none) = some (zmV K (nI (i + fb_ct (bR K) len)), wH L xs (tC g (zmL K l)) r rs) := by
  rcases hK with e | e | e
  · subst e
    rw [xk_ru ho, if_neg (by decide), if_neg (by decide), if_pos (by decide), e10m (Or.inl rfl) hl ho (by omega)]
    rfl
  · subst e
    rw [xk_ru ho, if_pos (by decide)]
    unfold f_X4_tellMark
    rw [wk_42, if_pos rfl, t_note (by omega), ob_s, xk_ru ho, if_pos (by decide), e10m (Or.inr (Or.inl rfl)) hl ho (by rw [len1]; omega), ob_s]
    rfl
  · subst e
    rw [xk_ru ho, if_neg (by decide), if_pos (by decide)]
    unfold f_X8_tellMark
    rw [wk_42, if_pos rfl, t_note (by omega), ob_s, xk_ru ho, if_pos (by decide), e10m (Or.inr (Or.inr rfl)) hl ho (by rw [len1]; omega), ob_s]
    rfl
theorem e10s (hK : K = 1 ∨ K = 2 ∨ K = 3) (hl : len ≤ 99) (ho : rs[a]? = some (.inr (kC K, [.int (nI i), .int (nI len)]))) (h : l.length < 12) : f_X10_tellSize (101 + a) 42 (wH L xs (tC g l) r rs) = some (nI len + zmV K (nI (i + fb_ct (bR K) len)), wH L xs (tC g (zmL K (l ++ [11] ++ [10]))) r rs) := by
  have h1 : 1 ≤ K := by omega
  have h2 : K ≤ 5 := by omega
  unfold f_X10_tellSize
  rw [wk_42, if_pos rfl, t_note (by omega), ob_s, sel3 hK (xk_ru ho), e6s h1 h2 ho (by rw [len1]; omega), ob_s]
  dsimp only
  rw [ezm hK hl ho (by rw [len1, len1]; omega), ob_s]
theorem e0s (hK : K = 4 ∨ K = 5) (ho : rs[a]? = some (.inr (kC K, [.int (nI i), .int (nI len)]))) (h : l.length < 14) : f_X0_tellSize (101 + a) 42 (wH L xs (tC g l) r rs) = some (nI len - 100, wH L xs (tC g (l ++ [13] ++ [10])) r rs) := by
  have h1 : 1 ≤ K := by omega
  have h2 : K ≤ 5 := by omega
  unfold f_X0_tellSize
  rw [wk_42, if_pos rfl, t_note (by omega), ob_s, sel2 hK (xk_ru ho), e6s h1 h2 ho (by rw [len1]; omega), ob_s]
theorem eas (hK : K = 4 ∨ K = 5) (ho : rs[a]? = some (.inr (kC K, [.int (nI i), .int (nI len)]))) (h : l.length < 13) : (if xk (wH L xs (tC g l) r rs) (101 + a) = some 0 then f_X0_tellSize (101 + a) 42 (wH L xs (tC g l) r rs) else if xk (wH L xs (tC g l) r rs) (101 + a) = some 2 then f_X2_tellSize (101 + a) 42 (wH L xs (tC g l) r rs) else none) = some (asV K (nI len), wH L xs (tC g (asL K l)) r rs) := by
  rcases hK with e | e
  · subst e
    rw [xk_ru ho, if_pos (by decide), e0s (Or.inl rfl) ho (by omega)]
    rfl
  · subst e
    rw [xk_ru ho, if_neg (by decide), if_pos (by decide)]
    unfold f_X2_tellSize
    rw [wk_42, if_pos rfl, t_note (by omega), ob_s, xk_ru ho, if_pos (by decide), e0s (Or.inr rfl) ho (by rw [len1]; omega), ob_s]
    rfl
theorem e0m (hK : K = 4 ∨ K = 5) (ho : rs[a]? = some (.inr (kC K, [.int (nI i), .int (nI len)]))) (h : l.length < 10) : f_X0_tellMark (101 + a) 42 (wH L xs (tC g l) r rs) = some (nI i - asV K (nI len), wH L xs (tC g (asL K (l ++ [23] ++ [20]))) r rs) := by
  have h1 : 1 ≤ K := by omega
  have h2 : K ≤ 5 := by omega
  unfold f_X0_tellMark
  rw [wk_42, if_pos rfl, t_note (by omega), ob_s, sel2 hK (xk_ru ho), e6m h1 h2 ho (by rw [len1]; omega), ob_s]
  dsimp only
  rw [eas hK ho (by rw [len1, len1]; omega), ob_s]
/-! the reference -/
theorem mzm (hK : K = 1 ∨ K = 2 ∨ K = 3) (hl : len ≤ 99) (hi : i < 12) (h60 : g 60 i = nI K) (h61 : g 61 i = nI len) (h : l.length < 13) : f_X12_zerosMark 84 (nI i) (wH L xs (tM g l) r rs) = some (zmV K (nI (i + fb_ct (bR K) len)), wH L xs (tM g (zmL K l)) r rs) := by
  have h1 : 1 ≤ K := by omega
  have h2 : K ≤ 5 := by omega
  have f60 : ∀ l, tM g l 60 i = nI K := fun l => (tM_o (by omega) (by omega)).trans h60
  have f61 : ∀ l, tM g l 61 i = nI len := fun l => (tM_o (by omega) (by omega)).trans h61
  unfold f_X12_zerosMark
  rw [wk_84, if_pos rfl, m_kindIn hi (f60 l), ob_s]
  rcases hK with e | e | e
  · subst e
    simp only [kq_1_1, kq_1_2, kq_1_3, kq_1_4, kq_1_5, kq_2_1, kq_2_2, kq_2_3, kq_2_4, kq_2_5, kq_3_1, kq_3_2, kq_3_3, kq_3_4, kq_3_5, kq_4_1, kq_4_2, kq_4_3, kq_4_4, kq_4_5, kq_5_1, kq_5_2, kq_5_3, kq_5_4, kq_5_5, kl_1, kl_2, kl_3, kl_4, kl_5, k_10, if_true, if_false]
    rw [ob_s, wk_84, if_pos rfl, m_tr (by omega), ob_s, wk_84, if_pos rfl, m_tr (by rw [len1]; omega), ob_s, wk_84, if_pos rfl, m_onesOf h1 h2 hl hi (f60 _) (f61 _), ob_s]
    dsimp only
    rw [q_add]
    rfl
  · subst e
    simp only [kq_1_1, kq_1_2, kq_1_3, kq_1_4, kq_1_5, kq_2_1, kq_2_2, kq_2_3, kq_2_4, kq_2_5, kq_3_1, kq_3_2, kq_3_3, kq_3_4, kq_3_5, kq_4_1, kq_4_2, kq_4_3, kq_4_4, kq_4_5, kq_5_1, kq_5_2, kq_5_3, kq_5_4, kq_5_5, kl_1, kl_2, kl_3, kl_4, kl_5, k_10, if_true, if_false]
    rw [wk_84, if_pos rfl, m_tr (by omega), ob_s, ob_s, wk_84, if_pos rfl, m_tr (by rw [len1]; omega), ob_s, wk_84, if_pos rfl, m_tr (by rw [len1, len1]; omega), ob_s, wk_84, if_pos rfl, m_onesOf h1 h2 hl hi (f60 _) (f61 _), ob_s]
    dsimp only
    rw [q_add]
    rfl
  · subst e
    simp only [kq_1_1, kq_1_2, kq_1_3, kq_1_4, kq_1_5, kq_2_1, kq_2_2, kq_2_3, kq_2_4, kq_2_5, kq_3_1, kq_3_2, kq_3_3, kq_3_4, kq_3_5, kq_4_1, kq_4_2, kq_4_3, kq_4_4, kq_4_5, kq_5_1, kq_5_2, kq_5_3, kq_5_4, kq_5_5, kl_1, kl_2, kl_3, kl_4, kl_5, k_10, if_true, if_false]
    rw [wk_84, if_pos rfl, m_tr (by omega), ob_s, ob_s, wk_84, if_pos rfl, m_tr (by rw [len1]; omega), ob_s, wk_84, if_pos rfl, m_tr (by rw [len1, len1]; omega), ob_s, wk_84, if_pos rfl, m_onesOf h1 h2 hl hi (f60 _) (f61 _), ob_s]
    dsimp only
    rw [q_add]
    rfl
theorem mzs (hK : K = 1 ∨ K = 2 ∨ K = 3) (hl : len ≤ 99) (hi : i < 12) (h60 : g 60 i = nI K) (h61 : g 61 i = nI len) (h : l.length < 10) : f_X12_zerosSize 84 (nI i) (wH L xs (tM g l) r rs) = some (zsV K (nI len + zmV K (nI (i + fb_ct (bR K) len))), wH L xs (tM g (zsL K l)) r rs) := by
  have h1 : 1 ≤ K := by omega
  have h2 : K ≤ 5 := by omega
  have f60 : ∀ l, tM g l 60 i = nI K := fun l => (tM_o (by omega) (by omega)).trans h60
  have f61 : ∀ l, tM g l 61 i = nI len := fun l => (tM_o (by omega) (by omega)).trans h61
  unfold f_X12_zerosSize
  rw [wk_84, if_pos rfl, m_kindIn hi (f60 l), ob_s]
  rcases hK with e | e | e
  · subst e
    simp only [kq_1_1, kq_1_2, kq_1_3, kq_1_4, kq_1_5, kq_2_1, kq_2_2, kq_2_3, kq_2_4, kq_2_5, kq_3_1, kq_3_2, kq_3_3, kq_3_4, kq_3_5, kq_4_1, kq_4_2, kq_4_3, kq_4_4, kq_4_5, kq_5_1, kq_5_2, kq_5_3, kq_5_4, kq_5_5, kl_1, kl_2, kl_3, kl_4, kl_5, k_10, if_true, if_false]
    rw [ob_s, wk_84, if_pos rfl, m_tr (by omega), ob_s, wk_84, if_pos rfl, m_tr (by rw [len1]; omega), ob_s, wr_84_21, ob_s, wa_96' hi, ob_s, f61, wk_84, if_pos rfl, mzm (Or.inl rfl) hl hi h60 h61 (by rw [len1, len1]; omega), ob_s]
    rfl
  · subst e
    simp only [kq_1_1, kq_1_2, kq_1_3, kq_1_4, kq_1_5, kq_2_1, kq_2_2, kq_2_3, kq_2_4, kq_2_5, kq_3_1, kq_3_2, kq_3_3, kq_3_4, kq_3_5, kq_4_1, kq_4_2, kq_4_3, kq_4_4, kq_4_5, kq_5_1, kq_5_2, kq_5_3, kq_5_4, kq_5_5, kl_1, kl_2, kl_3, kl_4, kl_5, k_10, if_true, if_false]
    rw [wk_84, if_pos rfl, m_tr (by omega), ob_s, ob_s, wk_84, if_pos rfl, m_tr (by rw [len1]; omega), ob_s, wk_84, if_pos rfl, m_tr (by rw [len1, len1]; omega), ob_s, wr_84_21, ob_s, wa_96' hi, ob_s, f61, wk_84, if_pos rfl, mzm (Or.inr (Or.inl rfl)) hl hi h60 h61 (by rw [len1, len1, len1]; omega), ob_s]
    dsimp only
    rw [show ∀ v : Int32, -v = zsV 2 v from fun v => (Int32.zero_sub v).symm]
    rfl
  · subst e
    simp only [kq_1_1, kq_1_2, kq_1_3, kq_1_4, kq_1_5, kq_2_1, kq_2_2, kq_2_3, kq_2_4, kq_2_5, kq_3_1, kq_3_2, kq_3_3, kq_3_4, kq_3_5, kq_4_1, kq_4_2, kq_4_3, kq_4_4, kq_4_5, kq_5_1, kq_5_2, kq_5_3, kq_5_4, kq_5_5, kl_1, kl_2, kl_3, kl_4, kl_5, k_10, if_true, if_false]
    rw [ob_s, wk_84, if_pos rfl, m_tr (by omega), ob_s, wk_84, if_pos rfl, m_tr (by rw [len1]; omega), ob_s, wr_84_21, ob_s, wa_96' hi, ob_s, f61, wk_84, if_pos rfl, mzm (Or.inr (Or.inr rfl)) hl hi h60 h61 (by rw [len1, len1]; omega), ob_s]
    rfl
theorem mas (hK : K = 4 ∨ K = 5) (hi : i < 12) (h60 : g 60 i = nI K) (h61 : g 61 i = nI len) (h : l.length < 13) : f_X12_alternateSize 84 (nI i) (wH L xs (tM g l) r rs) = some (asV K (nI len), wH L xs (tM g (asL K l)) r rs) := by
  have f60 : ∀ l, tM g l 60 i = nI K := fun l => (tM_o (by omega) (by omega)).trans h60
  have f61 : ∀ l, tM g l 61 i = nI len := fun l => (tM_o (by omega) (by omega)).trans h61
  unfold f_X12_alternateSize
  rw [wk_84, if_pos rfl, m_kindIn hi (f60 l), ob_s]
  rcases hK with e | e
  · subst e
    simp only [kq_1_1, kq_1_2, kq_1_3, kq_1_4, kq_1_5, kq_2_1, kq_2_2, kq_2_3, kq_2_4, kq_2_5, kq_3_1, kq_3_2, kq_3_3, kq_3_4, kq_3_5, kq_4_1, kq_4_2, kq_4_3, kq_4_4, kq_4_5, kq_5_1, kq_5_2, kq_5_3, kq_5_4, kq_5_5, kl_1, kl_2, kl_3, kl_4, kl_5, k_10, if_true, if_false]
    rw [ob_s, wk_84, if_pos rfl, m_tr (by omega), ob_s, wk_84, if_pos rfl, m_tr (by rw [len1]; omega), ob_s, wr_84_21, ob_s, wa_96' hi, ob_s, f61]
    rfl
  · subst e
    simp only [kq_1_1, kq_1_2, kq_1_3, kq_1_4, kq_1_5, kq_2_1, kq_2_2, kq_2_3, kq_2_4, kq_2_5, kq_3_1, kq_3_2, kq_3_3, kq_3_4, kq_3_5, kq_4_1, kq_4_2, kq_4_3, kq_4_4, kq_4_5, kq_5_1, kq_5_2, kq_5_3, kq_5_4, kq_5_5, kl_1, kl_2, kl_3, kl_4, kl_5, k_10, if_true, if_false]
    rw [wk_84, if_pos rfl, m_tr (by omega), ob_s, ob_s, wk_84, if_pos rfl, m_tr (by rw [len1]; omega), ob_s, wk_84, if_pos rfl, m_tr (by rw [len1, len1]; omega), ob_s, wr_84_21, ob_s, wa_96' hi, ob_s, f61]
    rfl
theorem mam (hK : K = 4 ∨ K = 5) (hi : i < 12) (h60 : g 60 i = nI K) (h61 : g 61 i = nI len) (h : l.length < 10) : f_X12_alternateMark 84 (nI i) (wH L xs (tM g l) r rs) = some (nI i - asV K (nI len), wH L xs (tM g (asL K (l ++ [23] ++ [20]))) r rs) := by
  unfold f_X12_alternateMark
  rw [wk_84, if_pos rfl, m_tr (by omega), ob_s, wk_84, if_pos rfl, m_tr (by rw [len1]; omega), ob_s, wk_84, if_pos rfl, mas hK hi h60 h61 (by rw [len1, len1]; omega), ob_s]
/-- both traces alike, all else as it was -/
theorem tr_rel (R : Rel g r rs) (hl : l.length ≤ 16) : Rel (tM (tC g l) l) r rs := by
  have F : ∀ c k, c ≠ 9 → ¬ (c = 48 ∧ k = 1) → c ≠ 65 → ¬ (c = 66 ∧ k = 27) → tM (tC g l) l c k = g c k := by
    intro c k x1 x2 x3 x4
    rw [tM_o x3 x4, tC_o x1 x2]
  refine ⟨rRow_c R.row (fun c k hc => F c k (by omega) (by omega) (by omega) (by omega)), rTap_c R.tap (fun c k hc => F c k (by omega) (by omega) (by omega) (by omega)), ⟨?_, ?_⟩, rVec_c R.vec (fun c k hc => F c k (by omega) (by omega) (by omega) (by omega)), rImg_c R.img (fun c k hc => F c k (by omega) (by omega) (by omega) (by omega)), rCh_c R.ch (fun k => F _ k (by omega) (by omega) (by omega) (by omega)), ⟨l.length, hl, ?_, tM_66, fun i hi => ?_⟩, rRun_c R.run (fun c k hc => F c k (by omega) (by omega) (by omega) (by omega)), rHis_c R.his (fun c k hc => F c k (by omega) (by omega) (by omega) (by omega))⟩
  · rw [F 0 10 (by omega) (by omega) (by omega) (by omega), F 66 7 (by omega) (by omega) (by omega) (by omega)]
    exact R.fs.1
  · rw [F 0 11 (by omega) (by omega) (by omega) (by omega), F 66 4 (by omega) (by omega) (by omega) (by omega)]
    exact R.fs.2
  · rw [tM_o (by omega) (by omega), tC_48]
  · rw [tM_65, tM_o (by omega) (by omega), tC_9, if_pos hi, if_pos hi]
end ASK
