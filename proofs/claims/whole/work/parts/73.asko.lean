def qsV (K i len : Nat) : Int32 := if K ≤ 3 then zsV K (nI len + zmV K (nI (i + fb_ct (bR K) len))) else asV K (nI len)
def qsL (K : Nat) : List Int32 := if K ≤ 3 then zsL K [] else asL K []
def qmV (K i len : Nat) : Int32 := if K ≤ 3 then zmV K (nI (i + fb_ct (bR K) len)) else nI i - asV K (nI len)
def qmL (K : Nat) : List Int32 := if K ≤ 3 then zmL K [] else asL K ([] ++ [23] ++ [20])
theorem qs_len : ∀ K, K < 6 → (qsL K).length ≤ 16 := by decide
theorem qm_len : ∀ K, K < 6 → (qmL K).length ≤ 16 := by decide
section ASKO
variable {L : Nat} {xs : Nat → Int32} {g : xS} {r : Nat → Option Nat} {rs : xH} {a K i len : Nat}
theorem c_size {h : xH} (hh : h = wH L xs (tC g []) r rs) (k1 : 1 ≤ K) (k2 : K ≤ 5) (hl : len ≤ 99) (ho : rs[a]? = some (.inr (kC K, [.int (nI i), .int (nI len)]))) : (if xk h (101 + a) = some 0 then f_X0_tellSize (101 + a) 42 h else if xk h (101 + a) = some 2 then f_X2_tellSize (101 + a) 42 h else if xk h (101 + a) = some 4 then f_X4_tellSize (101 + a) 42 h else if xk h (101 + a) = some 7 then f_X10_tellSize (101 + a) 42 h else if xk h (101 + a) = some 9 then f_X10_tellSize (101 + a) 42 h else none) = some (qsV K i len, wH L xs (tC g (qsL K)) r rs) := by
  subst hh
  rw [xk_ru ho]
  rcases K5 k1 k2 with e | e | e | e | e
  · subst e
    rw [if_neg (by decide), if_neg (by decide), if_neg (by decide), if_neg (by decide), if_pos (by decide), e10s (Or.inl rfl) hl ho (by decide)]
    rfl
  · subst e
    rw [if_neg (by decide), if_neg (by decide), if_pos (by decide)]
    unfold f_X4_tellSize
    rw [wk_42, if_pos rfl, t_note (by decide), ob_s, xk_ru ho, if_pos (by decide), e10s (Or.inr (Or.inl rfl)) hl ho (by decide), ob_s]
    rfl
  · subst e
    rw [if_neg (by decide), if_neg (by decide), if_neg (by decide), if_pos (by decide), e10s (Or.inr (Or.inr rfl)) hl ho (by decide)]
    rfl
  · subst e
    rw [if_pos (by decide), e0s (Or.inl rfl) ho (by decide)]
    rfl
  · subst e
    rw [if_neg (by decide), if_pos (by decide)]
    unfold f_X2_tellSize
    rw [wk_42, if_pos rfl, t_note (by decide), ob_s, xk_ru ho, if_pos (by decide), e0s (Or.inr rfl) ho (by decide), ob_s]
    rfl
theorem c_mark {h : xH} (hh : h = wH L xs (tC g []) r rs) (k1 : 1 ≤ K) (k2 : K ≤ 5) (hl : len ≤ 99) (ho : rs[a]? = some (.inr (kC K, [.int (nI i), .int (nI len)]))) : (if xk h (101 + a) = some 0 then f_X0_tellMark (101 + a) 42 h else if xk h (101 + a) = some 2 then f_X0_tellMark (101 + a) 42 h else if xk h (101 + a) = some 4 then f_X4_tellMark (101 + a) 42 h else if xk h (101 + a) = some 7 then f_X8_tellMark (101 + a) 42 h else if xk h (101 + a) = some 9 then f_X10_tellMark (101 + a) 42 h else none) = some (qmV K i len, wH L xs (tC g (qmL K)) r rs) := by
  subst hh
  by_cases h3 : K ≤ 3
  · have hK : K = 1 ∨ K = 2 ∨ K = 3 := by omega
    have z := ezm (L := L) (xs := xs) (g := g) (r := r) (l := []) hK hl ho (by decide)
    have n0 : ¬ xk (wH L xs (tC g []) r rs) (101 + a) = some 0 := by
      rw [xk_ru ho]; rcases hK with e | e | e <;> subst e <;> decide
    have n2 : ¬ xk (wH L xs (tC g []) r rs) (101 + a) = some 2 := by
      rw [xk_ru ho]; rcases hK with e | e | e <;> subst e <;> decide
    rw [if_neg n0, if_neg n2, z]
    unfold qmV qmL
    rw [if_pos h3, if_pos h3]
  · have hK : K = 4 ∨ K = 5 := by omega
    have z := e0m (L := L) (xs := xs) (g := g) (r := r) (l := []) hK ho (by decide)
    unfold qmV qmL
    rw [if_neg h3, if_neg h3, ← z, xk_ru ho]
    rcases hK with e | e <;> subst e <;> rfl
theorem m_size {h : xH} (hh : h = wH L xs (tM g []) r rs) (k1 : 1 ≤ K) (k2 : K ≤ 5) (hl : len ≤ 99) (hi : i < 12) (h60 : g 60 i = nI K) (h61 : g 61 i = nI len) : (if (if nI K < (4 : Int32) then (0 : Int32) else (1 : Int32)) = 0 then ((if xk h 84 = some 11 then f_X12_zerosSize 84 (nI i) h else none).bind fun q6 => some (q6.1, q6.2)) else ((if xk h 84 = some 11 then f_X12_alternateSize 84 (nI i) h else none).bind fun q7 => some (q7.1, q7.2))) = some (qsV K i len, wH L xs (tM g (qsL K)) r rs) := by
  subst hh
  rw [wk_84, if_pos rfl, if_pos rfl]
  by_cases h3 : K ≤ 3
  · have hK : K = 1 ∨ K = 2 ∨ K = 3 := by omega
    have z := mzs (L := L) (xs := xs) (r := r) (rs := rs) (l := []) hK hl hi h60 h61 (by decide)
    rw [z, ob_s, if_pos (show nI K < (4 : Int32) by rcases hK with e | e | e <;> subst e <;> decide), if_pos rfl]
    unfold qsV qsL
    rw [if_pos h3, if_pos h3]
  · have hK : K = 4 ∨ K = 5 := by omega
    have z := mas (L := L) (xs := xs) (r := r) (rs := rs) (l := []) hK hi h60 h61 (by decide)
    rw [z, ob_s, if_neg (show ¬ nI K < (4 : Int32) by rcases hK with e | e <;> subst e <;> decide), if_neg (by decide)]
    unfold qsV qsL
    rw [if_neg h3, if_neg h3]
theorem m_mark {h : xH} (hh : h = wH L xs (tM g []) r rs) (k1 : 1 ≤ K) (k2 : K ≤ 5) (hl : len ≤ 99) (hi : i < 12) (h60 : g 60 i = nI K) (h61 : g 61 i = nI len) : (if (if nI K < (4 : Int32) then (0 : Int32) else (1 : Int32)) = 0 then ((if xk h 84 = some 11 then f_X12_zerosMark 84 (nI i) h else none).bind fun q8 => some (q8.1, q8.2)) else ((if xk h 84 = some 11 then f_X12_alternateMark 84 (nI i) h else none).bind fun q9 => some (q9.1, q9.2))) = some (qmV K i len, wH L xs (tM g (qmL K)) r rs) := by
  subst hh
  rw [wk_84, if_pos rfl, if_pos rfl]
  by_cases h3 : K ≤ 3
  · have hK : K = 1 ∨ K = 2 ∨ K = 3 := by omega
    have z := mzm (L := L) (xs := xs) (r := r) (rs := rs) (l := []) hK hl hi h60 h61 (by decide)
    rw [z, ob_s, if_pos (show nI K < (4 : Int32) by rcases hK with e | e | e <;> subst e <;> decide), if_pos rfl]
    unfold qmV qmL
    rw [if_pos h3, if_pos h3]
  · have hK : K = 4 ∨ K = 5 := by omega
    have z := mam (L := L) (xs := xs) (r := r) (rs := rs) (l := []) hK hi h60 h61 (by decide)
    rw [z, ob_s, if_neg (show ¬ nI K < (4 : Int32) by rcases hK with e | e <;> subst e <;> decide), if_neg (by decide)]
    unfold qmV qmL
    rw [if_neg h3, if_neg h3]
theorem o_ask (R : Rel g r rs) (x y : Int32) : Op L xs g r rs (f_X11_ask 3 x y) (f_X12_ask 84 x y) := by
  rcases sRn R.run x with ⟨m, i, a, K, len, hm, hi, rfl, h9, h19, hr, k1, k2, hl, ho, h60, h61⟩ | ⟨m, hm, h9, h19, hx⟩
  · have n1 : ¬ nI 1 = (0 : Int32) := by decide
    have f19 : ∀ l, tC g l 66 19 = nI m := fun l => (tC_o (by omega) (by omega)).trans h19
    have f60 : ∀ l, tC g l 60 i = nI K := fun l => (tC_o (by omega) (by omega)).trans h60
    have f61 : ∀ l, tC g l 61 i = nI len := fun l => (tC_o (by omega) (by omega)).trans h61
    have g60 : ∀ l, tM (tC g l) [] 60 i = nI K := fun l => (tM_o (by omega) (by omega)).trans (f60 l)
    rcases a_sp y with hy | ⟨t, ht, rfl⟩
    · refine RO.op ?_ R
      unfold RO f_X11_ask f_X12_ask
      refine ⟨-1000001, ?_, ?_⟩
      · rw [wk_3, if_pos rfl, e_isRun hm hi h9 hr, ob_s, if_neg n1, if_pos (show y < 0 from hy)]
      · rw [wk_84, if_pos rfl, m_isRun hm hi h19, ob_s, if_neg n1, l_0, in_neg hy, ob_s]; rfl
    · by_cases e : t ≤ 1
      · rcases (show t = 0 ∨ t = 1 by omega) with e0 | e0
        · subst e0
          refine ⟨qsV K i len, tC g (qsL K), r, rs, tM (tC g (qsL K)) (qsL K), ?_, ?_, tr_rel R (qs_len K (by omega)), by omega, by omega⟩
          · unfold f_X11_ask
            rw [wk_3, if_pos rfl, e_isRun hm hi h9 hr, ob_s, if_neg n1, if_neg (by decide), if_pos (by decide), wr_3_8, ob_s, wp_42_1, ob_s, if_pos (by decide), wr_3_7, ob_s, xaR_ru (by omega) hr, ob_s, wr_3_8, ob_s, c_size (by rw [tC_nil]) k1 k2 hl ho, ob_s]
          · unfold f_X12_ask
            rw [wk_84, if_pos rfl, m_isRun hm hi (f19 _), ob_s, if_neg n1, show f_X12_in (nI 0) 0 1 (wH L xs (tC g (qsL K)) r rs) = some (nI 1, wH L xs (tC g (qsL K)) r rs) from rfl, ob_s, if_neg n1, wp_84_27, ob_s, tM_nil, wk_84, if_pos rfl, m_kindIn (by omega) (g60 _), ob_s, if_pos (by decide), m_size rfl k1 k2 hl (by omega) (f60 _) (f61 _)]
        · subst e0
          refine ⟨qmV K i len, tC g (qmL K), r, rs, tM (tC g (qmL K)) (qmL K), ?_, ?_, tr_rel R (qm_len K (by omega)), by omega, by omega⟩
          · unfold f_X11_ask
            rw [wk_3, if_pos rfl, e_isRun hm hi h9 hr, ob_s, if_neg n1, if_neg (by decide), if_pos (by decide), wr_3_8, ob_s, wp_42_1, ob_s, if_neg (by decide), wr_3_7, ob_s, xaR_ru (by omega) hr, ob_s, wr_3_8, ob_s, c_mark (by rw [tC_nil]) k1 k2 hl ho, ob_s]
          · unfold f_X12_ask
            rw [wk_84, if_pos rfl, m_isRun hm hi (f19 _), ob_s, if_neg n1, show f_X12_in (nI 1) 0 1 (wH L xs (tC g (qmL K)) r rs) = some (nI 1, wH L xs (tC g (qmL K)) r rs) from rfl, ob_s, if_neg n1, wp_84_27, ob_s, tM_nil, wk_84, if_pos rfl, m_kindIn (by omega) (g60 _), ob_s, if_neg (by decide), m_mark rfl k1 k2 hl (by omega) (f60 _) (f61 _)]
      · refine RO.op ?_ R
        unfold RO f_X11_ask f_X12_ask
        refine ⟨-1000001, ?_, ?_⟩
        · rw [wk_3, if_pos rfl, e_isRun hm hi h9 hr, ob_s, if_neg n1, if_neg (q_pos ht), if_neg (show ¬ nI t ≤ (1 : Int32) by rw [l_1, q_le ht (by omega)]; exact e)]
        · rw [wk_84, if_pos rfl, m_isRun hm hi h19, ob_s, if_neg n1, l_0, l_1, in_n ht (by omega), if_neg e, ob_s]; rfl
  · refine RO.op ?_ R
    unfold RO f_X11_ask f_X12_ask
    refine ⟨-1000001, ?_, ?_⟩
    · rw [wk_3, if_pos rfl, e_isRun0 hm hx h9, ob_s]; rfl
    · rw [wk_84, if_pos rfl, m_isRun0 hm hx h19, ob_s]; rfl
end ASKO
