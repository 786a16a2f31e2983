/-- the places of a row, as bits -/
def tkB (it : Nat → Nat) : Nat → Nat → (Nat → Bool) → Nat → Bool
  | _, 0, p => p
  | k, d + 1, p => tkB it (k + 1) d (fun t => if t = it k then true else p t)
section TAKE
variable {L : Nat} {xs : Nat → Int32} {g : xS} {r : Nat → Option Nat} {rs : xH} {v n k l N : Nat} {p : Nat → Bool}
theorem tls_good (hk : k < 8) (hN : N ≤ 40) (hn : n ≤ 480) {it : Nat → Nat} (hit : ∀ i, i < N → g (11 + k) i = nI (it i) ∧ it i < n) : ∀ m i, i ≤ N → N < i + m → f_X5_tellsPlaces_L2 m (44 + 2 * k) (nI N) (nI n) (nI i) (wH L xs g r rs) = some (nI 1, wH L xs g r rs) := by
  intro m
  induction m with
  | zero => intro i h1 h2; omega
  | succ m ih =>
    intro i h1 h2
    unfold f_X5_tellsPlaces_L2
    by_cases e : i = N
    · subst e
      simp (disch := omega) only [q_pos, q_pos', q_lt, q_le, q_eq, q_add, q_sub, q_mul, ob_s, if_pos, if_neg, not_false_eq_true, q_m1', q_div, rm_N, l_0, l_1, l_2, l_3, l_4, l_5, l_6, l_7, l_8, l_10, l_11, l_12, l_13, l_14, l_15, l_16, l_18, l_20, l_21, l_22, l_23, l_24, l_32, l_33, l_40, l_44, l_48, l_57, l_59, l_60, l_63, l_64, l_97, l_98, l_99, l_100, l_111, l_116, l_122, l_132, l_200, l_240, l_255, l_480, l_1000, l_1452, if_true, if_false, true_or, or_true, in_neg, in_m1, in_n, V1, V2, R1, R2, B1, B2, eq_self]
    · obtain ⟨a1, a2⟩ := hit i (by omega)
      simp (disch := omega) only [q_pos, q_pos', q_lt, q_le, q_eq, q_add, q_sub, q_mul, ob_s, if_pos, if_neg, not_false_eq_true, q_m1', q_div, rm_N, l_0, l_1, l_2, l_3, l_4, l_5, l_6, l_7, l_8, l_10, l_11, l_12, l_13, l_14, l_15, l_16, l_18, l_20, l_21, l_22, l_23, l_24, l_32, l_33, l_40, l_44, l_48, l_57, l_59, l_60, l_63, l_64, l_97, l_98, l_99, l_100, l_111, l_116, l_122, l_132, l_200, l_240, l_255, l_480, l_1000, l_1452, if_true, if_false, true_or, or_true, in_neg, in_m1, in_n, V1, V2, R1, R2, B1, B2, eq_self, wrr, war', a1]
      exact ih (i + 1) (by omega) (by omega)
theorem tls_bad (hk : k < 8) (hN : N ≤ 40) (hn : n ≤ 480) {b : Nat} (hb : b < N) (hg : ∀ i, i < b → ∃ j, j < n ∧ g (11 + k) i = nI j) (hbad : ¬ ∃ j, j < n ∧ g (11 + k) b = nI j) : ∀ m i, i ≤ b → b < i + m → f_X5_tellsPlaces_L2 m (44 + 2 * k) (nI N) (nI n) (nI i) (wH L xs g r rs) = some (nI 0, wH L xs g r rs) := by
  intro m
  induction m with
  | zero => intro i h1 h2; omega
  | succ m ih =>
    intro i h1 h2
    unfold f_X5_tellsPlaces_L2
    by_cases e : i = b
    · subst e
      rcases a_sp (g (11 + k) i) with hx | ⟨j, hj, hx⟩
      · simp (disch := omega) only [q_pos, q_pos', q_lt, q_le, q_eq, q_add, q_sub, q_mul, ob_s, if_pos, if_neg, not_false_eq_true, q_m1', q_div, rm_N, l_0, l_1, l_2, l_3, l_4, l_5, l_6, l_7, l_8, l_10, l_11, l_12, l_13, l_14, l_15, l_16, l_18, l_20, l_21, l_22, l_23, l_24, l_32, l_33, l_40, l_44, l_48, l_57, l_59, l_60, l_63, l_64, l_97, l_98, l_99, l_100, l_111, l_116, l_122, l_132, l_200, l_240, l_255, l_480, l_1000, l_1452, if_true, if_false, true_or, or_true, in_neg, in_m1, in_n, V1, V2, R1, R2, B1, B2, eq_self, wrr, war', ng1 hx]
      · have : ¬ j < n := fun h => hbad ⟨j, h, hx⟩
        simp (disch := omega) only [q_pos, q_pos', q_lt, q_le, q_eq, q_add, q_sub, q_mul, ob_s, if_pos, if_neg, not_false_eq_true, q_m1', q_div, rm_N, l_0, l_1, l_2, l_3, l_4, l_5, l_6, l_7, l_8, l_10, l_11, l_12, l_13, l_14, l_15, l_16, l_18, l_20, l_21, l_22, l_23, l_24, l_32, l_33, l_40, l_44, l_48, l_57, l_59, l_60, l_63, l_64, l_97, l_98, l_99, l_100, l_111, l_116, l_122, l_132, l_200, l_240, l_255, l_480, l_1000, l_1452, if_true, if_false, true_or, or_true, in_neg, in_m1, in_n, V1, V2, R1, R2, B1, B2, eq_self, wrr, war', hx]
    · obtain ⟨j, a2, a1⟩ := hg i (by omega)
      simp (disch := omega) only [q_pos, q_pos', q_lt, q_le, q_eq, q_add, q_sub, q_mul, ob_s, if_pos, if_neg, not_false_eq_true, q_m1', q_div, rm_N, l_0, l_1, l_2, l_3, l_4, l_5, l_6, l_7, l_8, l_10, l_11, l_12, l_13, l_14, l_15, l_16, l_18, l_20, l_21, l_22, l_23, l_24, l_32, l_33, l_40, l_44, l_48, l_57, l_59, l_60, l_63, l_64, l_97, l_98, l_99, l_100, l_111, l_116, l_122, l_132, l_200, l_240, l_255, l_480, l_1000, l_1452, if_true, if_false, true_or, or_true, in_neg, in_m1, in_n, V1, V2, R1, R2, B1, B2, eq_self, wrr, war', a1]
      exact ih (i + 1) (by omega) (by omega)
theorem mtk_good (hk : k < 8) (hN : N ≤ 40) (hn : n ≤ 480) {it : Nat → Nat} {x : Int32} (hit : ∀ i, i < N → g 52 (40 * k + i) = nI (it i) ∧ it i < n) : ∀ m i, i ≤ N → N < i + m → ∃ m', f_X12_take_L75 m 84 x (nI n) (nI k) (nI N) (nI i) (wH L xs g r rs) = f_X12_take_L75 (m' + 1) 84 x (nI n) (nI k) (nI N) (nI N) (wH L xs g r rs) := by
  intro m
  induction m with
  | zero => intro i h1 h2; omega
  | succ m ih =>
    intro i h1 h2
    by_cases e : i = N
    · subst e
      exact ⟨m, rfl⟩
    · obtain ⟨a1, a2⟩ := hit i (by omega)
      obtain ⟨m', e1⟩ := ih (i + 1) (by omega) (by omega)
      refine ⟨m', ?_⟩
      rw [← e1]
      conv => lhs; unfold f_X12_take_L75
      rw [if_neg (show ¬ nI N ≤ nI i from nI_ge (by omega) (by omega)), wr_84_2, ob_s, show (40 : Int32) * nI k + nI i = nI (40 * k + i) by rw [l_40, q_mul, q_add], wa_87' (by omega), ob_s, a1, l_0, l_1, in_m1 (by omega) (by omega), ob_s, if_pos a2, if_neg (show ¬ nI 1 = nI 0 by decide), nI_add]
theorem mtk_bad (hk : k < 8) (hN : N ≤ 40) (hn : n ≤ 480) {b : Nat} {x : Int32} (hb : b < N) (hg : ∀ i, i < b → ∃ j, j < n ∧ g 52 (40 * k + i) = nI j) (hbad : ¬ ∃ j, j < n ∧ g 52 (40 * k + b) = nI j) : ∀ m i, i ≤ b → b < i + m → f_X12_take_L75 m 84 x (nI n) (nI k) (nI N) (nI i) (wH L xs g r rs) = some (-1000010 - nI 2, wH L xs (gs g 66 4 (nI 2)) r rs) := by
  intro m
  induction m with
  | zero => intro i h1 h2; omega
  | succ m ih =>
    intro i h1 h2
    unfold f_X12_take_L75
    rw [if_neg (show ¬ nI N ≤ nI i from nI_ge (by omega) (by omega)), wr_84_2, ob_s, show (40 : Int32) * nI k + nI i = nI (40 * k + i) by rw [l_40, q_mul, q_add], wa_87' (by omega), ob_s]
    by_cases e : i = b
    · subst e
      rcases a_sp (g 52 (40 * k + i)) with hx | ⟨j, hj, hx⟩
      · rw [l_0, in_neg hx, ob_s, if_pos rfl, wk_84, if_pos rfl, m_found, ob_s]
        rfl
      · have : ¬ j < n := fun h => hbad ⟨j, h, hx⟩
        rw [hx, l_0, l_1, in_m1 (by omega) (by omega), ob_s, if_neg this, if_pos rfl, wk_84, if_pos rfl, m_found, ob_s]
        rfl
    · obtain ⟨j, a2, a1⟩ := hg i (by omega)
      rw [a1, l_0, l_1, in_m1 (by omega) (by omega), ob_s, if_pos a2, if_neg (show ¬ nI 1 = nI 0 by decide), nI_add]
      exact ih (i + 1) (by omega) (by omega)
theorem tkw_L (hv : v < 4) (hk : k < 8) (hN : N ≤ 40) {it : Nat → Nat} : ∀ m i d p g, i + d = N → d < m → vOK g (13 + v) n p → (∀ i, i < N → g (11 + k) i = nI (it i) ∧ it i < n) → ∃ g', f_X11_take_L107 m 3 (nI N) (44 + 2 * k) (vO (13 + v)) (nI i) (wH L xs g r rs) = some (nI N, wH L xs g' r rs) ∧ vOK g' (13 + v) n (tkB it i d p) ∧ vFr (13 + v) g g' := by
  intro m
  induction m with
  | zero => intro i d p g h1 h2; omega
  | succ m ih =>
    intro i d p g h1 h2 hc hit
    unfold f_X11_take_L107
    cases d with
    | zero =>
      have : i = N := by omega
      subst this
      exact ⟨g, by simp (disch := omega) only [q_pos, q_pos', q_lt, q_le, q_eq, q_add, q_sub, q_mul, ob_s, if_pos, if_neg, not_false_eq_true, q_m1', q_div, rm_N, l_0, l_1, l_2, l_3, l_4, l_5, l_6, l_7, l_8, l_10, l_11, l_12, l_13, l_14, l_15, l_16, l_18, l_20, l_21, l_22, l_23, l_24, l_32, l_33, l_40, l_44, l_48, l_57, l_59, l_60, l_63, l_64, l_97, l_98, l_99, l_100, l_111, l_116, l_122, l_132, l_200, l_240, l_255, l_480, l_1000, l_1452, if_true, if_false, true_or, or_true, in_neg, in_m1, in_n, V1, V2, R1, R2, B1, B2, eq_self], hc, vFr.rfl'⟩
    | succ d =>
      obtain ⟨a1, a2⟩ := hit i (by omega)
      obtain ⟨g1, b1, b2, b3⟩ := e_write (L := L) (xs := xs) (r := r) (rs := rs) (show 13 + v < 25 by omega) hc a2 true
      obtain ⟨g', c1, c2, c3⟩ := ih (i + 1) d _ g1 (by omega) (by omega) b2 (fun q hq => by rw [vFr_q b3 _ _ (by omega) (by omega)]; exact hit q hq)
      refine ⟨g', ?_, c2, b3.trans c3⟩
      have b1' : f_X1_write (vO (13 + v)) (nI (it i)) (nI 1) (wH L xs g r rs) = some (wH L xs g1 r rs) := b1
      simp (disch := omega) only [q_pos, q_pos', q_lt, q_le, q_eq, q_add, q_sub, q_mul, ob_s, if_pos, if_neg, not_false_eq_true, q_m1', q_div, rm_N, l_0, l_1, l_2, l_3, l_4, l_5, l_6, l_7, l_8, l_10, l_11, l_12, l_13, l_14, l_15, l_16, l_18, l_20, l_21, l_22, l_23, l_24, l_32, l_33, l_40, l_44, l_48, l_57, l_59, l_60, l_63, l_64, l_97, l_98, l_99, l_100, l_111, l_116, l_122, l_132, l_200, l_240, l_255, l_480, l_1000, l_1452, if_true, if_false, true_or, or_true, in_neg, in_m1, in_n, V1, V2, R1, R2, B1, B2, eq_self, wrr, war', a1, wkv, b1']
      exact c1
theorem mtkw_L (hv : v < 4) (hk : k < 8) (hN : N ≤ 40) {it : Nat → Nat} : ∀ m i d p g, i + d = N → d < m → mOK g 55 (33 * v) n p → (∀ i, i < N → g 52 (40 * k + i) = nI (it i) ∧ it i < n) → ∃ g', f_X12_take_L129 m 84 (nI v) (nI k) (nI N) (nI i) (wH L xs g r rs) = some (nI N, wH L xs g' r rs) ∧ mOK g' 55 (33 * v) n (tkB it i d p) ∧ mFr 55 (33 * v) (33 * v + 33) g g' := by
  intro m
  induction m with
  | zero => intro i d p g h1 h2; omega
  | succ m ih =>
    intro i d p g h1 h2 hm hit
    have hn := hm.1
    unfold f_X12_take_L129
    cases d with
    | zero =>
      have : i = N := by omega
      subst this
      exact ⟨g, by simp (disch := omega) only [q_pos, q_pos', q_lt, q_le, q_eq, q_add, q_sub, q_mul, ob_s, if_pos, if_neg, not_false_eq_true, q_m1', q_div, rm_N, l_0, l_1, l_2, l_3, l_4, l_5, l_6, l_7, l_8, l_10, l_11, l_12, l_13, l_14, l_15, l_16, l_18, l_20, l_21, l_22, l_23, l_24, l_32, l_33, l_40, l_44, l_48, l_57, l_59, l_60, l_63, l_64, l_97, l_98, l_99, l_100, l_111, l_116, l_122, l_132, l_200, l_240, l_255, l_480, l_1000, l_1452, if_true, if_false, true_or, or_true, in_neg, in_m1, in_n, V1, V2, R1, R2, B1, B2, eq_self], hm, mFr.rfl'⟩
    | succ d =>
      obtain ⟨a1, a2⟩ := hit i (by omega)
      obtain ⟨g1, b1, b2, b3⟩ := m_puts (L := L) (xs := xs) (r := r) (rs := rs) hr90 hw90 hv hm.2.2.2 (show it i < 480 by omega) true
      have b3' : mFr 55 (33 * v) (33 * v + 33) g g1 := ⟨b3.1, fun q hq => b3.2 q (by omega)⟩
      have hm1 : mOK g1 55 (33 * v) n (fun t => if t = it i then true else p t) := ⟨hn, by rw [b3.2 _ (by omega)]; exact hm.2.1, fun q hq => by
        show (if q = it i then true else p q) = false
        rw [if_neg (by omega)]; exact hm.2.2.1 q hq, b2⟩
      obtain ⟨g', c1, c2, c3⟩ := ih (i + 1) d _ g1 (by omega) (by omega) hm1 (fun q hq => by rw [b3.1 52 (by omega)]; exact hit q hq)
      refine ⟨g', ?_, c2, b3'.trans c3⟩
      have b1' : f_X12_puts 90 (nI v) (nI (it i)) (nI 1) (wH L xs g r rs) = some (wH L xs g1 r rs) := b1
      simp (disch := omega) only [q_pos, q_pos', q_lt, q_le, q_eq, q_add, q_sub, q_mul, ob_s, if_pos, if_neg, not_false_eq_true, q_m1', q_div, rm_N, l_0, l_1, l_2, l_3, l_4, l_5, l_6, l_7, l_8, l_10, l_11, l_12, l_13, l_14, l_15, l_16, l_18, l_20, l_21, l_22, l_23, l_24, l_32, l_33, l_40, l_44, l_48, l_57, l_59, l_60, l_63, l_64, l_97, l_98, l_99, l_100, l_111, l_116, l_122, l_132, l_200, l_240, l_255, l_480, l_1000, l_1452, if_true, if_false, true_or, or_true, in_neg, in_m1, in_n, V1, V2, R1, R2, B1, B2, eq_self, wk_84, wr_84_0, wr_84_1, wr_84_2, wr_84_3, wr_84_5, wr_84_13, wr_84_14, wr_84_15, wr_84_17, wr_84_18, wr_84_20, wr_84_21, wr_84_23, wr_84_24, wr_84_25, wr_84_26, wi_84_4, wp_84_4, wi_84_6, wp_84_6, wi_84_7, wp_84_7, wi_84_8, wp_84_8, wi_84_9, wp_84_9, wi_84_10, wp_84_10, wi_84_11, wp_84_11, wi_84_12, wp_84_12, wi_84_16, wp_84_16, wi_84_19, wp_84_19, wi_84_22, wp_84_22, wi_84_27, wp_84_27, wa_87', a1, b1']
      exact c1
theorem o_take (R : Rel g r rs) (x y z u : Int32) : Op L xs g r rs (f_X11_take 3 x y z u) (f_X12_take 84 x y z u) := by
  rcases sV x with ⟨v, hv, rfl⟩ | ⟨h1, h2⟩
  · obtain ⟨n0, p, hc, hm⟩ := R.vec v hv
    rcases sR z with ⟨k, hk, rfl⟩ | ⟨h1, h2⟩
    · by_cases ey : (480 : Int32) < y
      · refine RO.op ?_ R
        unfold RO f_X11_take f_X12_take
        refine ⟨-1000001, ?_, ?_⟩
        · rw [V1 hv, ob_s, if_neg n10, R1 hk, ob_s, if_neg n10, if_pos ey]
        · rw [V2 hv, ob_s, if_neg n10, R2 hk, ob_s, if_neg n10, if_pos ey]
      · by_cases eu : u ≤ (40 : Int32)
        · by_cases e0 : 0 ≤ y
          · obtain ⟨n, hn0, rfl⟩ : ∃ n, n < 2147483648 ∧ y = nI n := by
              rcases a_sp y with h | h
              · exact absurd e0 (Int32.not_le.mpr h)
              · exact h
            have hn : n ≤ 480 := by
              rw [l_480, q_lt (by omega) (by omega)] at ey
              omega
            obtain ⟨l, hl, h4, h51, h5, hcc⟩ := row_cases R.row hk
            have l1 : (1 : Int32) = nI 1 := rfl
            rcases hcc with ⟨c1, c2⟩ | ⟨ln, ht, c1, c2, c3⟩
            · rw [l1] at c1
              refine fnd_n (f := 1) _ _ R ?_ ?_
              · unfold f_X11_take
                rw [V1 hv, ob_s, if_neg n10, R1 hk, ob_s, if_neg n10, if_neg ey, if_pos eu, if_pos e0, wr_3_0, ob_s, wq_4' hk, ob_s, wir1 hk, ob_s, c1, if_neg n10, wk_3, if_pos rfl, e_found, ob_s]
                rfl
              · unfold f_X12_take
                rw [V2 hv, ob_s, if_neg n10, R2 hk, ob_s, if_neg n10, if_neg ey, if_pos eu, if_pos e0, wk_84, if_pos rfl, m_missing hk true (show gs g 0 11 (nI 1) 50 k = -1000000 by rw [gs_oc (by omega)]; exact c2), ob_s, Bool.toNat_true, if_neg n10, wk_84, if_pos rfl, m_found, ob_s]
                rfl
            · have mm : ∀ u v, f_X12_isMissing 84 (nI k) (wH L xs (gs g 0 u v) r rs) = some (nI 0, wH L xs (gs g 0 u v) r rs) := fun u v => m_missing hk false ⟨ln, ht, by rw [gs_oc (by omega)]; exact c2⟩
              have m51 : ∀ u v, gs g 0 u v 51 k = nI l := fun u v => by rw [gs_oc (by omega)]; exact h51
              have PC : ∀ (g' : xS), g' 51 k = nI l → (∃ N, u = nI N ∧ N ≤ l ∧ f_X5_hasPart (44 + 2 * k) 0 u (wH L xs g r rs) = some (nI 1, wH L xs g r rs) ∧ f_X12_isPart 84 (nI k) 0 u (wH L xs g' r rs) = some (nI 1, wH L xs g' r rs)) ∨ (f_X5_hasPart (44 + 2 * k) 0 u (wH L xs g r rs) = some (nI 0, wH L xs g r rs) ∧ f_X12_isPart 84 (nI k) 0 u (wH L xs g' r rs) = some (nI 0, wH L xs g' r rs)) := by
                intro g' hg'
                rcases parts (L := L) (xs := xs) (r := r) (rs := rs) hk hl h4 g' hg' 0 u with ⟨i, N, -, q1, q2, q3, q4⟩ | h
                · exact Or.inl ⟨N, q1, by omega, q3, q4⟩
                · exact Or.inr h
              rcases PC (gs g 0 11 (nI 2)) (m51 _ _) with ⟨N, rfl, hNl, q2, q3⟩ | ⟨q1, q2⟩
              · by_cases hall : ∀ i, i < N → ∃ j, j < n ∧ g (11 + k) i = nI j
                · obtain ⟨it, hit⟩ : ∃ it : Nat → Nat, ∀ i, i < N → g (11 + k) i = nI (it i) ∧ it i < n := by
                    refine ⟨fun i => (g (11 + k) i).toNatClampNeg, fun i hi => ?_⟩
                    obtain ⟨j, j1, j2⟩ := hall i hi
                    show g (11 + k) i = nI (g (11 + k) i).toNatClampNeg ∧ (g (11 + k) i).toNatClampNeg < n
                    rw [j2, nI_clamp (by omega)]
                    exact ⟨rfl, j1⟩
                  obtain ⟨o, h, hh⟩ := R.his
                  obtain ⟨g1, k1, k2, k3⟩ := e_keep (L := L) (xs := xs) (r := r) (rs := rs) hv hh.1 hh.2.1 hh.2.2.1 hh.2.2.2.1 hc
                  have hj : 13 + v < 25 := by omega
                  obtain ⟨g1', a1, a2, a3⟩ := e_clearTo (L := L) (xs := xs) (g := g1) (r := r) (rs := rs) hj hn
                  have it1 : ∀ i, i < N → g1' (11 + k) i = nI (it i) ∧ it i < n := fun i hi => by
                    rw [vFr_q a3 _ _ (by omega) (by omega), k3 _ _ (by omega) (by omega) (by omega) (by omega)]
                    exact hit i hi
                  obtain ⟨g2, b1, b2, b3⟩ := tkw_L (L := L) (xs := xs) (r := r) (rs := rs) hv hk (show N ≤ 40 by omega) xN 0 N _ g1' (by omega) (by unfold xN; omega) a2 it1
                  have a4 := a3.trans b3
                  have F2 : ∀ c q, ¬ (c = 1 ∧ q = 13 + v) → c ≠ 33 + v → ¬ (c = 0 ∧ q = 11) → gs g2 0 11 (nI 0) c q = g1 c q := by
                    intro c q x1 x2 x3
                    by_cases c0 : c = 0
                    · subst c0; rw [gs_ok (by omega), vFr_q a4 _ _ x1 (by omega)]
                    · rw [gs_oc c0, vFr_q a4 _ _ x1 (by omega)]
                  have F2' : ∀ c q, c ≠ 47 → c ≠ 5 → ¬ (c = 1 ∧ 1 ≤ q ∧ q < 13) → ¬ (21 ≤ c ∧ c < 33) → ¬ (c = 1 ∧ q = 13 + v) → c ≠ 33 + v → ¬ (c = 0 ∧ q = 11) → gs g2 0 11 (nI 0) c q = g c q := fun c q x1 x2 x3 x4 x5 x6 x7 => (F2 c q x5 x6 x7).trans (k3 c q x1 x2 x3 x4)
                  obtain ⟨g3, n1, n2, n3⟩ := m_notes (L := L) (xs := xs) (r := r) (rs := rs) (g := gs g2 0 11 (nI 0)) hh.2.1 (by rw [F2' _ _ (by omega) (by omega) (by omega) (by omega) (by omega) (by omega) (by omega)]; exact hh.2.2.2.2.1)
                  obtain ⟨g3', e1, e2, e3⟩ := m_empties (L := L) (xs := xs) (g := g3) (r := r) (rs := rs) hv hn
                  have it2 : ∀ i, i < N → gs g2 0 11 (nI 0) 52 (40 * k + i) = nI (it i) ∧ it i < n := fun i hi => by
                    rw [F2' _ _ (by omega) (by omega) (by omega) (by omega) (by omega) (by omega) (by omega), ← h5 i (by omega)]
                    exact hit i hi
                  have it3 : ∀ i, i < N → g3' 52 (40 * k + i) = nI (it i) ∧ it i < n := fun i hi => by
                    rw [e3.1 52 (by omega), n3 _ _ (by omega) (by omega)]
                    exact it2 i hi
                  obtain ⟨g4, f1, f2, f3⟩ := mtkw_L (L := L) (xs := xs) (r := r) (rs := rs) hv hk (show N ≤ 40 by omega) xN 0 N _ g3' (by omega) (by unfold xN; omega) e2 it3
                  have F4 := mFr_q (e3.trans f3)
                  have b2' : vOK (gs g2 0 11 (nI 0)) (13 + v) n (tkB it 0 N fun _ => false) := vOK_eq b2 (by rw [gs_oc (by omega)]) (fun b _ => by rw [gs_oc (by omega)])
                  have f2' : mOK (gs g4 66 4 (nI 0)) 55 (33 * v) n (tkB it 0 N fun _ => false) := mOK_eq f2 (fun q _ => by rw [gs_oc (by omega)])
                  refine ⟨nI (fb_ct (tkB it 0 N fun _ => false) n), gs g2 0 11 (nI 0), r, rs, gs g4 66 4 (nI 0), ?_, ?_, act_std R hv hh hm k2 k3 b2' F2 n2 n3 f2' (fun c q x1 x2 => ?_) ?_, by omega, by omega⟩
                  · have tl := tls_good (L := L) (xs := xs) (r := r) (rs := rs) hk (show N ≤ 40 by omega) hn hit xN 0 (by omega) (by unfold xN; omega)
                    unfold f_X11_take f_X5_tellsPlaces
                    rw [V1 hv, ob_s, if_neg n10, R1 hk, ob_s, if_neg n10, if_neg ey, if_pos eu, if_pos e0, wr_3_0, ob_s, wq_4' hk, ob_s, wir1 hk, ob_s, c1, if_pos n00, wkr hk, if_pos rfl, q2, ob_s, if_neg n10, wkr hk, if_pos rfl, l_0, tl, ob_s, if_neg (show ¬ nI 1 = nI 0 by decide), wk_3, if_pos rfl, k1, ob_s, wkv hj, if_pos rfl, a1, ob_s, b1, ob_s, wkv hj, if_pos rfl, e_countOnes hj b2, ob_s, wk_3, if_pos rfl, e_fine, ob_s]
                  · obtain ⟨m', tl⟩ := mtk_good (L := L) (xs := xs) (r := r) (rs := rs) (x := nI v) hk (show N ≤ 40 by omega) hn it2 xN 0 (by omega) (by unfold xN; omega)
                    have q5 : f_X12_isPart 84 (nI k) 0 (nI N) (wH L xs (gs g2 0 11 (nI 0)) r rs) = some (nI 1, wH L xs (gs g2 0 11 (nI 0)) r rs) := by
                      rcases PC (gs g2 0 11 (nI 0)) (by rw [F2' _ _ (by omega) (by omega) (by omega) (by omega) (by omega) (by omega) (by omega)]; exact h51) with ⟨N', -, -, -, w⟩ | ⟨w, -⟩
                      · exact w
                      · rw [q2] at w
                        exact absurd (congrArg Prod.fst (Option.some.inj w)) (show ¬ nI 1 = nI 0 by decide)
                    have q6 : f_X12_isMissing 84 (nI k) (wH L xs (gs g2 0 11 (nI 0)) r rs) = some (nI 0, wH L xs (gs g2 0 11 (nI 0)) r rs) := m_missing hk false ⟨ln, ht, by rw [F2' _ _ (by omega) (by omega) (by omega) (by omega) (by omega) (by omega) (by omega)]; exact c2⟩
                    unfold f_X12_take
                    rw [V2 hv, ob_s, if_neg n10, R2 hk, ob_s, if_neg n10, if_neg ey, if_pos eu, if_pos e0, wk_84, if_pos rfl, q6, ob_s, if_pos n00, wk_84, if_pos rfl, q5, ob_s, if_neg n10, l_0, tl]
                    unfold f_X12_take_L75
                    rw [if_pos (Int32.le_refl _), wk_84, if_pos rfl, n1, ob_s, wk_84, if_pos rfl, e1, ob_s, l_0, f1, ob_s, wk_84, if_pos rfl, m_allOnes hv f2, ob_s, wk_84, if_pos rfl, m_well, ob_s]
                  · by_cases c6 : c = 66
                    · subst c6; rw [gs_ok (by omega), F4 _ _ (by omega)]
                    · rw [gs_oc c6, F4 _ _ x1]
                  · rw [gs_same, gs_oc (by omega), F4 _ _ (by omega), n3 _ _ (by omega) (by omega), gs_same]
                · have hex : ∃ b, b < N ∧ ¬ ∃ j, j < n ∧ g (11 + k) b = nI j := by
                    apply Classical.byContradiction
                    intro hne
                    exact hall (fun i hi => Classical.byContradiction fun h => hne ⟨i, hi, h⟩)
                  obtain ⟨b, ⟨hb1, hb2⟩, hb3⟩ := pk_least _ hex
                  have hgood : ∀ i, i < b → ∃ j, j < n ∧ g (11 + k) i = nI j := fun i hi => Classical.byContradiction fun h => hb3 i hi ⟨by omega, h⟩
                  refine fnd_n (f := 2) _ _ R ?_ ?_
                  · have tl := tls_bad (L := L) (xs := xs) (r := r) (rs := rs) hk (show N ≤ 40 by omega) hn hb1 hgood hb2 xN 0 (by omega) (by unfold xN; omega)
                    unfold f_X11_take f_X5_tellsPlaces
                    rw [V1 hv, ob_s, if_neg n10, R1 hk, ob_s, if_neg n10, if_neg ey, if_pos eu, if_pos e0, wr_3_0, ob_s, wq_4' hk, ob_s, wir1 hk, ob_s, c1, if_pos n00, wkr hk, if_pos rfl, q2, ob_s, if_neg n10, wkr hk, if_pos rfl, l_0, tl, ob_s, if_pos rfl, wk_3, if_pos rfl, e_found, ob_s]
                    rfl
                  · have hz : ∀ i, i < 40 → gs g 0 11 (nI 2) 52 (40 * k + i) = g (11 + k) i := fun i hi => by rw [gs_oc (by omega), h5 i hi]
                    have tl := mtk_bad (L := L) (xs := xs) (r := r) (rs := rs) (g := gs g 0 11 (nI 2)) (x := nI v) hk (show N ≤ 40 by omega) hn hb1 (fun i hi => by rw [hz i (by omega)]; exact hgood i hi) (by rw [hz b (by omega)]; exact hb2) xN 0 (by omega) (by unfold xN; omega)
                    unfold f_X12_take
                    rw [V2 hv, ob_s, if_neg n10, R2 hk, ob_s, if_neg n10, if_neg ey, if_pos eu, if_pos e0, wk_84, if_pos rfl, mm, ob_s, if_pos n00, wk_84, if_pos rfl, q3, ob_s, if_neg n10, l_0, tl]
              · refine fnd_n (f := 2) _ _ R ?_ ?_
                · unfold f_X11_take
                  rw [V1 hv, ob_s, if_neg n10, R1 hk, ob_s, if_neg n10, if_neg ey, if_pos eu, if_pos e0, wr_3_0, ob_s, wq_4' hk, ob_s, wir1 hk, ob_s, c1, if_pos n00, wkr hk, if_pos rfl, q1, ob_s, if_pos n00, wk_3, if_pos rfl, e_found, ob_s]
                  rfl
                · unfold f_X12_take
                  rw [V2 hv, ob_s, if_neg n10, R2 hk, ob_s, if_neg n10, if_neg ey, if_pos eu, if_pos e0, wk_84, if_pos rfl, mm, ob_s, if_pos n00, wk_84, if_pos rfl, q2, ob_s, if_pos n00, wk_84, if_pos rfl, m_found, ob_s]
                  rfl
          · refine fnd_n (f := 4) _ _ R ?_ ?_
            · unfold f_X11_take
              rw [V1 hv, ob_s, if_neg n10, R1 hk, ob_s, if_neg n10, if_neg ey, if_pos eu, if_neg e0, wk_3, if_pos rfl, e_found, ob_s]
              rfl
            · unfold f_X12_take
              rw [V2 hv, ob_s, if_neg n10, R2 hk, ob_s, if_neg n10, if_neg ey, if_pos eu, if_neg e0, wk_84, if_pos rfl, m_found, ob_s]
              rfl
        · refine RO.op ?_ R
          unfold RO f_X11_take f_X12_take
          refine ⟨-1000001, ?_, ?_⟩
          · rw [V1 hv, ob_s, if_neg n10, R1 hk, ob_s, if_neg n10, if_neg ey, if_neg eu]
          · rw [V2 hv, ob_s, if_neg n10, R2 hk, ob_s, if_neg n10, if_neg ey, if_neg eu]
    · refine RO.op ?_ R
      unfold RO f_X11_take f_X12_take
      refine ⟨-1000001, ?_, ?_⟩
      · rw [V1 hv, ob_s, if_neg n10, h1, ob_s, if_pos n00]
      · rw [V2 hv, ob_s, if_neg n10, h2, ob_s, if_pos n00]
  · refine RO.op ?_ R
    unfold RO f_X11_take f_X12_take
    refine ⟨-1000001, ?_, ?_⟩
    · rw [h1, ob_s, if_pos n00]
    · rw [h2, ob_s, if_pos n00]
end TAKE
