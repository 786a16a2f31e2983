theorem n10 : ¬ nI 1 = 0 := by decide
theorem n00 : nI 0 = 0 := by decide
section ROWB
variable {L : Nat} {xs : Nat → Int32} {g : xS} {r : Nat → Option Nat} {rs : xH} {k l n : Nat}
theorem wcp {a b i j n : Nat} (ha : a < 8) (hb : b < 8) (h1 : i + n ≤ 40) (h2 : j + n ≤ 40) : xcp (wH L xs g r rs) (45 + 2 * a) (nI i) (45 + 2 * b) (nI j) (nI n) = some (wH L xs (va_up g (11 + b) (va_cpy (g (11 + a)) (g (11 + b)) i j n)) r rs) := by
  unfold xcp
  rw [wmr ha, wmr hb]
  show (if _ then none else some _) = _
  rw [if_neg, nI_clamp (show i < 2147483648 by omega), nI_clamp (show j < 2147483648 by omega), nI_clamp (show n < 2147483648 by omega), wmrs hb]
  rw [nI_clamp (show i < 2147483648 by omega), nI_clamp (show j < 2147483648 by omega), nI_clamp (show n < 2147483648 by omega)]
  intro z
  rcases z with z | z | z | z | z | z | z
  · omega
  · omega
  · exact q_pos (show i < 2147483648 by omega) z
  · exact q_pos (show j < 2147483648 by omega) z
  · exact q_pos (show n < 2147483648 by omega) z
  · omega
  · omega
theorem cp1_L {a i N : Nat} {u v : Int32} (ha : a < 8) (h1 : i + N ≤ 40) : ∀ (m t : Nat) (g : xS), t ≤ N → N < t + m → ∃ g', f_X12_copy_L92 m 84 (nI a) (nI i) u v (nI N) (nI t) (wH L xs g r rs) = some (nI N, wH L xs g' r rs) ∧ (∀ q, t ≤ q → q < N → g' 53 q = g 52 (40 * a + i + q)) ∧ (∀ q, q < t → g' 53 q = g 53 q) ∧ ∀ c, c ≠ 53 → g' c = g c := by
  intro m
  induction m with
  | zero => intro t g h1 h2; omega
  | succ m ih =>
    intro t g h3 h2
    unfold f_X12_copy_L92
    by_cases ht : t = N
    · subst ht
      exact ⟨g, by simp (disch := omega) only [q_pos, q_pos', q_lt, q_le, q_eq, q_add, q_sub, q_mul, ob_s, if_pos, if_neg, not_false_eq_true, q_m1', q_div, rm_N, l_0, l_1, l_2, l_3, l_4, l_5, l_6, l_7, l_8, l_10, l_11, l_12, l_13, l_14, l_15, l_16, l_18, l_20, l_21, l_22, l_23, l_24, l_32, l_33, l_40, l_44, l_48, l_57, l_59, l_60, l_63, l_64, l_97, l_98, l_99, l_100, l_111, l_116, l_122, l_132, l_200, l_240, l_255, l_480, l_1000, l_1452, if_true, if_false, true_or, or_true, in_neg, in_m1, in_n, V1, V2, R1, R2, B1, B2, eq_self], fun b h1 h2 => by omega, fun b _ => rfl, fun _ _ => rfl⟩
    · obtain ⟨g', e1, e2, e3, e4⟩ := ih (t + 1) (gs g 53 t (g 52 (40 * a + i + t))) (by omega) (by omega)
      refine ⟨g', ?_, fun b h1 h2 => ?_, fun b hb => ?_, fun c hc => by rw [e4 c hc, gs_oc hc]⟩
      · simp (disch := omega) only [q_pos, q_pos', q_lt, q_le, q_eq, q_add, q_sub, q_mul, ob_s, if_pos, if_neg, not_false_eq_true, q_m1', q_div, rm_N, l_0, l_1, l_2, l_3, l_4, l_5, l_6, l_7, l_8, l_10, l_11, l_12, l_13, l_14, l_15, l_16, l_18, l_20, l_21, l_22, l_23, l_24, l_32, l_33, l_40, l_44, l_48, l_57, l_59, l_60, l_63, l_64, l_97, l_98, l_99, l_100, l_111, l_116, l_122, l_132, l_200, l_240, l_255, l_480, l_1000, l_1452, if_true, if_false, true_or, or_true, in_neg, in_m1, in_n, V1, V2, R1, R2, B1, B2, eq_self, wk_84, wr_84_0, wr_84_1, wr_84_2, wr_84_3, wr_84_5, wr_84_13, wr_84_14, wr_84_15, wr_84_17, wr_84_18, wr_84_20, wr_84_21, wr_84_23, wr_84_24, wr_84_25, wr_84_26, wi_84_4, wp_84_4, wi_84_6, wp_84_6, wi_84_7, wp_84_7, wi_84_8, wp_84_8, wi_84_9, wp_84_9, wi_84_10, wp_84_10, wi_84_11, wp_84_11, wi_84_12, wp_84_12, wi_84_16, wp_84_16, wi_84_19, wp_84_19, wi_84_22, wp_84_22, wi_84_27, wp_84_27, wa_87', wu_88']
        exact e1
      · by_cases hb : b = t
        · subst hb
          rw [e3 _ (by omega), gs_same]
        · rw [e2 b (by omega) h2, gs_oc (by omega)]
      · rw [e3 b (by omega), gs_ok (by omega)]
theorem cp2_L {b j N : Nat} (hb : b < 8) (h1 : j + N ≤ 40) : ∀ (m t : Nat) (g : xS), t ≤ N → N < t + m → ∃ g', f_X12_copy_L129 m 84 (nI b) (nI j) (nI N) (nI t) (wH L xs g r rs) = some (nI N, wH L xs g' r rs) ∧ (∀ q, t ≤ q → q < N → g' 52 (40 * b + j + q) = g 53 q) ∧ (∀ q, (q < 40 * b + j + t ∨ 40 * b + j + N ≤ q) → g' 52 q = g 52 q) ∧ ∀ c, c ≠ 52 → g' c = g c := by
  intro m
  induction m with
  | zero => intro t g h1 h2; omega
  | succ m ih =>
    intro t g h3 h2
    unfold f_X12_copy_L129
    by_cases ht : t = N
    · subst ht
      exact ⟨g, by simp (disch := omega) only [q_pos, q_pos', q_lt, q_le, q_eq, q_add, q_sub, q_mul, ob_s, if_pos, if_neg, not_false_eq_true, q_m1', q_div, rm_N, l_0, l_1, l_2, l_3, l_4, l_5, l_6, l_7, l_8, l_10, l_11, l_12, l_13, l_14, l_15, l_16, l_18, l_20, l_21, l_22, l_23, l_24, l_32, l_33, l_40, l_44, l_48, l_57, l_59, l_60, l_63, l_64, l_97, l_98, l_99, l_100, l_111, l_116, l_122, l_132, l_200, l_240, l_255, l_480, l_1000, l_1452, if_true, if_false, true_or, or_true, in_neg, in_m1, in_n, V1, V2, R1, R2, B1, B2, eq_self], fun b h1 h2 => by omega, fun b _ => rfl, fun _ _ => rfl⟩
    · obtain ⟨g', e1, e2, e3, e4⟩ := ih (t + 1) (gs g 52 (40 * b + j + t) (g 53 t)) (by omega) (by omega)
      refine ⟨g', ?_, fun q h1 h2 => ?_, fun q hq => ?_, fun c hc => by rw [e4 c hc, gs_oc hc]⟩
      · simp (disch := omega) only [q_pos, q_pos', q_lt, q_le, q_eq, q_add, q_sub, q_mul, ob_s, if_pos, if_neg, not_false_eq_true, q_m1', q_div, rm_N, l_0, l_1, l_2, l_3, l_4, l_5, l_6, l_7, l_8, l_10, l_11, l_12, l_13, l_14, l_15, l_16, l_18, l_20, l_21, l_22, l_23, l_24, l_32, l_33, l_40, l_44, l_48, l_57, l_59, l_60, l_63, l_64, l_97, l_98, l_99, l_100, l_111, l_116, l_122, l_132, l_200, l_240, l_255, l_480, l_1000, l_1452, if_true, if_false, true_or, or_true, in_neg, in_m1, in_n, V1, V2, R1, R2, B1, B2, eq_self, wk_84, wr_84_0, wr_84_1, wr_84_2, wr_84_3, wr_84_5, wr_84_13, wr_84_14, wr_84_15, wr_84_17, wr_84_18, wr_84_20, wr_84_21, wr_84_23, wr_84_24, wr_84_25, wr_84_26, wi_84_4, wp_84_4, wi_84_6, wp_84_6, wi_84_7, wp_84_7, wi_84_8, wp_84_8, wi_84_9, wp_84_9, wi_84_10, wp_84_10, wi_84_11, wp_84_11, wi_84_12, wp_84_12, wi_84_16, wp_84_16, wi_84_19, wp_84_19, wi_84_22, wp_84_22, wi_84_27, wp_84_27, wa_88', wu_87']
        exact e1
      · by_cases hb : q = t
        · subst hb
          rw [e3 _ (by omega), gs_same]
        · rw [e2 q (by omega) h2, gs_oc (by omega)]
      · rw [e3 q (by omega), gs_ok (by omega)]
theorem o_copy (R : Rel g r rs) (x y z u v : Int32) : Op L xs g r rs (f_X11_copy 3 x y z u v) (f_X12_copy 84 x y z u v) := by
  rcases sR x with ⟨a, ha, rfl⟩ | ⟨h1, h2⟩
  · rcases sR z with ⟨b, hb, rfl⟩ | ⟨h1, h2⟩
    · obtain ⟨l, hl, h4, h51, h5, hc⟩ := row_cases R.row ha
      obtain ⟨l', hl', h4', h51', h5', hc'⟩ := row_cases R.row hb
      have l1 : (1 : Int32) = nI 1 := rfl
      rcases hc with ⟨c1, c2⟩ | ⟨t, ht, c1, c2, c3⟩
      · rw [l1] at c1
        refine fnd_n (f := 1) _ _ R ?_ ?_
        · unfold f_X11_copy
          rw [R1 ha, ob_s, if_neg n10, R1 hb, ob_s, if_neg n10, wr_3_0, ob_s, wq_4' ha, ob_s, ob_s, wq_4' hb, ob_s, wir1 ha, ob_s, c1, if_neg n10, wk_3, if_pos rfl, e_found, ob_s]
          rfl
        · unfold f_X12_copy
          rw [R2 ha, ob_s, if_neg n10, R2 hb, ob_s, if_neg n10, wk_84, if_pos rfl, m_missing ha true (show gs g 0 11 (nI 1) 50 a = -1000000 by rw [gs_oc (by omega)]; exact c2), ob_s, Bool.toNat_true, if_neg n10, wk_84, if_pos rfl, m_found, ob_s]
          rfl
      · have mm : ∀ u v, f_X12_isMissing 84 (nI a) (wH L xs (gs g 0 u v) r rs) = some (nI 0, wH L xs (gs g 0 u v) r rs) := fun u v => m_missing ha false ⟨t, ht, by rw [gs_oc (by omega)]; exact c2⟩
        rcases hc' with ⟨c1', c2'⟩ | ⟨t', ht', c1', c2', c3'⟩
        · rw [l1] at c1'
          refine fnd_n (f := 1) _ _ R ?_ ?_
          · unfold f_X11_copy
            rw [R1 ha, ob_s, if_neg n10, R1 hb, ob_s, if_neg n10, wr_3_0, ob_s, wq_4' ha, ob_s, ob_s, wq_4' hb, ob_s, wir1 ha, ob_s, c1, if_pos n00, wir1 hb, ob_s, c1', if_neg n10, wk_3, if_pos rfl, e_found, ob_s]
            rfl
          · unfold f_X12_copy
            rw [R2 ha, ob_s, if_neg n10, R2 hb, ob_s, if_neg n10, wk_84, if_pos rfl, mm, ob_s, if_pos n00, wk_84, if_pos rfl, m_missing hb true (show gs g 0 11 (nI 1) 50 b = -1000000 by rw [gs_oc (by omega)]; exact c2'), ob_s, Bool.toNat_true, if_neg n10, wk_84, if_pos rfl, m_found, ob_s]
            rfl
        · have mm' : ∀ u v, f_X12_isMissing 84 (nI b) (wH L xs (gs g 0 u v) r rs) = some (nI 0, wH L xs (gs g 0 u v) r rs) := fun u v => m_missing hb false ⟨t', ht', by rw [gs_oc (by omega)]; exact c2'⟩
          have m50 : ∀ u v, gs g 0 u v 50 a = nI t := fun u v => by rw [gs_oc (by omega)]; exact c2
          have m50' : ∀ u v, gs g 0 u v 50 b = nI t' := fun u v => by rw [gs_oc (by omega)]; exact c2'
          have m51 : ∀ u v, gs g 0 u v 51 a = nI l := fun u v => by rw [gs_oc (by omega)]; exact h51
          have m51' : ∀ u v, gs g 0 u v 51 b = nI l' := fun u v => by rw [gs_oc (by omega)]; exact h51'
          by_cases et : t = t'
          · subst et
            rcases parts (L := L) (xs := xs) (r := r) (rs := rs) ha hl h4 (gs g 0 11 (nI 2)) (m51 _ _) y v with ⟨i, N, rfl, rfl, q1, q2, -⟩ | ⟨q1, q2⟩
            · rcases parts (L := L) (xs := xs) (r := r) (rs := rs) hb hl' h4' (gs g 0 11 (nI 2)) (m51' _ _) u (nI N) with ⟨j, N', rfl, e2, p1, p2, -⟩ | ⟨p1, p2⟩
              · by_cases hN2 : N' < 2147483648 ∧ N < 2147483648
                · have eN : N = N' := by
                    have := e2
                    rw [q_eq hN2.2 hN2.1] at this
                    exact this
                  subst eN
                  obtain ⟨gc, hgc⟩ : ∃ gc, gc = gs (va_up g (11 + b) (va_cpy (g (11 + a)) (g (11 + b)) i j N)) 0 11 (nI 0) := ⟨_, rfl⟩
                  have Gc : ∀ c q, c ≠ 11 + b → ¬ (c = 0 ∧ q = 11) → gc c q = g c q := by
                    intro c q x1 x2
                    rw [hgc]
                    by_cases c0 : c = 0
                    · subst c0; rw [gs_ok (by omega), up_oc (by omega)]
                    · rw [gs_oc c0, up_oc x1]
                  obtain ⟨g2, b1, b2, b3, b4⟩ := cp1_L (L := L) (xs := xs) (r := r) (rs := rs) (u := nI b) (v := nI j) ha (show i + N ≤ 40 by omega) xN 0 gc (by omega) (by unfold xN; omega)
                  obtain ⟨g3, d1, d2, d3, d4⟩ := cp2_L (L := L) (xs := xs) (r := r) (rs := rs) hb (show j + N ≤ 40 by omega) xN 0 g2 (by omega) (by unfold xN; omega)
                  have G3 : ∀ c q, c ≠ 52 → c ≠ 53 → c ≠ 11 + b → ¬ (c = 0 ∧ q = 11) → ¬ (c = 66 ∧ q = 4) → gs g3 66 4 (nI 0) c q = g c q := by
                    intro c q x1 x2 x3 x4 x5
                    by_cases c6 : c = 66
                    · subst c6; rw [gs_ok (by omega), d4 _ (by omega), b4 _ (by omega), Gc _ _ (by omega) (by omega)]
                    · rw [gs_oc c6, d4 _ x1, b4 _ x2, Gc _ _ x3 x4]
                  have P1 : f_X12_isPart 84 (nI a) (nI i) (nI N) (wH L xs gc r rs) = some (nI 1, wH L xs gc r rs) := by
                    rcases parts (L := L) (xs := xs) (r := r) (rs := rs) ha hl h4 gc (by rw [Gc _ _ (by omega) (by omega)]; exact h51) (nI i) (nI N) with ⟨i', N', -, -, -, -, z⟩ | ⟨z, -⟩
                    · exact z
                    · rw [q2] at z
                      exact absurd (congrArg Prod.fst (Option.some.inj z)) (show ¬ nI 1 = nI 0 by decide)
                  have P2 : f_X12_isPart 84 (nI b) (nI j) (nI N) (wH L xs gc r rs) = some (nI 1, wH L xs gc r rs) := by
                    rcases parts (L := L) (xs := xs) (r := r) (rs := rs) hb hl' h4' gc (by rw [Gc _ _ (by omega) (by omega)]; exact h51') (nI j) (nI N) with ⟨i', N', -, -, -, -, z⟩ | ⟨z, -⟩
                    · exact z
                    · rw [p2] at z
                      exact absurd (congrArg Prod.fst (Option.some.inj z)) (show ¬ nI 1 = nI 0 by decide)
                  have M1 : f_X12_isMissing 84 (nI a) (wH L xs gc r rs) = some (nI 0, wH L xs gc r rs) := m_missing ha false ⟨t, ht, by rw [Gc _ _ (by omega) (by omega)]; exact c2⟩
                  have M2 : f_X12_isMissing 84 (nI b) (wH L xs gc r rs) = some (nI 0, wH L xs gc r rs) := m_missing hb false ⟨t, ht, by rw [Gc _ _ (by omega) (by omega)]; exact c2'⟩
                  have E1 : gc 50 a = nI t := by rw [Gc _ _ (by omega) (by omega)]; exact c2
                  have E2 : gc 50 b = nI t := by rw [Gc _ _ (by omega) (by omega)]; exact c2'
                  refine ⟨nI N, gc, r, rs, gs g3 66 4 (nI 0), ?_, ?_, row_fin R (fun k' hk' => ?_) ?_ (fun c q x1 x2 x3 => ?_), by omega, by omega⟩
                  · unfold f_X11_copy
                    rw [R1 ha, ob_s, if_neg n10, R1 hb, ob_s, if_neg n10, wr_3_0, ob_s, wq_4' ha, ob_s, ob_s, wq_4' hb, ob_s, wir1 ha, ob_s, c1, if_pos n00, wir1 hb, ob_s, c1', if_pos n00, wir2 ha, ob_s, wir2 hb, ob_s, c3, c3', if_pos rfl, wkr ha, if_pos rfl, q2, ob_s, if_neg n10, wkr hb, if_pos rfl, p2, ob_s, if_neg n10, wrr ha, ob_s, wrr hb, ob_s, wcp ha hb (by omega) (by omega), ob_s, wk_3, if_pos rfl, e_fine, ob_s, hgc]
                  · unfold f_X12_copy
                    rw [R2 ha, ob_s, if_neg n10, R2 hb, ob_s, if_neg n10, wk_84, if_pos rfl, M1, ob_s, if_pos n00, wk_84, if_pos rfl, M2, ob_s, if_pos n00, wr_84_0, ob_s, wa_85' ha, ob_s, ob_s, wa_85' hb, ob_s, E1, E2, if_pos rfl, wk_84, if_pos rfl, P1, ob_s, if_neg n10, wk_84, if_pos rfl, P2, ob_s, if_neg n10, l_0, b1, ob_s, d1, ob_s, wk_84, if_pos rfl, m_well, ob_s]
                  · have G : ∀ c, (c = 2 ∨ c = 3 ∨ c = 4 ∨ c = 50 ∨ c = 51) → gs g3 66 4 (nI 0) c k' = g c k' := fun c hc => G3 c k' (by omega) (by omega) (by omega) (by omega) (by omega)
                    rw [G 2 (by omega), G 3 (by omega), G 4 (by omega), G 50 (by omega), G 51 (by omega)]
                    refine ⟨(R.row k' hk').1, (R.row k' hk').2.1, fun i' hi' => ?_⟩
                    by_cases e : k' = b
                    · subst e
                      have e11 : gs g3 66 4 (nI 0) (11 + k') i' = va_cpy (g (11 + a)) (g (11 + k')) i j N i' := by
                        rw [gs_oc (by omega), d4 _ (by omega), b4 _ (by omega), hgc, gs_oc (by omega), up_c]
                      rw [e11, gs_oc (by omega)]
                      by_cases ei : j ≤ i' ∧ i' < j + N
                      · rw [pk_cpy_in ei.1 ei.2]
                        have := d2 (i' - j) (by omega) (by omega)
                        rw [show 40 * k' + j + (i' - j) = 40 * k' + i' by omega] at this
                        rw [this, b2 (i' - j) (by omega) (by omega), Gc _ _ (by omega) (by omega), h5 _ (by omega), show 40 * a + i + (i' - j) = 40 * a + (i + (i' - j)) by omega]
                      · rw [pk_cpy_out (by omega), d3 _ (by omega), b4 _ (by omega), Gc _ _ (by omega) (by omega)]
                        exact h5' i' hi'
                    · rw [G3 (11 + k') i' (by omega) (by omega) (by omega) (by omega) (by omega), gs_oc (by omega), d3 _ (by omega), b4 _ (by omega), Gc _ _ (by omega) (by omega)]
                      exact (R.row k' hk').2.2 i' hi'
                  · rw [gs_same, gs_oc (by omega), d4 _ (by omega), b4 _ (by omega), hgc, gs_same]
                  · exact G3 c q (by omega) (by omega) (by omega) x2 x3
                · omega
              · refine fnd_n (f := 2) _ _ R ?_ ?_
                · unfold f_X11_copy
                  rw [R1 ha, ob_s, if_neg n10, R1 hb, ob_s, if_neg n10, wr_3_0, ob_s, wq_4' ha, ob_s, ob_s, wq_4' hb, ob_s, wir1 ha, ob_s, c1, if_pos n00, wir1 hb, ob_s, c1', if_pos n00, wir2 ha, ob_s, wir2 hb, ob_s, c3, c3', if_pos rfl, wkr ha, if_pos rfl, q2, ob_s, if_neg n10, wkr hb, if_pos rfl, p1, ob_s, if_pos n00, wk_3, if_pos rfl, e_found, ob_s]
                  rfl
                · rcases parts (L := L) (xs := xs) (r := r) (rs := rs) ha hl h4 (gs g 0 11 (nI 2)) (m51 _ _) (nI i) (nI N) with ⟨i', N', -, -, -, -, zz⟩ | ⟨zz, -⟩
                  · unfold f_X12_copy
                    rw [R2 ha, ob_s, if_neg n10, R2 hb, ob_s, if_neg n10, wk_84, if_pos rfl, mm, ob_s, if_pos n00, wk_84, if_pos rfl, mm', ob_s, if_pos n00, wr_84_0, ob_s, wa_85' ha, ob_s, ob_s, wa_85' hb, ob_s, m50, m50', if_pos rfl, wk_84, if_pos rfl, zz, ob_s, if_neg n10, wk_84, if_pos rfl, p2, ob_s, if_pos n00, wk_84, if_pos rfl, m_found, ob_s]
                    rfl
                  · rw [q2] at zz
                    exact absurd (congrArg Prod.fst (Option.some.inj zz)) (show ¬ nI 1 = nI 0 by decide)
            · refine fnd_n (f := 2) _ _ R ?_ ?_
              · unfold f_X11_copy
                rw [R1 ha, ob_s, if_neg n10, R1 hb, ob_s, if_neg n10, wr_3_0, ob_s, wq_4' ha, ob_s, ob_s, wq_4' hb, ob_s, wir1 ha, ob_s, c1, if_pos n00, wir1 hb, ob_s, c1', if_pos n00, wir2 ha, ob_s, wir2 hb, ob_s, c3, c3', if_pos rfl, wkr ha, if_pos rfl, q1, ob_s, if_pos n00, wk_3, if_pos rfl, e_found, ob_s]
                rfl
              · unfold f_X12_copy
                rw [R2 ha, ob_s, if_neg n10, R2 hb, ob_s, if_neg n10, wk_84, if_pos rfl, mm, ob_s, if_pos n00, wk_84, if_pos rfl, mm', ob_s, if_pos n00, wr_84_0, ob_s, wa_85' ha, ob_s, ob_s, wa_85' hb, ob_s, m50, m50', if_pos rfl, wk_84, if_pos rfl, q2, ob_s, if_pos n00, wk_84, if_pos rfl, m_found, ob_s]
                rfl
          · refine fnd_n (f := 5) _ _ R ?_ ?_
            · unfold f_X11_copy
              rw [R1 ha, ob_s, if_neg n10, R1 hb, ob_s, if_neg n10, wr_3_0, ob_s, wq_4' ha, ob_s, ob_s, wq_4' hb, ob_s, wir1 ha, ob_s, c1, if_pos n00, wir1 hb, ob_s, c1', if_pos n00, wir2 ha, ob_s, wir2 hb, ob_s, c3, c3', if_neg (show ¬ nI t = nI t' by rw [q_eq (by omega) (by omega)]; exact et), wk_3, if_pos rfl, e_found, ob_s]
              rfl
            · unfold f_X12_copy
              rw [R2 ha, ob_s, if_neg n10, R2 hb, ob_s, if_neg n10, wk_84, if_pos rfl, mm, ob_s, if_pos n00, wk_84, if_pos rfl, mm', ob_s, if_pos n00, wr_84_0, ob_s, wa_85' ha, ob_s, ob_s, wa_85' hb, ob_s, m50, m50', if_neg (show ¬ nI t = nI t' by rw [q_eq (by omega) (by omega)]; exact et), wk_84, if_pos rfl, m_found, ob_s]
              rfl
    · refine RO.op ?_ R
      unfold RO f_X11_copy f_X12_copy
      exact ⟨-1000001, by simp (disch := omega) only [q_pos, q_pos', q_lt, q_le, q_eq, q_add, q_sub, q_mul, ob_s, if_pos, if_neg, not_false_eq_true, q_m1', q_div, rm_N, l_0, l_1, l_2, l_3, l_4, l_5, l_6, l_7, l_8, l_10, l_11, l_12, l_13, l_14, l_15, l_16, l_18, l_20, l_21, l_22, l_23, l_24, l_32, l_33, l_40, l_44, l_48, l_57, l_59, l_60, l_63, l_64, l_97, l_98, l_99, l_100, l_111, l_116, l_122, l_132, l_200, l_240, l_255, l_480, l_1000, l_1452, if_true, if_false, true_or, or_true, in_neg, in_m1, in_n, V1, V2, R1, R2, B1, B2, eq_self, wk_3, wk_10, wk_37, wk_42, wr_3_0, wr_3_1, wr_3_2, wr_3_3, wr_3_4, wr_3_5, wr_3_6, wr_3_7, wr_3_8, wi_3_9, wi_3_10, wi_3_11, wp_3_9, wp_3_10, wp_3_11, wr_10_0, wr_10_1, wi_10_2, wi_10_3, wp_10_2, wp_10_3, wr_37_0, wr_37_1, wr_37_2, wi_37_3, wp_37_3, wi_37_4, wp_37_4, wi_37_5, wp_37_5, wi_37_6, wp_37_6, wi_37_7, wp_37_7, wi_37_8, wp_37_8, wr_42_0, wi_42_1, wp_42_1, h1], by simp (disch := omega) only [q_pos, q_pos', q_lt, q_le, q_eq, q_add, q_sub, q_mul, ob_s, if_pos, if_neg, not_false_eq_true, q_m1', q_div, rm_N, l_0, l_1, l_2, l_3, l_4, l_5, l_6, l_7, l_8, l_10, l_11, l_12, l_13, l_14, l_15, l_16, l_18, l_20, l_21, l_22, l_23, l_24, l_32, l_33, l_40, l_44, l_48, l_57, l_59, l_60, l_63, l_64, l_97, l_98, l_99, l_100, l_111, l_116, l_122, l_132, l_200, l_240, l_255, l_480, l_1000, l_1452, if_true, if_false, true_or, or_true, in_neg, in_m1, in_n, V1, V2, R1, R2, B1, B2, eq_self, wk_84, wr_84_0, wr_84_1, wr_84_2, wr_84_3, wr_84_5, wr_84_13, wr_84_14, wr_84_15, wr_84_17, wr_84_18, wr_84_20, wr_84_21, wr_84_23, wr_84_24, wr_84_25, wr_84_26, wi_84_4, wp_84_4, wi_84_6, wp_84_6, wi_84_7, wp_84_7, wi_84_8, wp_84_8, wi_84_9, wp_84_9, wi_84_10, wp_84_10, wi_84_11, wp_84_11, wi_84_12, wp_84_12, wi_84_16, wp_84_16, wi_84_19, wp_84_19, wi_84_22, wp_84_22, wi_84_27, wp_84_27, h2]⟩
  · refine RO.op ?_ R
    unfold RO f_X11_copy f_X12_copy
    exact ⟨-1000001, by simp (disch := omega) only [q_pos, q_pos', q_lt, q_le, q_eq, q_add, q_sub, q_mul, ob_s, if_pos, if_neg, not_false_eq_true, q_m1', q_div, rm_N, l_0, l_1, l_2, l_3, l_4, l_5, l_6, l_7, l_8, l_10, l_11, l_12, l_13, l_14, l_15, l_16, l_18, l_20, l_21, l_22, l_23, l_24, l_32, l_33, l_40, l_44, l_48, l_57, l_59, l_60, l_63, l_64, l_97, l_98, l_99, l_100, l_111, l_116, l_122, l_132, l_200, l_240, l_255, l_480, l_1000, l_1452, if_true, if_false, true_or, or_true, in_neg, in_m1, in_n, V1, V2, R1, R2, B1, B2, eq_self, wk_3, wk_10, wk_37, wk_42, wr_3_0, wr_3_1, wr_3_2, wr_3_3, wr_3_4, wr_3_5, wr_3_6, wr_3_7, wr_3_8, wi_3_9, wi_3_10, wi_3_11, wp_3_9, wp_3_10, wp_3_11, wr_10_0, wr_10_1, wi_10_2, wi_10_3, wp_10_2, wp_10_3, wr_37_0, wr_37_1, wr_37_2, wi_37_3, wp_37_3, wi_37_4, wp_37_4, wi_37_5, wp_37_5, wi_37_6, wp_37_6, wi_37_7, wp_37_7, wi_37_8, wp_37_8, wr_42_0, wi_42_1, wp_42_1, h1], by simp (disch := omega) only [q_pos, q_pos', q_lt, q_le, q_eq, q_add, q_sub, q_mul, ob_s, if_pos, if_neg, not_false_eq_true, q_m1', q_div, rm_N, l_0, l_1, l_2, l_3, l_4, l_5, l_6, l_7, l_8, l_10, l_11, l_12, l_13, l_14, l_15, l_16, l_18, l_20, l_21, l_22, l_23, l_24, l_32, l_33, l_40, l_44, l_48, l_57, l_59, l_60, l_63, l_64, l_97, l_98, l_99, l_100, l_111, l_116, l_122, l_132, l_200, l_240, l_255, l_480, l_1000, l_1452, if_true, if_false, true_or, or_true, in_neg, in_m1, in_n, V1, V2, R1, R2, B1, B2, eq_self, wk_84, wr_84_0, wr_84_1, wr_84_2, wr_84_3, wr_84_5, wr_84_13, wr_84_14, wr_84_15, wr_84_17, wr_84_18, wr_84_20, wr_84_21, wr_84_23, wr_84_24, wr_84_25, wr_84_26, wi_84_4, wp_84_4, wi_84_6, wp_84_6, wi_84_7, wp_84_7, wi_84_8, wp_84_8, wi_84_9, wp_84_9, wi_84_10, wp_84_10, wi_84_11, wp_84_11, wi_84_12, wp_84_12, wi_84_16, wp_84_16, wi_84_19, wp_84_19, wi_84_22, wp_84_22, wi_84_27, wp_84_27, h2]⟩
end ROWB
