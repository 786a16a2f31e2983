/-- what tell writes: how many, and the row -/
def tlS (p : Nat → Bool) (K i l ln : Nat) : Nat → Nat → Nat → Nat → (Nat → Int32) → Nat × (Nat → Int32)
  | 0, _, _, d, f => (d, f)
  | m + 1, t, a, d, f => if p t = true then (if a < K then tlS p K i l ln m (t + 1) (a + 1) d f else if i + d < l then tlS p K i l ln m (t + 1) a (d + 1) (upd f (i + d) (lnV ln (nI t))) else tlS p K i l ln m (t + 1) a d f) else tlS p K i l ln m (t + 1) a d f
theorem tlS_end {p : Nat → Bool} {K i l ln : Nat} : ∀ m t a d f, l ≤ i + d → tlS p K i l ln m t a d f = (d, f)
  | 0, _, _, _, _, _ => rfl
  | m + 1, t, a, d, f, h => by
    unfold tlS
    rw [tlS_end m (t + 1) (a + 1) d f h, tlS_end m (t + 1) a d f h, if_neg (show ¬ i + d < l by omega)]
    split
    · split <;> rfl
    · rfl
section TELL
variable {L : Nat} {xs : Nat → Int32} {g : xS} {r : Nat → Option Nat} {rs : xH} {v n k l ln : Nat} {p : Nat → Bool}
theorem tel_L (hv : v < 4) (hk : k < 8) (hln : ln < 3) (hl : l ≤ 40) (hc : vOK g (13 + v) n p) (h3 : g 3 k = nI ln) (h4 : g 4 k = nI l) {K i : Nat} (hK : K < 2147483648) (hi : i ≤ l) : ∀ m t a d f z, t + z = n → z < m → a ≤ t → d ≤ t → ∃ y1 y3, f_X11_tell_L81 m 3 (nI K) (nI i) (44 + 2 * k) (vO (13 + v)) (nI a) (nI d) (nI t) (wH L xs (va_up g (11 + k) f) r rs) = some (y1, nI (tlS p K i l ln z t a d f).1, y3, wH L xs (va_up g (11 + k) (tlS p K i l ln z t a d f).2) r rs) := by
  have hn := hc.1
  have hj : 13 + v < 25 := by omega
  intro m
  induction m with
  | zero => intro t a d f z h1 h2; omega
  | succ m ih =>
    intro t a d f z h1 h2 h5 h6
    have hc' : vOK (va_up g (11 + k) f) (13 + v) n p := vOK_eq hc (by rw [up_oc (by omega)]) (fun b _ => by rw [up_oc (by omega)])
    have h3' : va_up g (11 + k) f 3 k = nI ln := by rw [up_oc (by omega)]; exact h3
    have h4' : va_up g (11 + k) f 4 k = nI l := by rw [up_oc (by omega)]; exact h4
    unfold f_X11_tell_L81
    cases z with
    | zero =>
      have : t = n := by omega
      subst this
      exact ⟨nI a, nI t, by simp (disch := omega) only [q_pos, q_pos', q_lt, q_le, q_eq, q_add, q_sub, q_mul, ob_s, if_pos, if_neg, not_false_eq_true, q_m1', q_div, rm_N, l_0, l_1, l_2, l_3, l_4, l_5, l_6, l_7, l_8, l_10, l_11, l_12, l_13, l_14, l_15, l_16, l_18, l_20, l_21, l_22, l_23, l_24, l_32, l_33, l_40, l_44, l_48, l_57, l_59, l_60, l_63, l_64, l_97, l_98, l_99, l_100, l_111, l_116, l_122, l_132, l_200, l_240, l_255, l_480, l_1000, l_1452, if_true, if_false, true_or, or_true, in_neg, in_m1, in_n, V1, V2, R1, R2, B1, B2, eq_self, wk_3, wk_10, wk_37, wk_42, wr_3_0, wr_3_1, wr_3_2, wr_3_3, wr_3_4, wr_3_5, wr_3_6, wr_3_7, wr_3_8, wi_3_9, wi_3_10, wi_3_11, wp_3_9, wp_3_10, wp_3_11, wr_10_0, wr_10_1, wi_10_2, wi_10_3, wp_10_2, wp_10_3, wr_37_0, wr_37_1, wr_37_2, wi_37_3, wp_37_3, wi_37_4, wp_37_4, wi_37_5, wp_37_5, wi_37_6, wp_37_6, wi_37_7, wp_37_7, wi_37_8, wp_37_8, wr_42_0, wi_42_1, wp_42_1, wk_84, wr_84_0, wr_84_1, wr_84_2, wr_84_3, wr_84_5, wr_84_13, wr_84_14, wr_84_15, wr_84_17, wr_84_18, wr_84_20, wr_84_21, wr_84_23, wr_84_24, wr_84_25, wr_84_26, wi_84_4, wp_84_4, wi_84_6, wp_84_6, wi_84_7, wp_84_7, wi_84_8, wp_84_8, wi_84_9, wp_84_9, wi_84_10, wp_84_10, wi_84_11, wp_84_11, wi_84_12, wp_84_12, wi_84_16, wp_84_16, wi_84_19, wp_84_19, wi_84_22, wp_84_22, wi_84_27, wp_84_27, wq5v, wkv, wiv, wrv, wav', hc'.2.1, tlS]⟩
    | succ z =>
      by_cases e : i + d < l
      · have eb := e_bitAt (L := L) (xs := xs) (r := r) (rs := rs) hj hc' (show t < n by omega)
        by_cases ep : p t = true
        · rw [ep] at eb
          by_cases ea : a < K
          · obtain ⟨y1, y3, e1⟩ := ih (t + 1) (a + 1) d f z (by omega) (by omega) (by omega) (by omega)
            refine ⟨y1, y3, ?_⟩
            simp (disch := omega) only [q_pos, q_pos', q_lt, q_le, q_eq, q_add, q_sub, q_mul, ob_s, if_pos, if_neg, not_false_eq_true, q_m1', q_div, rm_N, l_0, l_1, l_2, l_3, l_4, l_5, l_6, l_7, l_8, l_10, l_11, l_12, l_13, l_14, l_15, l_16, l_18, l_20, l_21, l_22, l_23, l_24, l_32, l_33, l_40, l_44, l_48, l_57, l_59, l_60, l_63, l_64, l_97, l_98, l_99, l_100, l_111, l_116, l_122, l_132, l_200, l_240, l_255, l_480, l_1000, l_1452, if_true, if_false, true_or, or_true, in_neg, in_m1, in_n, V1, V2, R1, R2, B1, B2, eq_self, wk_3, wk_10, wk_37, wk_42, wr_3_0, wr_3_1, wr_3_2, wr_3_3, wr_3_4, wr_3_5, wr_3_6, wr_3_7, wr_3_8, wi_3_9, wi_3_10, wi_3_11, wp_3_9, wp_3_10, wp_3_11, wr_10_0, wr_10_1, wi_10_2, wi_10_3, wp_10_2, wp_10_3, wr_37_0, wr_37_1, wr_37_2, wi_37_3, wp_37_3, wi_37_4, wp_37_4, wi_37_5, wp_37_5, wi_37_6, wp_37_6, wi_37_7, wp_37_7, wi_37_8, wp_37_8, wr_42_0, wi_42_1, wp_42_1, wk_84, wr_84_0, wr_84_1, wr_84_2, wr_84_3, wr_84_5, wr_84_13, wr_84_14, wr_84_15, wr_84_17, wr_84_18, wr_84_20, wr_84_21, wr_84_23, wr_84_24, wr_84_25, wr_84_26, wi_84_4, wp_84_4, wi_84_6, wp_84_6, wi_84_7, wp_84_7, wi_84_8, wp_84_8, wi_84_9, wp_84_9, wi_84_10, wp_84_10, wi_84_11, wp_84_11, wi_84_12, wp_84_12, wi_84_16, wp_84_16, wi_84_19, wp_84_19, wi_84_22, wp_84_22, wi_84_27, wp_84_27, wq5v, wkv, wiv, wrv, wav', hc'.2.1, wir3, h4', eb, Bool.toNat_true]
            unfold tlS
            rw [if_pos ep, if_pos ea]
            exact e1
          · obtain ⟨y1, y3, e1⟩ := ih (t + 1) a (d + 1) (upd f (i + d) (lnV ln (nI t))) z (by omega) (by omega) (by omega) (by omega)
            refine ⟨y1, y3, ?_⟩
            have es := e_store (L := L) (xs := xs) (r := r) (rs := rs) hk hln h3' (show i + d < 40 by omega) (nI t)
            rw [gs_up] at es
            simp (disch := omega) only [q_pos, q_pos', q_lt, q_le, q_eq, q_add, q_sub, q_mul, ob_s, if_pos, if_neg, not_false_eq_true, q_m1', q_div, rm_N, l_0, l_1, l_2, l_3, l_4, l_5, l_6, l_7, l_8, l_10, l_11, l_12, l_13, l_14, l_15, l_16, l_18, l_20, l_21, l_22, l_23, l_24, l_32, l_33, l_40, l_44, l_48, l_57, l_59, l_60, l_63, l_64, l_97, l_98, l_99, l_100, l_111, l_116, l_122, l_132, l_200, l_240, l_255, l_480, l_1000, l_1452, if_true, if_false, true_or, or_true, in_neg, in_m1, in_n, V1, V2, R1, R2, B1, B2, eq_self, wk_3, wk_10, wk_37, wk_42, wr_3_0, wr_3_1, wr_3_2, wr_3_3, wr_3_4, wr_3_5, wr_3_6, wr_3_7, wr_3_8, wi_3_9, wi_3_10, wi_3_11, wp_3_9, wp_3_10, wp_3_11, wr_10_0, wr_10_1, wi_10_2, wi_10_3, wp_10_2, wp_10_3, wr_37_0, wr_37_1, wr_37_2, wi_37_3, wp_37_3, wi_37_4, wp_37_4, wi_37_5, wp_37_5, wi_37_6, wp_37_6, wi_37_7, wp_37_7, wi_37_8, wp_37_8, wr_42_0, wi_42_1, wp_42_1, wk_84, wr_84_0, wr_84_1, wr_84_2, wr_84_3, wr_84_5, wr_84_13, wr_84_14, wr_84_15, wr_84_17, wr_84_18, wr_84_20, wr_84_21, wr_84_23, wr_84_24, wr_84_25, wr_84_26, wi_84_4, wp_84_4, wi_84_6, wp_84_6, wi_84_7, wp_84_7, wi_84_8, wp_84_8, wi_84_9, wp_84_9, wi_84_10, wp_84_10, wi_84_11, wp_84_11, wi_84_12, wp_84_12, wi_84_16, wp_84_16, wi_84_19, wp_84_19, wi_84_22, wp_84_22, wi_84_27, wp_84_27, wq5v, wkv, wiv, wrv, wav', hc'.2.1, wir3, h4', eb, Bool.toNat_true, wkr, es]
            unfold tlS
            rw [if_pos ep, if_neg ea, if_pos e]
            exact e1
        · have ep' : p t = false := by simpa using ep
          rw [ep'] at eb
          obtain ⟨y1, y3, e1⟩ := ih (t + 1) a d f z (by omega) (by omega) (by omega) (by omega)
          refine ⟨y1, y3, ?_⟩
          simp (disch := omega) only [q_pos, q_pos', q_lt, q_le, q_eq, q_add, q_sub, q_mul, ob_s, if_pos, if_neg, not_false_eq_true, q_m1', q_div, rm_N, l_0, l_1, l_2, l_3, l_4, l_5, l_6, l_7, l_8, l_10, l_11, l_12, l_13, l_14, l_15, l_16, l_18, l_20, l_21, l_22, l_23, l_24, l_32, l_33, l_40, l_44, l_48, l_57, l_59, l_60, l_63, l_64, l_97, l_98, l_99, l_100, l_111, l_116, l_122, l_132, l_200, l_240, l_255, l_480, l_1000, l_1452, if_true, if_false, true_or, or_true, in_neg, in_m1, in_n, V1, V2, R1, R2, B1, B2, eq_self, wk_3, wk_10, wk_37, wk_42, wr_3_0, wr_3_1, wr_3_2, wr_3_3, wr_3_4, wr_3_5, wr_3_6, wr_3_7, wr_3_8, wi_3_9, wi_3_10, wi_3_11, wp_3_9, wp_3_10, wp_3_11, wr_10_0, wr_10_1, wi_10_2, wi_10_3, wp_10_2, wp_10_3, wr_37_0, wr_37_1, wr_37_2, wi_37_3, wp_37_3, wi_37_4, wp_37_4, wi_37_5, wp_37_5, wi_37_6, wp_37_6, wi_37_7, wp_37_7, wi_37_8, wp_37_8, wr_42_0, wi_42_1, wp_42_1, wk_84, wr_84_0, wr_84_1, wr_84_2, wr_84_3, wr_84_5, wr_84_13, wr_84_14, wr_84_15, wr_84_17, wr_84_18, wr_84_20, wr_84_21, wr_84_23, wr_84_24, wr_84_25, wr_84_26, wi_84_4, wp_84_4, wi_84_6, wp_84_6, wi_84_7, wp_84_7, wi_84_8, wp_84_8, wi_84_9, wp_84_9, wi_84_10, wp_84_10, wi_84_11, wp_84_11, wi_84_12, wp_84_12, wi_84_16, wp_84_16, wi_84_19, wp_84_19, wi_84_22, wp_84_22, wi_84_27, wp_84_27, wq5v, wkv, wiv, wrv, wav', hc'.2.1, wir3, h4', eb, Bool.toNat_false]
          unfold tlS
          rw [if_neg ep]
          exact e1
      · rw [tlS_end _ _ _ _ _ (by omega)]
        exact ⟨nI a, nI t, by simp (disch := omega) only [q_pos, q_pos', q_lt, q_le, q_eq, q_add, q_sub, q_mul, ob_s, if_pos, if_neg, not_false_eq_true, q_m1', q_div, rm_N, l_0, l_1, l_2, l_3, l_4, l_5, l_6, l_7, l_8, l_10, l_11, l_12, l_13, l_14, l_15, l_16, l_18, l_20, l_21, l_22, l_23, l_24, l_32, l_33, l_40, l_44, l_48, l_57, l_59, l_60, l_63, l_64, l_97, l_98, l_99, l_100, l_111, l_116, l_122, l_132, l_200, l_240, l_255, l_480, l_1000, l_1452, if_true, if_false, true_or, or_true, in_neg, in_m1, in_n, V1, V2, R1, R2, B1, B2, eq_self, wk_3, wk_10, wk_37, wk_42, wr_3_0, wr_3_1, wr_3_2, wr_3_3, wr_3_4, wr_3_5, wr_3_6, wr_3_7, wr_3_8, wi_3_9, wi_3_10, wi_3_11, wp_3_9, wp_3_10, wp_3_11, wr_10_0, wr_10_1, wi_10_2, wi_10_3, wp_10_2, wp_10_3, wr_37_0, wr_37_1, wr_37_2, wi_37_3, wp_37_3, wi_37_4, wp_37_4, wi_37_5, wp_37_5, wi_37_6, wp_37_6, wi_37_7, wp_37_7, wi_37_8, wp_37_8, wr_42_0, wi_42_1, wp_42_1, wk_84, wr_84_0, wr_84_1, wr_84_2, wr_84_3, wr_84_5, wr_84_13, wr_84_14, wr_84_15, wr_84_17, wr_84_18, wr_84_20, wr_84_21, wr_84_23, wr_84_24, wr_84_25, wr_84_26, wi_84_4, wp_84_4, wi_84_6, wp_84_6, wi_84_7, wp_84_7, wi_84_8, wp_84_8, wi_84_9, wp_84_9, wi_84_10, wp_84_10, wi_84_11, wp_84_11, wi_84_12, wp_84_12, wi_84_16, wp_84_16, wi_84_19, wp_84_19, wi_84_22, wp_84_22, wi_84_27, wp_84_27, wq5v, wkv, wiv, wrv, wav', hc'.2.1, wir3, h4']⟩
theorem mtel_L (hv : v < 4) (hk : k < 8) (hln : ln < 3) (hl : l ≤ 40) {K i : Nat} (hK : K < 2147483648) (hi : i ≤ l) : ∀ m t a d f z g, t + z = n → z < m → a ≤ K → d ≤ t → mOK g 55 (33 * v) n p → g 50 k = nI ln → g 51 k = nI l → (∀ q, q < 40 → g 52 (40 * k + q) = f q) → ∃ y1 y3 g', f_X12_tell_L65 m 84 (nI v) (nI k) (nI i) (nI (K - a)) (nI d) (nI t) (wH L xs g r rs) = some (y1, nI (tlS p K i l ln z t a d f).1, y3, wH L xs g' r rs) ∧ (∀ q, q < 40 → g' 52 (40 * k + q) = (tlS p K i l ln z t a d f).2 q) ∧ (∀ q, (q < 40 * k ∨ 40 * k + 40 ≤ q) → g' 52 q = g 52 q) ∧ ∀ c, c ≠ 52 → g' c = g c := by
  intro m
  induction m with
  | zero => intro t a d f z g h1 h2; omega
  | succ m ih =>
    intro t a d f z g h1 h2 h5 h6 hm h50 h51 hf
    have hn := hm.1
    unfold f_X12_tell_L65
    cases z with
    | zero =>
      have : t = n := by omega
      subst this
      exact ⟨nI (K - a), nI t, g, by simp (disch := omega) only [q_pos, q_pos', q_lt, q_le, q_eq, q_add, q_sub, q_mul, ob_s, if_pos, if_neg, not_false_eq_true, q_m1', q_div, rm_N, l_0, l_1, l_2, l_3, l_4, l_5, l_6, l_7, l_8, l_10, l_11, l_12, l_13, l_14, l_15, l_16, l_18, l_20, l_21, l_22, l_23, l_24, l_32, l_33, l_40, l_44, l_48, l_57, l_59, l_60, l_63, l_64, l_97, l_98, l_99, l_100, l_111, l_116, l_122, l_132, l_200, l_240, l_255, l_480, l_1000, l_1452, if_true, if_false, true_or, or_true, in_neg, in_m1, in_n, V1, V2, R1, R2, B1, B2, eq_self, wk_3, wk_10, wk_37, wk_42, wr_3_0, wr_3_1, wr_3_2, wr_3_3, wr_3_4, wr_3_5, wr_3_6, wr_3_7, wr_3_8, wi_3_9, wi_3_10, wi_3_11, wp_3_9, wp_3_10, wp_3_11, wr_10_0, wr_10_1, wi_10_2, wi_10_3, wp_10_2, wp_10_3, wr_37_0, wr_37_1, wr_37_2, wi_37_3, wp_37_3, wi_37_4, wp_37_4, wi_37_5, wp_37_5, wi_37_6, wp_37_6, wi_37_7, wp_37_7, wi_37_8, wp_37_8, wr_42_0, wi_42_1, wp_42_1, wk_84, wr_84_0, wr_84_1, wr_84_2, wr_84_3, wr_84_5, wr_84_13, wr_84_14, wr_84_15, wr_84_17, wr_84_18, wr_84_20, wr_84_21, wr_84_23, wr_84_24, wr_84_25, wr_84_26, wi_84_4, wp_84_4, wi_84_6, wp_84_6, wi_84_7, wp_84_7, wi_84_8, wp_84_8, wi_84_9, wp_84_9, wi_84_10, wp_84_10, wi_84_11, wp_84_11, wi_84_12, wp_84_12, wi_84_16, wp_84_16, wi_84_19, wp_84_19, wi_84_22, wp_84_22, wi_84_27, wp_84_27, wq5v, wkv, wiv, wrv, wav', m_bitsOf hv hm, tlS], hf, fun _ _ => rfl, fun _ _ => rfl⟩
    | succ z =>
      have eb := m_bit (L := L) (xs := xs) (r := r) (rs := rs) hr90 hv hm.2.2.2 (show t < 480 by omega)
      by_cases ep : p t = true
      · rw [ep] at eb
        by_cases ea : a < K
        · obtain ⟨y1, y3, g', e1, e2, e3, e4⟩ := ih (t + 1) (a + 1) d f z g (by omega) (by omega) (by omega) (by omega) hm h50 h51 hf
          refine ⟨y1, y3, g', ?_, ?_, e3, e4⟩
          · simp (disch := omega) only [q_pos, q_pos', q_lt, q_le, q_eq, q_add, q_sub, q_mul, ob_s, if_pos, if_neg, not_false_eq_true, q_m1', q_div, rm_N, l_0, l_1, l_2, l_3, l_4, l_5, l_6, l_7, l_8, l_10, l_11, l_12, l_13, l_14, l_15, l_16, l_18, l_20, l_21, l_22, l_23, l_24, l_32, l_33, l_40, l_44, l_48, l_57, l_59, l_60, l_63, l_64, l_97, l_98, l_99, l_100, l_111, l_116, l_122, l_132, l_200, l_240, l_255, l_480, l_1000, l_1452, if_true, if_false, true_or, or_true, in_neg, in_m1, in_n, V1, V2, R1, R2, B1, B2, eq_self, wk_3, wk_10, wk_37, wk_42, wr_3_0, wr_3_1, wr_3_2, wr_3_3, wr_3_4, wr_3_5, wr_3_6, wr_3_7, wr_3_8, wi_3_9, wi_3_10, wi_3_11, wp_3_9, wp_3_10, wp_3_11, wr_10_0, wr_10_1, wi_10_2, wi_10_3, wp_10_2, wp_10_3, wr_37_0, wr_37_1, wr_37_2, wi_37_3, wp_37_3, wi_37_4, wp_37_4, wi_37_5, wp_37_5, wi_37_6, wp_37_6, wi_37_7, wp_37_7, wi_37_8, wp_37_8, wr_42_0, wi_42_1, wp_42_1, wk_84, wr_84_0, wr_84_1, wr_84_2, wr_84_3, wr_84_5, wr_84_13, wr_84_14, wr_84_15, wr_84_17, wr_84_18, wr_84_20, wr_84_21, wr_84_23, wr_84_24, wr_84_25, wr_84_26, wi_84_4, wp_84_4, wi_84_6, wp_84_6, wi_84_7, wp_84_7, wi_84_8, wp_84_8, wi_84_9, wp_84_9, wi_84_10, wp_84_10, wi_84_11, wp_84_11, wi_84_12, wp_84_12, wi_84_16, wp_84_16, wi_84_19, wp_84_19, wi_84_22, wp_84_22, wi_84_27, wp_84_27, wq5v, wkv, wiv, wrv, wav', m_bitsOf hv hm, eb, Bool.toNat_true]
            rw [show K - a - 1 = K - (a + 1) by omega]
            unfold tlS
            rw [if_pos ep, if_pos ea]
            exact e1
          · unfold tlS
            rw [if_pos ep, if_pos ea]
            exact e2
        · have eK : K - a = 0 := by omega
          by_cases e : i + d < l
          · obtain ⟨y1, y3, g', e1, e2, e3, e4⟩ := ih (t + 1) a (d + 1) (upd f (i + d) (lnV ln (nI t))) z (gs g 52 (40 * k + i + d) (lnV ln (nI t))) (by omega) (by omega) (by omega) (by omega) (mOK_eq hm (fun q _ => by rw [gs_oc (by omega)])) (by rw [gs_oc (by omega)]; exact h50) (by rw [gs_oc (by omega)]; exact h51) (fun q hq => by
              by_cases eq : q = i + d
              · subst eq
                rw [show 40 * k + (i + d) = 40 * k + i + d by omega, gs_same, upd_s]
              · rw [gs_ok (by omega), upd_o eq]; exact hf q hq)
            refine ⟨y1, y3, g', ?_, ?_, fun q hq => ?_, fun c hc => by rw [e4 c hc, gs_oc hc]⟩
            · rw [eK] at e1 ⊢
              simp (disch := omega) only [q_pos, q_pos', q_lt, q_le, q_eq, q_add, q_sub, q_mul, ob_s, if_pos, if_neg, not_false_eq_true, q_m1', q_div, rm_N, l_0, l_1, l_2, l_3, l_4, l_5, l_6, l_7, l_8, l_10, l_11, l_12, l_13, l_14, l_15, l_16, l_18, l_20, l_21, l_22, l_23, l_24, l_32, l_33, l_40, l_44, l_48, l_57, l_59, l_60, l_63, l_64, l_97, l_98, l_99, l_100, l_111, l_116, l_122, l_132, l_200, l_240, l_255, l_480, l_1000, l_1452, if_true, if_false, true_or, or_true, in_neg, in_m1, in_n, V1, V2, R1, R2, B1, B2, eq_self, wk_3, wk_10, wk_37, wk_42, wr_3_0, wr_3_1, wr_3_2, wr_3_3, wr_3_4, wr_3_5, wr_3_6, wr_3_7, wr_3_8, wi_3_9, wi_3_10, wi_3_11, wp_3_9, wp_3_10, wp_3_11, wr_10_0, wr_10_1, wi_10_2, wi_10_3, wp_10_2, wp_10_3, wr_37_0, wr_37_1, wr_37_2, wi_37_3, wp_37_3, wi_37_4, wp_37_4, wi_37_5, wp_37_5, wi_37_6, wp_37_6, wi_37_7, wp_37_7, wi_37_8, wp_37_8, wr_42_0, wi_42_1, wp_42_1, wk_84, wr_84_0, wr_84_1, wr_84_2, wr_84_3, wr_84_5, wr_84_13, wr_84_14, wr_84_15, wr_84_17, wr_84_18, wr_84_20, wr_84_21, wr_84_23, wr_84_24, wr_84_25, wr_84_26, wi_84_4, wp_84_4, wi_84_6, wp_84_6, wi_84_7, wp_84_7, wi_84_8, wp_84_8, wi_84_9, wp_84_9, wi_84_10, wp_84_10, wi_84_11, wp_84_11, wi_84_12, wp_84_12, wi_84_16, wp_84_16, wi_84_19, wp_84_19, wi_84_22, wp_84_22, wi_84_27, wp_84_27, wq5v, wkv, wiv, wrv, wav', m_bitsOf hv hm, eb, Bool.toNat_true, wa_86', h51, wa_85', h50, m_lowest hln, wu_87']
              unfold tlS
              rw [if_pos ep, if_neg ea, if_pos e]
              exact e1
            · unfold tlS
              rw [if_pos ep, if_neg ea, if_pos e]
              exact e2
            · rw [e3 q hq, gs_ok (by omega)]
          · obtain ⟨y1, y3, g', e1, e2, e3, e4⟩ := ih (t + 1) a d f z g (by omega) (by omega) (by omega) (by omega) hm h50 h51 hf
            refine ⟨y1, y3, g', ?_, ?_, e3, e4⟩
            · rw [eK] at e1 ⊢
              simp (disch := omega) only [q_pos, q_pos', q_lt, q_le, q_eq, q_add, q_sub, q_mul, ob_s, if_pos, if_neg, not_false_eq_true, q_m1', q_div, rm_N, l_0, l_1, l_2, l_3, l_4, l_5, l_6, l_7, l_8, l_10, l_11, l_12, l_13, l_14, l_15, l_16, l_18, l_20, l_21, l_22, l_23, l_24, l_32, l_33, l_40, l_44, l_48, l_57, l_59, l_60, l_63, l_64, l_97, l_98, l_99, l_100, l_111, l_116, l_122, l_132, l_200, l_240, l_255, l_480, l_1000, l_1452, if_true, if_false, true_or, or_true, in_neg, in_m1, in_n, V1, V2, R1, R2, B1, B2, eq_self, wk_3, wk_10, wk_37, wk_42, wr_3_0, wr_3_1, wr_3_2, wr_3_3, wr_3_4, wr_3_5, wr_3_6, wr_3_7, wr_3_8, wi_3_9, wi_3_10, wi_3_11, wp_3_9, wp_3_10, wp_3_11, wr_10_0, wr_10_1, wi_10_2, wi_10_3, wp_10_2, wp_10_3, wr_37_0, wr_37_1, wr_37_2, wi_37_3, wp_37_3, wi_37_4, wp_37_4, wi_37_5, wp_37_5, wi_37_6, wp_37_6, wi_37_7, wp_37_7, wi_37_8, wp_37_8, wr_42_0, wi_42_1, wp_42_1, wk_84, wr_84_0, wr_84_1, wr_84_2, wr_84_3, wr_84_5, wr_84_13, wr_84_14, wr_84_15, wr_84_17, wr_84_18, wr_84_20, wr_84_21, wr_84_23, wr_84_24, wr_84_25, wr_84_26, wi_84_4, wp_84_4, wi_84_6, wp_84_6, wi_84_7, wp_84_7, wi_84_8, wp_84_8, wi_84_9, wp_84_9, wi_84_10, wp_84_10, wi_84_11, wp_84_11, wi_84_12, wp_84_12, wi_84_16, wp_84_16, wi_84_19, wp_84_19, wi_84_22, wp_84_22, wi_84_27, wp_84_27, wq5v, wkv, wiv, wrv, wav', m_bitsOf hv hm, eb, Bool.toNat_true, wa_86', h51]
              unfold tlS
              rw [if_pos ep, if_neg ea, if_neg e]
              exact e1
            · unfold tlS
              rw [if_pos ep, if_neg ea, if_neg e]
              exact e2
      · have ep' : p t = false := by simpa using ep
        rw [ep'] at eb
        obtain ⟨y1, y3, g', e1, e2, e3, e4⟩ := ih (t + 1) a d f z g (by omega) (by omega) (by omega) (by omega) hm h50 h51 hf
        refine ⟨y1, y3, g', ?_, ?_, e3, e4⟩
        · simp (disch := omega) only [q_pos, q_pos', q_lt, q_le, q_eq, q_add, q_sub, q_mul, ob_s, if_pos, if_neg, not_false_eq_true, q_m1', q_div, rm_N, l_0, l_1, l_2, l_3, l_4, l_5, l_6, l_7, l_8, l_10, l_11, l_12, l_13, l_14, l_15, l_16, l_18, l_20, l_21, l_22, l_23, l_24, l_32, l_33, l_40, l_44, l_48, l_57, l_59, l_60, l_63, l_64, l_97, l_98, l_99, l_100, l_111, l_116, l_122, l_132, l_200, l_240, l_255, l_480, l_1000, l_1452, if_true, if_false, true_or, or_true, in_neg, in_m1, in_n, V1, V2, R1, R2, B1, B2, eq_self, wk_3, wk_10, wk_37, wk_42, wr_3_0, wr_3_1, wr_3_2, wr_3_3, wr_3_4, wr_3_5, wr_3_6, wr_3_7, wr_3_8, wi_3_9, wi_3_10, wi_3_11, wp_3_9, wp_3_10, wp_3_11, wr_10_0, wr_10_1, wi_10_2, wi_10_3, wp_10_2, wp_10_3, wr_37_0, wr_37_1, wr_37_2, wi_37_3, wp_37_3, wi_37_4, wp_37_4, wi_37_5, wp_37_5, wi_37_6, wp_37_6, wi_37_7, wp_37_7, wi_37_8, wp_37_8, wr_42_0, wi_42_1, wp_42_1, wk_84, wr_84_0, wr_84_1, wr_84_2, wr_84_3, wr_84_5, wr_84_13, wr_84_14, wr_84_15, wr_84_17, wr_84_18, wr_84_20, wr_84_21, wr_84_23, wr_84_24, wr_84_25, wr_84_26, wi_84_4, wp_84_4, wi_84_6, wp_84_6, wi_84_7, wp_84_7, wi_84_8, wp_84_8, wi_84_9, wp_84_9, wi_84_10, wp_84_10, wi_84_11, wp_84_11, wi_84_12, wp_84_12, wi_84_16, wp_84_16, wi_84_19, wp_84_19, wi_84_22, wp_84_22, wi_84_27, wp_84_27, wq5v, wkv, wiv, wrv, wav', m_bitsOf hv hm, eb, Bool.toNat_false]
          unfold tlS
          rw [if_neg ep]
          exact e1
        · unfold tlS
          rw [if_neg ep]
          exact e2
theorem o_tell (R : Rel g r rs) (x y z u : Int32) : Op L xs g r rs (f_X11_tell 3 x y z u) (f_X12_tell 84 x y z u) := by
  rcases sV x with ⟨v, hv, rfl⟩ | ⟨h1, h2⟩
  · obtain ⟨n, p, hc, hm⟩ := R.vec v hv
    rcases a_sp y with hy | ⟨K, hK, rfl⟩
    · refine RO.op ?_ R
      unfold RO f_X11_tell f_X12_tell
      exact ⟨-1000001, by simp (disch := omega) only [q_pos, q_pos', q_lt, q_le, q_eq, q_add, q_sub, q_mul, ob_s, if_pos, if_neg, not_false_eq_true, q_m1', q_div, rm_N, l_0, l_1, l_2, l_3, l_4, l_5, l_6, l_7, l_8, l_10, l_11, l_12, l_13, l_14, l_15, l_16, l_18, l_20, l_21, l_22, l_23, l_24, l_32, l_33, l_40, l_44, l_48, l_57, l_59, l_60, l_63, l_64, l_97, l_98, l_99, l_100, l_111, l_116, l_122, l_132, l_200, l_240, l_255, l_480, l_1000, l_1452, if_true, if_false, true_or, or_true, in_neg, in_m1, in_n, V1, V2, R1, R2, B1, B2, eq_self, ng1 hy], by simp (disch := omega) only [q_pos, q_pos', q_lt, q_le, q_eq, q_add, q_sub, q_mul, ob_s, if_pos, if_neg, not_false_eq_true, q_m1', q_div, rm_N, l_0, l_1, l_2, l_3, l_4, l_5, l_6, l_7, l_8, l_10, l_11, l_12, l_13, l_14, l_15, l_16, l_18, l_20, l_21, l_22, l_23, l_24, l_32, l_33, l_40, l_44, l_48, l_57, l_59, l_60, l_63, l_64, l_97, l_98, l_99, l_100, l_111, l_116, l_122, l_132, l_200, l_240, l_255, l_480, l_1000, l_1452, if_true, if_false, true_or, or_true, in_neg, in_m1, in_n, V1, V2, R1, R2, B1, B2, eq_self, ng1 hy]⟩
    · rcases sR z with ⟨k, hk, rfl⟩ | ⟨h1, h2⟩
      · obtain ⟨l, hl, h4, h51, h5, hcc⟩ := row_cases R.row hk
        have l1 : (1 : Int32) = nI 1 := rfl
        have nK : ¬ nI K < 0 := q_pos hK
        rcases hcc with ⟨c1, c2⟩ | ⟨ln, ht, c1, c2, c3⟩
        · rw [l1] at c1
          refine fnd_n (f := 1) _ _ R ?_ ?_
          · unfold f_X11_tell
            rw [V1 hv, ob_s, if_neg n10, if_neg nK, R1 hk, ob_s, if_neg n10, wr_3_0, ob_s, wq_4' hk, ob_s, wir1 hk, ob_s, c1, if_neg n10, wk_3, if_pos rfl, e_found, ob_s]
            rfl
          · unfold f_X12_tell
            rw [V2 hv, ob_s, if_neg n10, if_neg nK, R2 hk, ob_s, if_neg n10, wk_84, if_pos rfl, m_missing hk true (show gs g 0 11 (nI 1) 50 k = -1000000 by rw [gs_oc (by omega)]; exact c2), ob_s, Bool.toNat_true, if_neg n10, wk_84, if_pos rfl, m_found, ob_s]
            rfl
        · have mm : ∀ u v, f_X12_isMissing 84 (nI k) (wH L xs (gs g 0 u v) r rs) = some (nI 0, wH L xs (gs g 0 u v) r rs) := fun u v => m_missing hk false ⟨ln, ht, by rw [gs_oc (by omega)]; exact c2⟩
          have m51 : ∀ u v, gs g 0 u v 51 k = nI l := fun u v => by rw [gs_oc (by omega)]; exact h51
          rcases a_sp u with hu | ⟨i, hi, rfl⟩
          · refine fnd_n (f := 2) _ _ R ?_ ?_
            · unfold f_X11_tell
              rw [V1 hv, ob_s, if_neg n10, if_neg nK, R1 hk, ob_s, if_neg n10, wr_3_0, ob_s, wq_4' hk, ob_s, wir1 hk, ob_s, c1, if_pos n00, if_pos (show u < 0 from hu), wk_3, if_pos rfl, e_found, ob_s]
              rfl
            · unfold f_X12_tell
              rw [V2 hv, ob_s, if_neg n10, if_neg nK, R2 hk, ob_s, if_neg n10, wk_84, if_pos rfl, mm, ob_s, if_pos n00, wr_84_1, ob_s, wa_86' hk, ob_s, m51, l_0, in_neg hu, ob_s, if_pos rfl, wk_84, if_pos rfl, m_found, ob_s]
              rfl
          · by_cases ei : i ≤ l
            · obtain ⟨y1, y3, b1⟩ := tel_L (L := L) (xs := xs) (r := r) (rs := rs) hv hk ht hl hc c3 h4 hK ei xN 0 0 0 (g (11 + k)) n (by omega) (by have := hc.1; unfold xN; omega) (by omega) (by omega)
              rw [up_self] at b1
              obtain ⟨F, hF⟩ : ∃ F, F = tlS p K i l ln n 0 0 0 (g (11 + k)) := ⟨_, rfl⟩
              rw [← hF] at b1
              have m1 : mOK (gs (va_up g (11 + k) F.2) 0 11 (nI 0)) 55 (33 * v) n p := mOK_eq hm (fun q _ => by rw [gs_oc (by omega), up_oc (by omega)])
              have m2 : gs (va_up g (11 + k) F.2) 0 11 (nI 0) 50 k = nI ln := by rw [gs_oc (by omega), up_oc (by omega)]; exact c2
              have m3 : gs (va_up g (11 + k) F.2) 0 11 (nI 0) 51 k = nI l := by rw [gs_oc (by omega), up_oc (by omega)]; exact h51
              obtain ⟨z1, z3, g3, d1, d2, d3, d4⟩ := mtel_L (L := L) (xs := xs) (r := r) (rs := rs) hv hk ht hl hK ei xN 0 0 0 (g (11 + k)) n (gs (va_up g (11 + k) F.2) 0 11 (nI 0)) (by omega) (by have := hc.1; unfold xN; omega) (by omega) (by omega) m1 m2 m3 (fun q hq => by rw [gs_oc (by omega), up_oc (by omega)]; exact (h5 q hq).symm)
              rw [← hF, Nat.sub_zero] at d1
              rw [← hF] at d2
              have mm' : f_X12_isMissing 84 (nI k) (wH L xs (gs (va_up g (11 + k) F.2) 0 11 (nI 0)) r rs) = some (nI 0, wH L xs (gs (va_up g (11 + k) F.2) 0 11 (nI 0)) r rs) := m_missing hk false ⟨ln, ht, m2⟩
              have G3 : ∀ c q, c ≠ 52 → c ≠ 11 + k → ¬ (c = 0 ∧ q = 11) → ¬ (c = 66 ∧ q = 4) → gs g3 66 4 (nI 0) c q = g c q := by
                intro c q x1 x3 x4 x5
                by_cases c6 : c = 66
                · subst c6; rw [gs_ok (by omega), d4 _ (by omega), gs_oc (by omega), up_oc (by omega)]
                · rw [gs_oc c6, d4 _ x1]
                  by_cases c0 : c = 0
                  · subst c0; rw [gs_ok (by omega), up_oc (by omega)]
                  · rw [gs_oc c0, up_oc x3]
              refine ⟨nI F.1, gs (va_up g (11 + k) F.2) 0 11 (nI 0), r, rs, gs g3 66 4 (nI 0), ?_, ?_, row_fin R (fun k' hk' => ?_) ?_ (fun c q x1 x2 x3 => G3 c q (by omega) (by omega) x2 x3), by omega, by omega⟩
              · unfold f_X11_tell
                rw [V1 hv, ob_s, if_neg n10, if_neg nK, R1 hk, ob_s, if_neg n10, wr_3_0, ob_s, wq_4' hk, ob_s, wir1 hk, ob_s, c1, if_pos n00, if_neg (show ¬ nI i < 0 from q_pos (by omega)), wir3 hk, ob_s, h4, if_pos (nI_le ei (by omega)), wr_3_1, ob_s, wq5v hv, ob_s, l_0, b1, ob_s, wk_3, if_pos rfl, e_fine, ob_s]
              · unfold f_X12_tell
                rw [V2 hv, ob_s, if_neg n10, if_neg nK, R2 hk, ob_s, if_neg n10, wk_84, if_pos rfl, mm', ob_s, if_pos n00, wr_84_1, ob_s, wa_86' hk, ob_s, m3, l_0, in_n (by omega) (by omega), ob_s, if_pos ei, if_neg (show ¬ nI 1 = nI 0 by decide), d1, ob_s, wk_84, if_pos rfl, m_well, ob_s]
              · have G : ∀ c, (c = 2 ∨ c = 3 ∨ c = 4 ∨ c = 50 ∨ c = 51) → gs g3 66 4 (nI 0) c k' = g c k' := fun c hc => G3 c k' (by omega) (by omega) (by omega) (by omega)
                rw [G 2 (by omega), G 3 (by omega), G 4 (by omega), G 50 (by omega), G 51 (by omega)]
                refine ⟨(R.row k' hk').1, (R.row k' hk').2.1, fun i' hi' => ?_⟩
                by_cases e : k' = k
                · subst e
                  rw [gs_oc (by omega), d4 _ (by omega), gs_oc (by omega), up_c, gs_oc (by omega), d2 i' hi']
                · rw [G3 (11 + k') i' (by omega) (by omega) (by omega) (by omega), gs_oc (by omega), d3 _ (by omega), gs_oc (by omega), up_oc (by omega)]
                  exact (R.row k' hk').2.2 i' hi'
              · rw [gs_same, gs_oc (by omega), d4 _ (by omega), gs_same]
            · refine fnd_n (f := 2) _ _ R ?_ ?_
              · unfold f_X11_tell
                rw [V1 hv, ob_s, if_neg n10, if_neg nK, R1 hk, ob_s, if_neg n10, wr_3_0, ob_s, wq_4' hk, ob_s, wir1 hk, ob_s, c1, if_pos n00, if_neg (show ¬ nI i < 0 from q_pos (by omega)), wir3 hk, ob_s, h4, if_neg (nI_ge (by omega) (by omega)), wk_3, if_pos rfl, e_found, ob_s]
                rfl
              · unfold f_X12_tell
                rw [V2 hv, ob_s, if_neg n10, if_neg nK, R2 hk, ob_s, if_neg n10, wk_84, if_pos rfl, mm, ob_s, if_pos n00, wr_84_1, ob_s, wa_86' hk, ob_s, m51, l_0, in_n (by omega) (by omega), ob_s, if_neg ei, if_pos rfl, wk_84, if_pos rfl, m_found, ob_s]
                rfl
      · refine RO.op ?_ R
        unfold RO f_X11_tell f_X12_tell
        have nK : ¬ nI K < 0 := q_pos hK
        refine ⟨-1000001, ?_, ?_⟩
        · rw [V1 hv, ob_s, if_neg n10, if_neg nK, h1, ob_s, if_pos n00]
        · rw [V2 hv, ob_s, if_neg n10, if_neg nK, h2, ob_s, if_pos n00]
  · refine RO.op ?_ R
    unfold RO f_X11_tell f_X12_tell
    refine ⟨-1000001, ?_, ?_⟩
    · rw [h1, ob_s, if_pos n00]
    · rw [h2, ob_s, if_pos n00]
end TELL
