theorem gs_n {g : xS} {c k c' k' : Nat} {x : Int32} (h : ¬ (c' = c ∧ k' = k)) : gs g c k x c' k' = g c' k' := by
  by_cases e : c' = c
  · subst e; exact gs_ok (fun e => h ⟨rfl, e⟩)
  · rw [gs_oc e]
theorem cmp_lt {x y : Int64} : lg_cmp x y < 0 ↔ x < y := by
  have hy := @Int64.lt_iff_toInt_lt x y
  have hy2 := @Int64.lt_iff_toInt_lt y x
  have he := @Int64.toInt_inj x y
  unfold lg_cmp
  by_cases h1 : y < x
  · rw [if_pos h1]
    exact ⟨fun h => absurd h (by decide), fun h => by rw [hy] at h; rw [hy2] at h1; omega⟩
  · rw [if_neg h1]
    by_cases h2 : x = y
    · rw [if_pos h2]
      exact ⟨fun h => absurd h (by decide), fun h => by rw [hy] at h; rw [h2] at h; omega⟩
    · rw [if_neg h2]
      refine ⟨fun _ => ?_, fun _ => by decide⟩
      rw [hy]
      rw [hy2] at h1
      rw [← he] at h2
      omega
theorem cmp_gt {x y : Int64} : 0 < lg_cmp x y ↔ y < x := by
  unfold lg_cmp
  by_cases h1 : y < x
  · rw [if_pos h1]
    exact ⟨fun _ => h1, fun _ => by decide⟩
  · rw [if_neg h1]
    by_cases h2 : x = y
    · rw [if_pos h2]
      exact ⟨fun h => absurd h (by decide), fun h => absurd h h1⟩
    · rw [if_neg h2]
      exact ⟨fun h => absurd h (by decide), fun h => absurd h h1⟩
theorem cmp_eq {x y : Int64} : lg_cmp x y = 0 ↔ x = y := by
  unfold lg_cmp
  by_cases h1 : y < x
  · rw [if_pos h1]
    exact ⟨fun h => absurd h (by decide), fun h => by rw [Int64.lt_iff_toInt_lt] at h1; rw [h] at h1; omega⟩
  · rw [if_neg h1]
    by_cases h2 : x = y
    · rw [if_pos h2]
      exact ⟨fun _ => h2, fun _ => rfl⟩
    · rw [if_neg h2]
      exact ⟨fun h => absurd h (by decide), fun h => absurd h h2⟩
/-- both ask alike whether a long is an int -/
theorem isInt_eq (a : Int64) (h : xH) : f_X12_isInt a h = f_X11_isInt a h := by
  have hr := fb_rngL a
  have e1 : (-2147483648 : Int64).toInt = -2147483648 := by decide
  have e2 : (2147483647 : Int64).toInt = 2147483647 := by decide
  have e3 : a.toInt32.toInt64.toInt = a.toInt.bmod (2 ^ 32) := by rw [Int32.toInt_toInt64, Int64.toInt_toInt32]
  unfold f_X12_isInt f_X11_isInt
  by_cases h1 : a < -2147483648
  · rw [if_pos (cmp_lt.mpr h1), if_neg]
    rw [cmp_eq, ← Int64.toInt_inj, e3]
    rw [Int64.lt_iff_toInt_lt, e1] at h1
    intro h
    have := Int.bmod_lt (x := a.toInt) (m := 2 ^ 32) (by decide)
    have := Int.le_bmod (x := a.toInt) (m := 2 ^ 32) (by decide)
    omega
  · rw [if_neg (fun h => h1 (cmp_lt.mp h))]
    by_cases h2 : 2147483647 < a
    · rw [if_pos (cmp_gt.mpr h2), if_neg]
      rw [cmp_eq, ← Int64.toInt_inj, e3]
      rw [Int64.lt_iff_toInt_lt, e2] at h2
      intro h
      have := Int.bmod_lt (x := a.toInt) (m := 2 ^ 32) (by decide)
      have := Int.le_bmod (x := a.toInt) (m := 2 ^ 32) (by decide)
      omega
    · rw [if_neg (fun h => h2 (cmp_gt.mp h)), if_pos]
      rw [cmp_eq, ← Int64.toInt_inj, e3]
      rw [Int64.lt_iff_toInt_lt, e1] at h1
      rw [Int64.lt_iff_toInt_lt, e2] at h2
      exact (Int.bmod_eq_of_le (by omega) (by omega)).symm
theorem isInt_01 (a : Int64) (h : xH) : f_X11_isInt a h = some (nI 0, h) ∨ f_X11_isInt a h = some (nI 1, h) := by
  unfold f_X11_isInt
  split
  · exact Or.inr rfl
  · exact Or.inl rfl
section FEED
variable {L : Nat} {xs : Nat → Int32} {g : xS} {r : Nat → Option Nat} {rs : xH} {v n : Nat} {p : Nat → Bool}
theorem o_feed (R : Rel g r rs) (x : Int32) : Op L xs g r rs (f_X11_feed 3 x) (f_X12_feed 84 x) := by
  obtain ⟨m, h1, h2, h3, h4, h5⟩ := R.tap
  rcases a_sp x with hx | ⟨i, hi, rfl⟩
  · refine RO.op ?_ R
    unfold RO f_X11_feed f_X12_feed
    exact ⟨-1000001, by simp (disch := omega) only [q_pos, q_pos', q_lt, q_le, q_eq, q_add, q_sub, q_mul, ob_s, if_pos, if_neg, not_false_eq_true, q_m1', q_div, rm_N, l_0, l_1, l_2, l_3, l_4, l_5, l_6, l_7, l_8, l_10, l_11, l_12, l_13, l_14, l_15, l_16, l_18, l_20, l_21, l_22, l_23, l_24, l_32, l_33, l_40, l_44, l_48, l_57, l_59, l_60, l_63, l_64, l_97, l_98, l_99, l_100, l_111, l_116, l_122, l_132, l_200, l_240, l_255, l_480, l_1000, l_1452, if_true, if_false, true_or, or_true, in_neg, in_m1, in_n, V1, V2, R1, R2, B1, B2, eq_self, ng1 hx], by simp (disch := omega) only [q_pos, q_pos', q_lt, q_le, q_eq, q_add, q_sub, q_mul, ob_s, if_pos, if_neg, not_false_eq_true, q_m1', q_div, rm_N, l_0, l_1, l_2, l_3, l_4, l_5, l_6, l_7, l_8, l_10, l_11, l_12, l_13, l_14, l_15, l_16, l_18, l_20, l_21, l_22, l_23, l_24, l_32, l_33, l_40, l_44, l_48, l_57, l_59, l_60, l_63, l_64, l_97, l_98, l_99, l_100, l_111, l_116, l_122, l_132, l_200, l_240, l_255, l_480, l_1000, l_1452, if_true, if_false, true_or, or_true, in_neg, in_m1, in_n, V1, V2, R1, R2, B1, B2, eq_self, in_neg hx]⟩
  · by_cases e : i ≤ 255
    · by_cases e6 : m = 60
      · subst e6
        refine RO.op ?_ R
        unfold RO f_X11_feed f_X12_feed f_X7_hasRoom
        exact ⟨-1000003, by simp (disch := omega) only [q_pos, q_pos', q_lt, q_le, q_eq, q_add, q_sub, q_mul, ob_s, if_pos, if_neg, not_false_eq_true, q_m1', q_div, rm_N, l_0, l_1, l_2, l_3, l_4, l_5, l_6, l_7, l_8, l_10, l_11, l_12, l_13, l_14, l_15, l_16, l_18, l_20, l_21, l_22, l_23, l_24, l_32, l_33, l_40, l_44, l_48, l_57, l_59, l_60, l_63, l_64, l_97, l_98, l_99, l_100, l_111, l_116, l_122, l_132, l_200, l_240, l_255, l_480, l_1000, l_1452, if_true, if_false, true_or, or_true, in_neg, in_m1, in_n, V1, V2, R1, R2, B1, B2, eq_self, wk_3, wk_10, wk_37, wk_42, wr_3_0, wr_3_1, wr_3_2, wr_3_3, wr_3_4, wr_3_5, wr_3_6, wr_3_7, wr_3_8, wi_3_9, wi_3_10, wi_3_11, wp_3_9, wp_3_10, wp_3_11, wr_10_0, wr_10_1, wi_10_2, wi_10_3, wp_10_2, wp_10_3, wr_37_0, wr_37_1, wr_37_2, wi_37_3, wp_37_3, wi_37_4, wp_37_4, wi_37_5, wp_37_5, wi_37_6, wp_37_6, wi_37_7, wp_37_7, wi_37_8, wp_37_8, wr_42_0, wi_42_1, wp_42_1, h2], by simp (disch := omega) only [q_pos, q_pos', q_lt, q_le, q_eq, q_add, q_sub, q_mul, ob_s, if_pos, if_neg, not_false_eq_true, q_m1', q_div, rm_N, l_0, l_1, l_2, l_3, l_4, l_5, l_6, l_7, l_8, l_10, l_11, l_12, l_13, l_14, l_15, l_16, l_18, l_20, l_21, l_22, l_23, l_24, l_32, l_33, l_40, l_44, l_48, l_57, l_59, l_60, l_63, l_64, l_97, l_98, l_99, l_100, l_111, l_116, l_122, l_132, l_200, l_240, l_255, l_480, l_1000, l_1452, if_true, if_false, true_or, or_true, in_neg, in_m1, in_n, V1, V2, R1, R2, B1, B2, eq_self, wk_84, wr_84_0, wr_84_1, wr_84_2, wr_84_3, wr_84_5, wr_84_13, wr_84_14, wr_84_15, wr_84_17, wr_84_18, wr_84_20, wr_84_21, wr_84_23, wr_84_24, wr_84_25, wr_84_26, wi_84_4, wp_84_4, wi_84_6, wp_84_6, wi_84_7, wp_84_7, wi_84_8, wp_84_8, wi_84_9, wp_84_9, wi_84_10, wp_84_10, wi_84_11, wp_84_11, wi_84_12, wp_84_12, wi_84_16, wp_84_16, wi_84_19, wp_84_19, wi_84_22, wp_84_22, wi_84_27, wp_84_27, h3]⟩
      · refine ⟨nI (m + 1), gs (gs g 6 m (nI i)) 46 3 (nI (m + 1)), r, rs, gs (gs (gs (gs g 6 m (nI i)) 46 3 (nI (m + 1))) 54 m (nI i)) 66 6 (nI (m + 1)), ?_, ?_, ?_, by omega, by omega⟩
        · unfold f_X11_feed f_X7_append f_X7_hasRoom
          simp (disch := omega) only [q_pos, q_pos', q_lt, q_le, q_eq, q_add, q_sub, q_mul, ob_s, if_pos, if_neg, not_false_eq_true, q_m1', q_div, rm_N, l_0, l_1, l_2, l_3, l_4, l_5, l_6, l_7, l_8, l_10, l_11, l_12, l_13, l_14, l_15, l_16, l_18, l_20, l_21, l_22, l_23, l_24, l_32, l_33, l_40, l_44, l_48, l_57, l_59, l_60, l_63, l_64, l_97, l_98, l_99, l_100, l_111, l_116, l_122, l_132, l_200, l_240, l_255, l_480, l_1000, l_1452, if_true, if_false, true_or, or_true, in_neg, in_m1, in_n, V1, V2, R1, R2, B1, B2, eq_self, wk_3, wk_10, wk_37, wk_42, wr_3_0, wr_3_1, wr_3_2, wr_3_3, wr_3_4, wr_3_5, wr_3_6, wr_3_7, wr_3_8, wi_3_9, wi_3_10, wi_3_11, wp_3_9, wp_3_10, wp_3_11, wr_10_0, wr_10_1, wi_10_2, wi_10_3, wp_10_2, wp_10_3, wr_37_0, wr_37_1, wr_37_2, wi_37_3, wp_37_3, wi_37_4, wp_37_4, wi_37_5, wp_37_5, wi_37_6, wp_37_6, wi_37_7, wp_37_7, wi_37_8, wp_37_8, wr_42_0, wi_42_1, wp_42_1, h2, wu_38', gs_oc, gs_same]
        · unfold f_X12_feed
          simp (disch := omega) only [q_pos, q_pos', q_lt, q_le, q_eq, q_add, q_sub, q_mul, ob_s, if_pos, if_neg, not_false_eq_true, q_m1', q_div, rm_N, l_0, l_1, l_2, l_3, l_4, l_5, l_6, l_7, l_8, l_10, l_11, l_12, l_13, l_14, l_15, l_16, l_18, l_20, l_21, l_22, l_23, l_24, l_32, l_33, l_40, l_44, l_48, l_57, l_59, l_60, l_63, l_64, l_97, l_98, l_99, l_100, l_111, l_116, l_122, l_132, l_200, l_240, l_255, l_480, l_1000, l_1452, if_true, if_false, true_or, or_true, in_neg, in_m1, in_n, V1, V2, R1, R2, B1, B2, eq_self, wk_84, wr_84_0, wr_84_1, wr_84_2, wr_84_3, wr_84_5, wr_84_13, wr_84_14, wr_84_15, wr_84_17, wr_84_18, wr_84_20, wr_84_21, wr_84_23, wr_84_24, wr_84_25, wr_84_26, wi_84_4, wp_84_4, wi_84_6, wp_84_6, wi_84_7, wp_84_7, wi_84_8, wp_84_8, wi_84_9, wp_84_9, wi_84_10, wp_84_10, wi_84_11, wp_84_11, wi_84_12, wp_84_12, wi_84_16, wp_84_16, wi_84_19, wp_84_19, wi_84_22, wp_84_22, wi_84_27, wp_84_27, h3, wu_89', gs_oc, gs_same]
        · have F : ∀ c k, c ≠ 6 → ¬ (c = 46 ∧ k = 3) → c ≠ 54 → ¬ (c = 66 ∧ k = 6) → gs (gs (gs (gs g 6 m (nI i)) 46 3 (nI (m + 1))) 54 m (nI i)) 66 6 (nI (m + 1)) c k = g c k := by
            intro c k x1 x2 x3 x4
            rw [gs_n x4, gs_oc x3, gs_n x2, gs_oc x1]
          refine ⟨rRow_c R.row (fun c k hc => F c k (by omega) (by omega) (by omega) (by omega)), ⟨m + 1, by omega, ?_, gs_same, fun j hj => ?_, fun j hj => ?_⟩, ⟨?_, ?_⟩, rVec_c R.vec (fun c k hc => F c k (by omega) (by omega) (by omega) (by omega)), rImg_c R.img (fun c k hc => F c k (by omega) (by omega) (by omega) (by omega)), rCh_c R.ch (fun k => F _ k (by omega) (by omega) (by omega) (by omega)), rTr_c R.tr (fun c k hc => F c k (by omega) (by omega) (by omega) (by omega)), rRun_c R.run (fun c k hc => F c k (by omega) (by omega) (by omega) (by omega)), rHis_c R.his (fun c k hc => F c k (by omega) (by omega) (by omega) (by omega))⟩
          · rw [gs_n (by omega), gs_n (by omega), gs_same]
          · rw [gs_n (by omega), gs_n (by omega), gs_n (by omega), gs_n (show ¬ (54 = 66 ∧ j = 6) by omega)]
            by_cases ej : j = m
            · subst ej
              rw [gs_same, gs_same]
            · rw [gs_n (by omega), gs_n (by omega), gs_n (by omega), gs_n (by omega)]
              exact h4 j hj
          · rw [gs_n (by omega), gs_n (by omega), gs_n (by omega)]
            by_cases ej : j = m
            · subst ej
              exact ⟨i, e, gs_same⟩
            · rw [gs_n (by omega)]
              exact h5 j (by omega)
          · rw [F 0 10 (by omega) (by omega) (by omega) (by omega), F 66 7 (by omega) (by omega) (by omega) (by omega)]
            exact R.fs.1
          · rw [F 0 11 (by omega) (by omega) (by omega) (by omega), F 66 4 (by omega) (by omega) (by omega) (by omega)]
            exact R.fs.2
    · refine RO.op ?_ R
      unfold RO f_X11_feed f_X12_feed
      exact ⟨-1000001, by simp (disch := omega) only [q_pos, q_pos', q_lt, q_le, q_eq, q_add, q_sub, q_mul, ob_s, if_pos, if_neg, not_false_eq_true, q_m1', q_div, rm_N, l_0, l_1, l_2, l_3, l_4, l_5, l_6, l_7, l_8, l_10, l_11, l_12, l_13, l_14, l_15, l_16, l_18, l_20, l_21, l_22, l_23, l_24, l_32, l_33, l_40, l_44, l_48, l_57, l_59, l_60, l_63, l_64, l_97, l_98, l_99, l_100, l_111, l_116, l_122, l_132, l_200, l_240, l_255, l_480, l_1000, l_1452, if_true, if_false, true_or, or_true, in_neg, in_m1, in_n, V1, V2, R1, R2, B1, B2, eq_self], by simp (disch := omega) only [q_pos, q_pos', q_lt, q_le, q_eq, q_add, q_sub, q_mul, ob_s, if_pos, if_neg, not_false_eq_true, q_m1', q_div, rm_N, l_0, l_1, l_2, l_3, l_4, l_5, l_6, l_7, l_8, l_10, l_11, l_12, l_13, l_14, l_15, l_16, l_18, l_20, l_21, l_22, l_23, l_24, l_32, l_33, l_40, l_44, l_48, l_57, l_59, l_60, l_63, l_64, l_97, l_98, l_99, l_100, l_111, l_116, l_122, l_132, l_200, l_240, l_255, l_480, l_1000, l_1452, if_true, if_false, true_or, or_true, in_neg, in_m1, in_n, V1, V2, R1, R2, B1, B2, eq_self]⟩
theorem cnt_L (R : rRow g) : ∀ m k a, k ≤ 8 → 8 < k + m → ∃ z y, f_X11_rowsThatAreThere_L4 m 3 (nI a) (nI k) (wH L xs g r rs) = some (z, y, wH L xs g r rs) ∧ f_X12_count_L42 m 84 (nI a) (nI k) (wH L xs g r rs) = some (z, y, wH L xs g r rs) := by
  intro m
  induction m with
  | zero => intro k a h1 h2; omega
  | succ m ih =>
    intro k a h1 h2
    unfold f_X11_rowsThatAreThere_L4 f_X12_count_L42
    by_cases hk : k = 8
    · subst hk
      exact ⟨nI a, nI 8, by simp (disch := omega) only [q_pos, q_pos', q_lt, q_le, q_eq, q_add, q_sub, q_mul, ob_s, if_pos, if_neg, not_false_eq_true, q_m1', q_div, rm_N, l_0, l_1, l_2, l_3, l_4, l_5, l_6, l_7, l_8, l_10, l_11, l_12, l_13, l_14, l_15, l_16, l_18, l_20, l_21, l_22, l_23, l_24, l_32, l_33, l_40, l_44, l_48, l_57, l_59, l_60, l_63, l_64, l_97, l_98, l_99, l_100, l_111, l_116, l_122, l_132, l_200, l_240, l_255, l_480, l_1000, l_1452, if_true, if_false, true_or, or_true, in_neg, in_m1, in_n, V1, V2, R1, R2, B1, B2, eq_self], by simp (disch := omega) only [q_pos, q_pos', q_lt, q_le, q_eq, q_add, q_sub, q_mul, ob_s, if_pos, if_neg, not_false_eq_true, q_m1', q_div, rm_N, l_0, l_1, l_2, l_3, l_4, l_5, l_6, l_7, l_8, l_10, l_11, l_12, l_13, l_14, l_15, l_16, l_18, l_20, l_21, l_22, l_23, l_24, l_32, l_33, l_40, l_44, l_48, l_57, l_59, l_60, l_63, l_64, l_97, l_98, l_99, l_100, l_111, l_116, l_122, l_132, l_200, l_240, l_255, l_480, l_1000, l_1452, if_true, if_false, true_or, or_true, in_neg, in_m1, in_n, V1, V2, R1, R2, B1, B2, eq_self]⟩
    · obtain ⟨l, hl, h4, h51, h5, hc⟩ := row_cases R (show k < 8 by omega)
      have l1 : (1 : Int32) = nI 1 := rfl
      rcases hc with ⟨c1, c2⟩ | ⟨t, ht, c1, c2, c3⟩
      · rw [l1] at c1
        have mm := m_missing (L := L) (xs := xs) (r := r) (rs := rs) (show k < 8 by omega) true c2
        simp (disch := omega) only [q_pos, q_pos', q_lt, q_le, q_eq, q_add, q_sub, q_mul, ob_s, if_pos, if_neg, not_false_eq_true, q_m1', q_div, rm_N, l_0, l_1, l_2, l_3, l_4, l_5, l_6, l_7, l_8, l_10, l_11, l_12, l_13, l_14, l_15, l_16, l_18, l_20, l_21, l_22, l_23, l_24, l_32, l_33, l_40, l_44, l_48, l_57, l_59, l_60, l_63, l_64, l_97, l_98, l_99, l_100, l_111, l_116, l_122, l_132, l_200, l_240, l_255, l_480, l_1000, l_1452, if_true, if_false, true_or, or_true, in_neg, in_m1, in_n, V1, V2, R1, R2, B1, B2, eq_self, wk_3, wk_10, wk_37, wk_42, wr_3_0, wr_3_1, wr_3_2, wr_3_3, wr_3_4, wr_3_5, wr_3_6, wr_3_7, wr_3_8, wi_3_9, wi_3_10, wi_3_11, wp_3_9, wp_3_10, wp_3_11, wr_10_0, wr_10_1, wi_10_2, wi_10_3, wp_10_2, wp_10_3, wr_37_0, wr_37_1, wr_37_2, wi_37_3, wp_37_3, wi_37_4, wp_37_4, wi_37_5, wp_37_5, wi_37_6, wp_37_6, wi_37_7, wp_37_7, wi_37_8, wp_37_8, wr_42_0, wi_42_1, wp_42_1, wk_84, wr_84_0, wr_84_1, wr_84_2, wr_84_3, wr_84_5, wr_84_13, wr_84_14, wr_84_15, wr_84_17, wr_84_18, wr_84_20, wr_84_21, wr_84_23, wr_84_24, wr_84_25, wr_84_26, wi_84_4, wp_84_4, wi_84_6, wp_84_6, wi_84_7, wp_84_7, wi_84_8, wp_84_8, wi_84_9, wp_84_9, wi_84_10, wp_84_10, wi_84_11, wp_84_11, wi_84_12, wp_84_12, wi_84_16, wp_84_16, wi_84_19, wp_84_19, wi_84_22, wp_84_22, wi_84_27, wp_84_27, wq_4', wir1, c1, mm, Bool.toNat_true, Nat.add_zero]
        exact ih (k + 1) a (by omega) (by omega)
      · have mm := m_missing (L := L) (xs := xs) (r := r) (rs := rs) (show k < 8 by omega) false ⟨t, ht, c2⟩
        simp (disch := omega) only [q_pos, q_pos', q_lt, q_le, q_eq, q_add, q_sub, q_mul, ob_s, if_pos, if_neg, not_false_eq_true, q_m1', q_div, rm_N, l_0, l_1, l_2, l_3, l_4, l_5, l_6, l_7, l_8, l_10, l_11, l_12, l_13, l_14, l_15, l_16, l_18, l_20, l_21, l_22, l_23, l_24, l_32, l_33, l_40, l_44, l_48, l_57, l_59, l_60, l_63, l_64, l_97, l_98, l_99, l_100, l_111, l_116, l_122, l_132, l_200, l_240, l_255, l_480, l_1000, l_1452, if_true, if_false, true_or, or_true, in_neg, in_m1, in_n, V1, V2, R1, R2, B1, B2, eq_self, wk_3, wk_10, wk_37, wk_42, wr_3_0, wr_3_1, wr_3_2, wr_3_3, wr_3_4, wr_3_5, wr_3_6, wr_3_7, wr_3_8, wi_3_9, wi_3_10, wi_3_11, wp_3_9, wp_3_10, wp_3_11, wr_10_0, wr_10_1, wi_10_2, wi_10_3, wp_10_2, wp_10_3, wr_37_0, wr_37_1, wr_37_2, wi_37_3, wp_37_3, wi_37_4, wp_37_4, wi_37_5, wp_37_5, wi_37_6, wp_37_6, wi_37_7, wp_37_7, wi_37_8, wp_37_8, wr_42_0, wi_42_1, wp_42_1, wk_84, wr_84_0, wr_84_1, wr_84_2, wr_84_3, wr_84_5, wr_84_13, wr_84_14, wr_84_15, wr_84_17, wr_84_18, wr_84_20, wr_84_21, wr_84_23, wr_84_24, wr_84_25, wr_84_26, wi_84_4, wp_84_4, wi_84_6, wp_84_6, wi_84_7, wp_84_7, wi_84_8, wp_84_8, wi_84_9, wp_84_9, wi_84_10, wp_84_10, wi_84_11, wp_84_11, wi_84_12, wp_84_12, wi_84_16, wp_84_16, wi_84_19, wp_84_19, wi_84_22, wp_84_22, wi_84_27, wp_84_27, wq_4', wir1, c1, mm, Bool.toNat_false]
        exact ih (k + 1) (a + 1) (by omega) (by omega)
theorem e_bitsOfAll_L {n0 n1 n2 n3 : Nat} (h0 : g 1 13 = nI n0) (h1 : g 1 14 = nI n1) (h2 : g 1 15 = nI n2) (h3 : g 1 16 = nI n3) (m : Nat) : f_X11_bitsOfAll_L4 (m + 5) 3 (nI 0) (nI 0) (wH L xs g r rs) = some (nI (n0 + n1 + n2 + n3), nI 4, wH L xs g r rs) := by
  rw [f_X11_bitsOfAll_L4]
  simp (disch := omega) only [q_pos, q_pos', q_lt, q_le, q_eq, q_add, q_sub, q_mul, ob_s, if_pos, if_neg, not_false_eq_true, q_m1', q_div, rm_N, l_0, l_1, l_2, l_3, l_4, l_5, l_6, l_7, l_8, l_10, l_11, l_12, l_13, l_14, l_15, l_16, l_18, l_20, l_21, l_22, l_23, l_24, l_32, l_33, l_40, l_44, l_48, l_57, l_59, l_60, l_63, l_64, l_97, l_98, l_99, l_100, l_111, l_116, l_122, l_132, l_200, l_240, l_255, l_480, l_1000, l_1452, if_true, if_false, true_or, or_true, in_neg, in_m1, in_n, V1, V2, R1, R2, B1, B2, eq_self, wk_3, wk_10, wk_37, wk_42, wr_3_0, wr_3_1, wr_3_2, wr_3_3, wr_3_4, wr_3_5, wr_3_6, wr_3_7, wr_3_8, wi_3_9, wi_3_10, wi_3_11, wp_3_9, wp_3_10, wp_3_11, wr_10_0, wr_10_1, wi_10_2, wi_10_3, wp_10_2, wp_10_3, wr_37_0, wr_37_1, wr_37_2, wi_37_3, wp_37_3, wi_37_4, wp_37_4, wi_37_5, wp_37_5, wi_37_6, wp_37_6, wi_37_7, wp_37_7, wi_37_8, wp_37_8, wr_42_0, wi_42_1, wp_42_1, wk_84, wr_84_0, wr_84_1, wr_84_2, wr_84_3, wr_84_5, wr_84_13, wr_84_14, wr_84_15, wr_84_17, wr_84_18, wr_84_20, wr_84_21, wr_84_23, wr_84_24, wr_84_25, wr_84_26, wi_84_4, wp_84_4, wi_84_6, wp_84_6, wi_84_7, wp_84_7, wi_84_8, wp_84_8, wi_84_9, wp_84_9, wi_84_10, wp_84_10, wi_84_11, wp_84_11, wi_84_12, wp_84_12, wi_84_16, wp_84_16, wi_84_19, wp_84_19, wi_84_22, wp_84_22, wi_84_27, wp_84_27, wq5v, wkv, wiv, wrv, wav', show 13 + 0 = 13 from rfl, h0]
  rw [f_X11_bitsOfAll_L4]
  simp (disch := omega) only [q_pos, q_pos', q_lt, q_le, q_eq, q_add, q_sub, q_mul, ob_s, if_pos, if_neg, not_false_eq_true, q_m1', q_div, rm_N, l_0, l_1, l_2, l_3, l_4, l_5, l_6, l_7, l_8, l_10, l_11, l_12, l_13, l_14, l_15, l_16, l_18, l_20, l_21, l_22, l_23, l_24, l_32, l_33, l_40, l_44, l_48, l_57, l_59, l_60, l_63, l_64, l_97, l_98, l_99, l_100, l_111, l_116, l_122, l_132, l_200, l_240, l_255, l_480, l_1000, l_1452, if_true, if_false, true_or, or_true, in_neg, in_m1, in_n, V1, V2, R1, R2, B1, B2, eq_self, wk_3, wk_10, wk_37, wk_42, wr_3_0, wr_3_1, wr_3_2, wr_3_3, wr_3_4, wr_3_5, wr_3_6, wr_3_7, wr_3_8, wi_3_9, wi_3_10, wi_3_11, wp_3_9, wp_3_10, wp_3_11, wr_10_0, wr_10_1, wi_10_2, wi_10_3, wp_10_2, wp_10_3, wr_37_0, wr_37_1, wr_37_2, wi_37_3, wp_37_3, wi_37_4, wp_37_4, wi_37_5, wp_37_5, wi_37_6, wp_37_6, wi_37_7, wp_37_7, wi_37_8, wp_37_8, wr_42_0, wi_42_1, wp_42_1, wk_84, wr_84_0, wr_84_1, wr_84_2, wr_84_3, wr_84_5, wr_84_13, wr_84_14, wr_84_15, wr_84_17, wr_84_18, wr_84_20, wr_84_21, wr_84_23, wr_84_24, wr_84_25, wr_84_26, wi_84_4, wp_84_4, wi_84_6, wp_84_6, wi_84_7, wp_84_7, wi_84_8, wp_84_8, wi_84_9, wp_84_9, wi_84_10, wp_84_10, wi_84_11, wp_84_11, wi_84_12, wp_84_12, wi_84_16, wp_84_16, wi_84_19, wp_84_19, wi_84_22, wp_84_22, wi_84_27, wp_84_27, wq5v, wkv, wiv, wrv, wav', Nat.zero_add, show 13 + 1 = 14 from rfl, h1]
  rw [f_X11_bitsOfAll_L4]
  simp (disch := omega) only [q_pos, q_pos', q_lt, q_le, q_eq, q_add, q_sub, q_mul, ob_s, if_pos, if_neg, not_false_eq_true, q_m1', q_div, rm_N, l_0, l_1, l_2, l_3, l_4, l_5, l_6, l_7, l_8, l_10, l_11, l_12, l_13, l_14, l_15, l_16, l_18, l_20, l_21, l_22, l_23, l_24, l_32, l_33, l_40, l_44, l_48, l_57, l_59, l_60, l_63, l_64, l_97, l_98, l_99, l_100, l_111, l_116, l_122, l_132, l_200, l_240, l_255, l_480, l_1000, l_1452, if_true, if_false, true_or, or_true, in_neg, in_m1, in_n, V1, V2, R1, R2, B1, B2, eq_self, wk_3, wk_10, wk_37, wk_42, wr_3_0, wr_3_1, wr_3_2, wr_3_3, wr_3_4, wr_3_5, wr_3_6, wr_3_7, wr_3_8, wi_3_9, wi_3_10, wi_3_11, wp_3_9, wp_3_10, wp_3_11, wr_10_0, wr_10_1, wi_10_2, wi_10_3, wp_10_2, wp_10_3, wr_37_0, wr_37_1, wr_37_2, wi_37_3, wp_37_3, wi_37_4, wp_37_4, wi_37_5, wp_37_5, wi_37_6, wp_37_6, wi_37_7, wp_37_7, wi_37_8, wp_37_8, wr_42_0, wi_42_1, wp_42_1, wk_84, wr_84_0, wr_84_1, wr_84_2, wr_84_3, wr_84_5, wr_84_13, wr_84_14, wr_84_15, wr_84_17, wr_84_18, wr_84_20, wr_84_21, wr_84_23, wr_84_24, wr_84_25, wr_84_26, wi_84_4, wp_84_4, wi_84_6, wp_84_6, wi_84_7, wp_84_7, wi_84_8, wp_84_8, wi_84_9, wp_84_9, wi_84_10, wp_84_10, wi_84_11, wp_84_11, wi_84_12, wp_84_12, wi_84_16, wp_84_16, wi_84_19, wp_84_19, wi_84_22, wp_84_22, wi_84_27, wp_84_27, wq5v, wkv, wiv, wrv, wav', show 1 + 1 = 2 from rfl, show 13 + 2 = 15 from rfl, h2]
  rw [f_X11_bitsOfAll_L4]
  simp (disch := omega) only [q_pos, q_pos', q_lt, q_le, q_eq, q_add, q_sub, q_mul, ob_s, if_pos, if_neg, not_false_eq_true, q_m1', q_div, rm_N, l_0, l_1, l_2, l_3, l_4, l_5, l_6, l_7, l_8, l_10, l_11, l_12, l_13, l_14, l_15, l_16, l_18, l_20, l_21, l_22, l_23, l_24, l_32, l_33, l_40, l_44, l_48, l_57, l_59, l_60, l_63, l_64, l_97, l_98, l_99, l_100, l_111, l_116, l_122, l_132, l_200, l_240, l_255, l_480, l_1000, l_1452, if_true, if_false, true_or, or_true, in_neg, in_m1, in_n, V1, V2, R1, R2, B1, B2, eq_self, wk_3, wk_10, wk_37, wk_42, wr_3_0, wr_3_1, wr_3_2, wr_3_3, wr_3_4, wr_3_5, wr_3_6, wr_3_7, wr_3_8, wi_3_9, wi_3_10, wi_3_11, wp_3_9, wp_3_10, wp_3_11, wr_10_0, wr_10_1, wi_10_2, wi_10_3, wp_10_2, wp_10_3, wr_37_0, wr_37_1, wr_37_2, wi_37_3, wp_37_3, wi_37_4, wp_37_4, wi_37_5, wp_37_5, wi_37_6, wp_37_6, wi_37_7, wp_37_7, wi_37_8, wp_37_8, wr_42_0, wi_42_1, wp_42_1, wk_84, wr_84_0, wr_84_1, wr_84_2, wr_84_3, wr_84_5, wr_84_13, wr_84_14, wr_84_15, wr_84_17, wr_84_18, wr_84_20, wr_84_21, wr_84_23, wr_84_24, wr_84_25, wr_84_26, wi_84_4, wp_84_4, wi_84_6, wp_84_6, wi_84_7, wp_84_7, wi_84_8, wp_84_8, wi_84_9, wp_84_9, wi_84_10, wp_84_10, wi_84_11, wp_84_11, wi_84_12, wp_84_12, wi_84_16, wp_84_16, wi_84_19, wp_84_19, wi_84_22, wp_84_22, wi_84_27, wp_84_27, wq5v, wkv, wiv, wrv, wav', show 2 + 1 = 3 from rfl, show 13 + 3 = 16 from rfl, h3]
  rw [f_X11_bitsOfAll_L4]
  simp (disch := omega) only [q_pos, q_pos', q_lt, q_le, q_eq, q_add, q_sub, q_mul, ob_s, if_pos, if_neg, not_false_eq_true, q_m1', q_div, rm_N, l_0, l_1, l_2, l_3, l_4, l_5, l_6, l_7, l_8, l_10, l_11, l_12, l_13, l_14, l_15, l_16, l_18, l_20, l_21, l_22, l_23, l_24, l_32, l_33, l_40, l_44, l_48, l_57, l_59, l_60, l_63, l_64, l_97, l_98, l_99, l_100, l_111, l_116, l_122, l_132, l_200, l_240, l_255, l_480, l_1000, l_1452, if_true, if_false, true_or, or_true, in_neg, in_m1, in_n, V1, V2, R1, R2, B1, B2, eq_self, wk_3, wk_10, wk_37, wk_42, wr_3_0, wr_3_1, wr_3_2, wr_3_3, wr_3_4, wr_3_5, wr_3_6, wr_3_7, wr_3_8, wi_3_9, wi_3_10, wi_3_11, wp_3_9, wp_3_10, wp_3_11, wr_10_0, wr_10_1, wi_10_2, wi_10_3, wp_10_2, wp_10_3, wr_37_0, wr_37_1, wr_37_2, wi_37_3, wp_37_3, wi_37_4, wp_37_4, wi_37_5, wp_37_5, wi_37_6, wp_37_6, wi_37_7, wp_37_7, wi_37_8, wp_37_8, wr_42_0, wi_42_1, wp_42_1, wk_84, wr_84_0, wr_84_1, wr_84_2, wr_84_3, wr_84_5, wr_84_13, wr_84_14, wr_84_15, wr_84_17, wr_84_18, wr_84_20, wr_84_21, wr_84_23, wr_84_24, wr_84_25, wr_84_26, wi_84_4, wp_84_4, wi_84_6, wp_84_6, wi_84_7, wp_84_7, wi_84_8, wp_84_8, wi_84_9, wp_84_9, wi_84_10, wp_84_10, wi_84_11, wp_84_11, wi_84_12, wp_84_12, wi_84_16, wp_84_16, wi_84_19, wp_84_19, wi_84_22, wp_84_22, wi_84_27, wp_84_27, wq5v, wkv, wiv, wrv, wav', show 3 + 1 = 4 from rfl]
theorem o_count (R : Rel g r rs) (x : Int32) : RO L xs g r rs (f_X11_count 3 x) (f_X12_count 84 x) := by
  unfold RO f_X11_count f_X12_count
  rcases a_sp x with hx | ⟨i, hi, rfl⟩
  · exact ⟨-1000001, by simp (disch := omega) only [q_pos, q_pos', q_lt, q_le, q_eq, q_add, q_sub, q_mul, ob_s, if_pos, if_neg, not_false_eq_true, q_m1', q_div, rm_N, l_0, l_1, l_2, l_3, l_4, l_5, l_6, l_7, l_8, l_10, l_11, l_12, l_13, l_14, l_15, l_16, l_18, l_20, l_21, l_22, l_23, l_24, l_32, l_33, l_40, l_44, l_48, l_57, l_59, l_60, l_63, l_64, l_97, l_98, l_99, l_100, l_111, l_116, l_122, l_132, l_200, l_240, l_255, l_480, l_1000, l_1452, if_true, if_false, true_or, or_true, in_neg, in_m1, in_n, V1, V2, R1, R2, B1, B2, eq_self, ng5 hx], by simp (disch := omega) only [q_pos, q_pos', q_lt, q_le, q_eq, q_add, q_sub, q_mul, ob_s, if_pos, if_neg, not_false_eq_true, q_m1', q_div, rm_N, l_0, l_1, l_2, l_3, l_4, l_5, l_6, l_7, l_8, l_10, l_11, l_12, l_13, l_14, l_15, l_16, l_18, l_20, l_21, l_22, l_23, l_24, l_32, l_33, l_40, l_44, l_48, l_57, l_59, l_60, l_63, l_64, l_97, l_98, l_99, l_100, l_111, l_116, l_122, l_132, l_200, l_240, l_255, l_480, l_1000, l_1452, if_true, if_false, true_or, or_true, in_neg, in_m1, in_n, V1, V2, R1, R2, B1, B2, eq_self, ng5 hx]⟩
  · obtain ⟨n0, p0, c0, m0⟩ := R.vec 0 (by omega)
    obtain ⟨n1, p1, c1, m1⟩ := R.vec 1 (by omega)
    obtain ⟨n2, p2, c2, m2⟩ := R.vec 2 (by omega)
    obtain ⟨n3, p3, c3, m3⟩ := R.vec 3 (by omega)
    by_cases e : i < 6
    · rcases (show i = 0 ∨ i = 1 ∨ i = 2 ∨ i = 3 ∨ i = 4 ∨ i = 5 by omega) with e | e | e | e | e | e
      · subst e
        obtain ⟨z, y, e1, e2⟩ := cnt_L (L := L) (xs := xs) (r := r) (rs := rs) R.row xN 0 0 (by omega) (by unfold xN; omega)
        refine ⟨z, ?_, ?_⟩
        · unfold f_X11_rowsThatAreThere
          simp (disch := omega) only [q_pos, q_pos', q_lt, q_le, q_eq, q_add, q_sub, q_mul, ob_s, if_pos, if_neg, not_false_eq_true, q_m1', q_div, rm_N, l_0, l_1, l_2, l_3, l_4, l_5, l_6, l_7, l_8, l_10, l_11, l_12, l_13, l_14, l_15, l_16, l_18, l_20, l_21, l_22, l_23, l_24, l_32, l_33, l_40, l_44, l_48, l_57, l_59, l_60, l_63, l_64, l_97, l_98, l_99, l_100, l_111, l_116, l_122, l_132, l_200, l_240, l_255, l_480, l_1000, l_1452, if_true, if_false, true_or, or_true, in_neg, in_m1, in_n, V1, V2, R1, R2, B1, B2, eq_self, wk_3, wk_10, wk_37, wk_42, wr_3_0, wr_3_1, wr_3_2, wr_3_3, wr_3_4, wr_3_5, wr_3_6, wr_3_7, wr_3_8, wi_3_9, wi_3_10, wi_3_11, wp_3_9, wp_3_10, wp_3_11, wr_10_0, wr_10_1, wi_10_2, wi_10_3, wp_10_2, wp_10_3, wr_37_0, wr_37_1, wr_37_2, wi_37_3, wp_37_3, wi_37_4, wp_37_4, wi_37_5, wp_37_5, wi_37_6, wp_37_6, wi_37_7, wp_37_7, wi_37_8, wp_37_8, wr_42_0, wi_42_1, wp_42_1, e1]
        · simp (disch := omega) only [q_pos, q_pos', q_lt, q_le, q_eq, q_add, q_sub, q_mul, ob_s, if_pos, if_neg, not_false_eq_true, q_m1', q_div, rm_N, l_0, l_1, l_2, l_3, l_4, l_5, l_6, l_7, l_8, l_10, l_11, l_12, l_13, l_14, l_15, l_16, l_18, l_20, l_21, l_22, l_23, l_24, l_32, l_33, l_40, l_44, l_48, l_57, l_59, l_60, l_63, l_64, l_97, l_98, l_99, l_100, l_111, l_116, l_122, l_132, l_200, l_240, l_255, l_480, l_1000, l_1452, if_true, if_false, true_or, or_true, in_neg, in_m1, in_n, V1, V2, R1, R2, B1, B2, eq_self, wk_3, wk_10, wk_37, wk_42, wr_3_0, wr_3_1, wr_3_2, wr_3_3, wr_3_4, wr_3_5, wr_3_6, wr_3_7, wr_3_8, wi_3_9, wi_3_10, wi_3_11, wp_3_9, wp_3_10, wp_3_11, wr_10_0, wr_10_1, wi_10_2, wi_10_3, wp_10_2, wp_10_3, wr_37_0, wr_37_1, wr_37_2, wi_37_3, wp_37_3, wi_37_4, wp_37_4, wi_37_5, wp_37_5, wi_37_6, wp_37_6, wi_37_7, wp_37_7, wi_37_8, wp_37_8, wr_42_0, wi_42_1, wp_42_1, e2]
      · subst e
        obtain ⟨m, a1, a2, a3, a4⟩ := R.run
        exact ⟨nI m, by simp (disch := omega) only [q_pos, q_pos', q_lt, q_le, q_eq, q_add, q_sub, q_mul, ob_s, if_pos, if_neg, not_false_eq_true, q_m1', q_div, rm_N, l_0, l_1, l_2, l_3, l_4, l_5, l_6, l_7, l_8, l_10, l_11, l_12, l_13, l_14, l_15, l_16, l_18, l_20, l_21, l_22, l_23, l_24, l_32, l_33, l_40, l_44, l_48, l_57, l_59, l_60, l_63, l_64, l_97, l_98, l_99, l_100, l_111, l_116, l_122, l_132, l_200, l_240, l_255, l_480, l_1000, l_1452, if_true, if_false, true_or, or_true, in_neg, in_m1, in_n, V1, V2, R1, R2, B1, B2, eq_self, wk_3, wk_10, wk_37, wk_42, wr_3_0, wr_3_1, wr_3_2, wr_3_3, wr_3_4, wr_3_5, wr_3_6, wr_3_7, wr_3_8, wi_3_9, wi_3_10, wi_3_11, wp_3_9, wp_3_10, wp_3_11, wr_10_0, wr_10_1, wi_10_2, wi_10_3, wp_10_2, wp_10_3, wr_37_0, wr_37_1, wr_37_2, wi_37_3, wp_37_3, wi_37_4, wp_37_4, wi_37_5, wp_37_5, wi_37_6, wp_37_6, wi_37_7, wp_37_7, wi_37_8, wp_37_8, wr_42_0, wi_42_1, wp_42_1, a2], by simp (disch := omega) only [q_pos, q_pos', q_lt, q_le, q_eq, q_add, q_sub, q_mul, ob_s, if_pos, if_neg, not_false_eq_true, q_m1', q_div, rm_N, l_0, l_1, l_2, l_3, l_4, l_5, l_6, l_7, l_8, l_10, l_11, l_12, l_13, l_14, l_15, l_16, l_18, l_20, l_21, l_22, l_23, l_24, l_32, l_33, l_40, l_44, l_48, l_57, l_59, l_60, l_63, l_64, l_97, l_98, l_99, l_100, l_111, l_116, l_122, l_132, l_200, l_240, l_255, l_480, l_1000, l_1452, if_true, if_false, true_or, or_true, in_neg, in_m1, in_n, V1, V2, R1, R2, B1, B2, eq_self, wk_84, wr_84_0, wr_84_1, wr_84_2, wr_84_3, wr_84_5, wr_84_13, wr_84_14, wr_84_15, wr_84_17, wr_84_18, wr_84_20, wr_84_21, wr_84_23, wr_84_24, wr_84_25, wr_84_26, wi_84_4, wp_84_4, wi_84_6, wp_84_6, wi_84_7, wp_84_7, wi_84_8, wp_84_8, wi_84_9, wp_84_9, wi_84_10, wp_84_10, wi_84_11, wp_84_11, wi_84_12, wp_84_12, wi_84_16, wp_84_16, wi_84_19, wp_84_19, wi_84_22, wp_84_22, wi_84_27, wp_84_27, a3]⟩
      · subst e
        refine ⟨nI (n0 + n1 + n2 + n3), ?_, ?_⟩
        · have eb := e_bitsOfAll_L (L := L) (xs := xs) (r := r) (rs := rs) c0.2.1 c1.2.1 c2.2.1 c3.2.1 1995
          have eb' : f_X11_bitsOfAll_L4 xN 3 (nI 0) (nI 0) (wH L xs g r rs) = some (nI (n0 + n1 + n2 + n3), nI 4, wH L xs g r rs) := eb
          unfold f_X11_bitsOfAll
          simp (disch := omega) only [q_pos, q_pos', q_lt, q_le, q_eq, q_add, q_sub, q_mul, ob_s, if_pos, if_neg, not_false_eq_true, q_m1', q_div, rm_N, l_0, l_1, l_2, l_3, l_4, l_5, l_6, l_7, l_8, l_10, l_11, l_12, l_13, l_14, l_15, l_16, l_18, l_20, l_21, l_22, l_23, l_24, l_32, l_33, l_40, l_44, l_48, l_57, l_59, l_60, l_63, l_64, l_97, l_98, l_99, l_100, l_111, l_116, l_122, l_132, l_200, l_240, l_255, l_480, l_1000, l_1452, if_true, if_false, true_or, or_true, in_neg, in_m1, in_n, V1, V2, R1, R2, B1, B2, eq_self, wk_3, wk_10, wk_37, wk_42, wr_3_0, wr_3_1, wr_3_2, wr_3_3, wr_3_4, wr_3_5, wr_3_6, wr_3_7, wr_3_8, wi_3_9, wi_3_10, wi_3_11, wp_3_9, wp_3_10, wp_3_11, wr_10_0, wr_10_1, wi_10_2, wi_10_3, wp_10_2, wp_10_3, wr_37_0, wr_37_1, wr_37_2, wi_37_3, wp_37_3, wi_37_4, wp_37_4, wi_37_5, wp_37_5, wi_37_6, wp_37_6, wi_37_7, wp_37_7, wi_37_8, wp_37_8, wr_42_0, wi_42_1, wp_42_1, eb']
        · simp (disch := omega) only [q_pos, q_pos', q_lt, q_le, q_eq, q_add, q_sub, q_mul, ob_s, if_pos, if_neg, not_false_eq_true, q_m1', q_div, rm_N, l_0, l_1, l_2, l_3, l_4, l_5, l_6, l_7, l_8, l_10, l_11, l_12, l_13, l_14, l_15, l_16, l_18, l_20, l_21, l_22, l_23, l_24, l_32, l_33, l_40, l_44, l_48, l_57, l_59, l_60, l_63, l_64, l_97, l_98, l_99, l_100, l_111, l_116, l_122, l_132, l_200, l_240, l_255, l_480, l_1000, l_1452, if_true, if_false, true_or, or_true, in_neg, in_m1, in_n, V1, V2, R1, R2, B1, B2, eq_self, wk_84, wr_84_0, wr_84_1, wr_84_2, wr_84_3, wr_84_5, wr_84_13, wr_84_14, wr_84_15, wr_84_17, wr_84_18, wr_84_20, wr_84_21, wr_84_23, wr_84_24, wr_84_25, wr_84_26, wi_84_4, wp_84_4, wi_84_6, wp_84_6, wi_84_7, wp_84_7, wi_84_8, wp_84_8, wi_84_9, wp_84_9, wi_84_10, wp_84_10, wi_84_11, wp_84_11, wi_84_12, wp_84_12, wi_84_16, wp_84_16, wi_84_19, wp_84_19, wi_84_22, wp_84_22, wi_84_27, wp_84_27, m_bitsOf (show 0 < 4 by omega) m0, m_bitsOf (show 1 < 4 by omega) m1, m_bitsOf (show 2 < 4 by omega) m2, m_bitsOf (show 3 < 4 by omega) m3]
      · subst e
        exact ⟨nI (fb_ct p0 n0 + fb_ct p1 n1 + fb_ct p2 n2 + fb_ct p3 n3), by simp (disch := omega) only [q_pos, q_pos', q_lt, q_le, q_eq, q_add, q_sub, q_mul, ob_s, if_pos, if_neg, not_false_eq_true, q_m1', q_div, rm_N, l_0, l_1, l_2, l_3, l_4, l_5, l_6, l_7, l_8, l_10, l_11, l_12, l_13, l_14, l_15, l_16, l_18, l_20, l_21, l_22, l_23, l_24, l_32, l_33, l_40, l_44, l_48, l_57, l_59, l_60, l_63, l_64, l_97, l_98, l_99, l_100, l_111, l_116, l_122, l_132, l_200, l_240, l_255, l_480, l_1000, l_1452, if_true, if_false, true_or, or_true, in_neg, in_m1, in_n, V1, V2, R1, R2, B1, B2, eq_self, wk_3, wk_10, wk_37, wk_42, wr_3_0, wr_3_1, wr_3_2, wr_3_3, wr_3_4, wr_3_5, wr_3_6, wr_3_7, wr_3_8, wi_3_9, wi_3_10, wi_3_11, wp_3_9, wp_3_10, wp_3_11, wr_10_0, wr_10_1, wi_10_2, wi_10_3, wp_10_2, wp_10_3, wr_37_0, wr_37_1, wr_37_2, wi_37_3, wp_37_3, wi_37_4, wp_37_4, wi_37_5, wp_37_5, wi_37_6, wp_37_6, wi_37_7, wp_37_7, wi_37_8, wp_37_8, wr_42_0, wi_42_1, wp_42_1, e_onesOfAll c0 c1 c2 c3], by simp (disch := omega) only [q_pos, q_pos', q_lt, q_le, q_eq, q_add, q_sub, q_mul, ob_s, if_pos, if_neg, not_false_eq_true, q_m1', q_div, rm_N, l_0, l_1, l_2, l_3, l_4, l_5, l_6, l_7, l_8, l_10, l_11, l_12, l_13, l_14, l_15, l_16, l_18, l_20, l_21, l_22, l_23, l_24, l_32, l_33, l_40, l_44, l_48, l_57, l_59, l_60, l_63, l_64, l_97, l_98, l_99, l_100, l_111, l_116, l_122, l_132, l_200, l_240, l_255, l_480, l_1000, l_1452, if_true, if_false, true_or, or_true, in_neg, in_m1, in_n, V1, V2, R1, R2, B1, B2, eq_self, wk_84, wr_84_0, wr_84_1, wr_84_2, wr_84_3, wr_84_5, wr_84_13, wr_84_14, wr_84_15, wr_84_17, wr_84_18, wr_84_20, wr_84_21, wr_84_23, wr_84_24, wr_84_25, wr_84_26, wi_84_4, wp_84_4, wi_84_6, wp_84_6, wi_84_7, wp_84_7, wi_84_8, wp_84_8, wi_84_9, wp_84_9, wi_84_10, wp_84_10, wi_84_11, wp_84_11, wi_84_12, wp_84_12, wi_84_16, wp_84_16, wi_84_19, wp_84_19, wi_84_22, wp_84_22, wi_84_27, wp_84_27, m_onesOfAll m0 m1 m2 m3]⟩
      · subst e
        obtain ⟨o, h, hh⟩ := R.his
        exact ⟨nI h, by simp (disch := omega) only [q_pos, q_pos', q_lt, q_le, q_eq, q_add, q_sub, q_mul, ob_s, if_pos, if_neg, not_false_eq_true, q_m1', q_div, rm_N, l_0, l_1, l_2, l_3, l_4, l_5, l_6, l_7, l_8, l_10, l_11, l_12, l_13, l_14, l_15, l_16, l_18, l_20, l_21, l_22, l_23, l_24, l_32, l_33, l_40, l_44, l_48, l_57, l_59, l_60, l_63, l_64, l_97, l_98, l_99, l_100, l_111, l_116, l_122, l_132, l_200, l_240, l_255, l_480, l_1000, l_1452, if_true, if_false, true_or, or_true, in_neg, in_m1, in_n, V1, V2, R1, R2, B1, B2, eq_self, wk_3, wk_10, wk_37, wk_42, wr_3_0, wr_3_1, wr_3_2, wr_3_3, wr_3_4, wr_3_5, wr_3_6, wr_3_7, wr_3_8, wi_3_9, wi_3_10, wi_3_11, wp_3_9, wp_3_10, wp_3_11, wr_10_0, wr_10_1, wi_10_2, wi_10_3, wp_10_2, wp_10_3, wr_37_0, wr_37_1, wr_37_2, wi_37_3, wp_37_3, wi_37_4, wp_37_4, wi_37_5, wp_37_5, wi_37_6, wp_37_6, wi_37_7, wp_37_7, wi_37_8, wp_37_8, wr_42_0, wi_42_1, wp_42_1, hh.2.2.2.1], by simp (disch := omega) only [q_pos, q_pos', q_lt, q_le, q_eq, q_add, q_sub, q_mul, ob_s, if_pos, if_neg, not_false_eq_true, q_m1', q_div, rm_N, l_0, l_1, l_2, l_3, l_4, l_5, l_6, l_7, l_8, l_10, l_11, l_12, l_13, l_14, l_15, l_16, l_18, l_20, l_21, l_22, l_23, l_24, l_32, l_33, l_40, l_44, l_48, l_57, l_59, l_60, l_63, l_64, l_97, l_98, l_99, l_100, l_111, l_116, l_122, l_132, l_200, l_240, l_255, l_480, l_1000, l_1452, if_true, if_false, true_or, or_true, in_neg, in_m1, in_n, V1, V2, R1, R2, B1, B2, eq_self, wk_84, wr_84_0, wr_84_1, wr_84_2, wr_84_3, wr_84_5, wr_84_13, wr_84_14, wr_84_15, wr_84_17, wr_84_18, wr_84_20, wr_84_21, wr_84_23, wr_84_24, wr_84_25, wr_84_26, wi_84_4, wp_84_4, wi_84_6, wp_84_6, wi_84_7, wp_84_7, wi_84_8, wp_84_8, wi_84_9, wp_84_9, wi_84_10, wp_84_10, wi_84_11, wp_84_11, wi_84_12, wp_84_12, wi_84_16, wp_84_16, wi_84_19, wp_84_19, wi_84_22, wp_84_22, wi_84_27, wp_84_27, hh.2.2.2.2.1]⟩
      · subst e
        obtain ⟨m, h1, h2, h3, h4, h5⟩ := R.tap
        exact ⟨nI m, by simp (disch := omega) only [q_pos, q_pos', q_lt, q_le, q_eq, q_add, q_sub, q_mul, ob_s, if_pos, if_neg, not_false_eq_true, q_m1', q_div, rm_N, l_0, l_1, l_2, l_3, l_4, l_5, l_6, l_7, l_8, l_10, l_11, l_12, l_13, l_14, l_15, l_16, l_18, l_20, l_21, l_22, l_23, l_24, l_32, l_33, l_40, l_44, l_48, l_57, l_59, l_60, l_63, l_64, l_97, l_98, l_99, l_100, l_111, l_116, l_122, l_132, l_200, l_240, l_255, l_480, l_1000, l_1452, if_true, if_false, true_or, or_true, in_neg, in_m1, in_n, V1, V2, R1, R2, B1, B2, eq_self, wk_3, wk_10, wk_37, wk_42, wr_3_0, wr_3_1, wr_3_2, wr_3_3, wr_3_4, wr_3_5, wr_3_6, wr_3_7, wr_3_8, wi_3_9, wi_3_10, wi_3_11, wp_3_9, wp_3_10, wp_3_11, wr_10_0, wr_10_1, wi_10_2, wi_10_3, wp_10_2, wp_10_3, wr_37_0, wr_37_1, wr_37_2, wi_37_3, wp_37_3, wi_37_4, wp_37_4, wi_37_5, wp_37_5, wi_37_6, wp_37_6, wi_37_7, wp_37_7, wi_37_8, wp_37_8, wr_42_0, wi_42_1, wp_42_1, h2], by simp (disch := omega) only [q_pos, q_pos', q_lt, q_le, q_eq, q_add, q_sub, q_mul, ob_s, if_pos, if_neg, not_false_eq_true, q_m1', q_div, rm_N, l_0, l_1, l_2, l_3, l_4, l_5, l_6, l_7, l_8, l_10, l_11, l_12, l_13, l_14, l_15, l_16, l_18, l_20, l_21, l_22, l_23, l_24, l_32, l_33, l_40, l_44, l_48, l_57, l_59, l_60, l_63, l_64, l_97, l_98, l_99, l_100, l_111, l_116, l_122, l_132, l_200, l_240, l_255, l_480, l_1000, l_1452, if_true, if_false, true_or, or_true, in_neg, in_m1, in_n, V1, V2, R1, R2, B1, B2, eq_self, wk_84, wr_84_0, wr_84_1, wr_84_2, wr_84_3, wr_84_5, wr_84_13, wr_84_14, wr_84_15, wr_84_17, wr_84_18, wr_84_20, wr_84_21, wr_84_23, wr_84_24, wr_84_25, wr_84_26, wi_84_4, wp_84_4, wi_84_6, wp_84_6, wi_84_7, wp_84_7, wi_84_8, wp_84_8, wi_84_9, wp_84_9, wi_84_10, wp_84_10, wi_84_11, wp_84_11, wi_84_12, wp_84_12, wi_84_16, wp_84_16, wi_84_19, wp_84_19, wi_84_22, wp_84_22, wi_84_27, wp_84_27, h3]⟩
    · exact ⟨-1000001, by simp (disch := omega) only [q_pos, q_pos', q_lt, q_le, q_eq, q_add, q_sub, q_mul, ob_s, if_pos, if_neg, not_false_eq_true, q_m1', q_div, rm_N, l_0, l_1, l_2, l_3, l_4, l_5, l_6, l_7, l_8, l_10, l_11, l_12, l_13, l_14, l_15, l_16, l_18, l_20, l_21, l_22, l_23, l_24, l_32, l_33, l_40, l_44, l_48, l_57, l_59, l_60, l_63, l_64, l_97, l_98, l_99, l_100, l_111, l_116, l_122, l_132, l_200, l_240, l_255, l_480, l_1000, l_1452, if_true, if_false, true_or, or_true, in_neg, in_m1, in_n, V1, V2, R1, R2, B1, B2, eq_self], by simp (disch := omega) only [q_pos, q_pos', q_lt, q_le, q_eq, q_add, q_sub, q_mul, ob_s, if_pos, if_neg, not_false_eq_true, q_m1', q_div, rm_N, l_0, l_1, l_2, l_3, l_4, l_5, l_6, l_7, l_8, l_10, l_11, l_12, l_13, l_14, l_15, l_16, l_18, l_20, l_21, l_22, l_23, l_24, l_32, l_33, l_40, l_44, l_48, l_57, l_59, l_60, l_63, l_64, l_97, l_98, l_99, l_100, l_111, l_116, l_122, l_132, l_200, l_240, l_255, l_480, l_1000, l_1452, if_true, if_false, true_or, or_true, in_neg, in_m1, in_n, V1, V2, R1, R2, B1, B2, eq_self]⟩
theorem wgt_L (hv : v < 4) (hc : vOK g (13 + v) n p) (hm : mOK g 55 (33 * v) n p) (x : Int32) : ∀ m k (S : Int64), k ≤ n → n < k + m → ∃ y f, f_X11_weight_L23 m 3 x (vO (13 + v)) S (nI k) (wH L xs g r rs) = some (y, wH L xs (gs g 0 11 f) r rs) ∧ f_X12_weight_L15 m 84 (nI v) x S (nI k) (wH L xs (gs g 0 11 f) r rs) = some (y, wH L xs (gs (gs g 0 11 f) 66 4 f) r rs) := by
  have hn := hc.1
  have hm' : ∀ f, mOK (gs g 0 11 f) 55 (33 * v) n p := fun f => mOK_eq hm (fun k hk => gs_n (by omega))
  intro m
  induction m with
  | zero => intro k S h1 h2; omega
  | succ m ih =>
    intro k S h1 h2
    unfold f_X11_weight_L23 f_X12_weight_L15
    by_cases hk : k = n
    · subst hk
      exact ⟨S.toInt32, nI 0, by simp (disch := omega) only [q_pos, q_pos', q_lt, q_le, q_eq, q_add, q_sub, q_mul, ob_s, if_pos, if_neg, not_false_eq_true, q_m1', q_div, rm_N, l_0, l_1, l_2, l_3, l_4, l_5, l_6, l_7, l_8, l_10, l_11, l_12, l_13, l_14, l_15, l_16, l_18, l_20, l_21, l_22, l_23, l_24, l_32, l_33, l_40, l_44, l_48, l_57, l_59, l_60, l_63, l_64, l_97, l_98, l_99, l_100, l_111, l_116, l_122, l_132, l_200, l_240, l_255, l_480, l_1000, l_1452, if_true, if_false, true_or, or_true, in_neg, in_m1, in_n, V1, V2, R1, R2, B1, B2, eq_self, wk_3, wk_10, wk_37, wk_42, wr_3_0, wr_3_1, wr_3_2, wr_3_3, wr_3_4, wr_3_5, wr_3_6, wr_3_7, wr_3_8, wi_3_9, wi_3_10, wi_3_11, wp_3_9, wp_3_10, wp_3_11, wr_10_0, wr_10_1, wi_10_2, wi_10_3, wp_10_2, wp_10_3, wr_37_0, wr_37_1, wr_37_2, wi_37_3, wp_37_3, wi_37_4, wp_37_4, wi_37_5, wp_37_5, wi_37_6, wp_37_6, wi_37_7, wp_37_7, wi_37_8, wp_37_8, wr_42_0, wi_42_1, wp_42_1, wk_84, wr_84_0, wr_84_1, wr_84_2, wr_84_3, wr_84_5, wr_84_13, wr_84_14, wr_84_15, wr_84_17, wr_84_18, wr_84_20, wr_84_21, wr_84_23, wr_84_24, wr_84_25, wr_84_26, wi_84_4, wp_84_4, wi_84_6, wp_84_6, wi_84_7, wp_84_7, wi_84_8, wp_84_8, wi_84_9, wp_84_9, wi_84_10, wp_84_10, wi_84_11, wp_84_11, wi_84_12, wp_84_12, wi_84_16, wp_84_16, wi_84_19, wp_84_19, wi_84_22, wp_84_22, wi_84_27, wp_84_27, wq5v, wkv, wiv, wrv, wav', hc.2.1, e_fine], by simp (disch := omega) only [q_pos, q_pos', q_lt, q_le, q_eq, q_add, q_sub, q_mul, ob_s, if_pos, if_neg, not_false_eq_true, q_m1', q_div, rm_N, l_0, l_1, l_2, l_3, l_4, l_5, l_6, l_7, l_8, l_10, l_11, l_12, l_13, l_14, l_15, l_16, l_18, l_20, l_21, l_22, l_23, l_24, l_32, l_33, l_40, l_44, l_48, l_57, l_59, l_60, l_63, l_64, l_97, l_98, l_99, l_100, l_111, l_116, l_122, l_132, l_200, l_240, l_255, l_480, l_1000, l_1452, if_true, if_false, true_or, or_true, in_neg, in_m1, in_n, V1, V2, R1, R2, B1, B2, eq_self, wk_3, wk_10, wk_37, wk_42, wr_3_0, wr_3_1, wr_3_2, wr_3_3, wr_3_4, wr_3_5, wr_3_6, wr_3_7, wr_3_8, wi_3_9, wi_3_10, wi_3_11, wp_3_9, wp_3_10, wp_3_11, wr_10_0, wr_10_1, wi_10_2, wi_10_3, wp_10_2, wp_10_3, wr_37_0, wr_37_1, wr_37_2, wi_37_3, wp_37_3, wi_37_4, wp_37_4, wi_37_5, wp_37_5, wi_37_6, wp_37_6, wi_37_7, wp_37_7, wi_37_8, wp_37_8, wr_42_0, wi_42_1, wp_42_1, wk_84, wr_84_0, wr_84_1, wr_84_2, wr_84_3, wr_84_5, wr_84_13, wr_84_14, wr_84_15, wr_84_17, wr_84_18, wr_84_20, wr_84_21, wr_84_23, wr_84_24, wr_84_25, wr_84_26, wi_84_4, wp_84_4, wi_84_6, wp_84_6, wi_84_7, wp_84_7, wi_84_8, wp_84_8, wi_84_9, wp_84_9, wi_84_10, wp_84_10, wi_84_11, wp_84_11, wi_84_12, wp_84_12, wi_84_16, wp_84_16, wi_84_19, wp_84_19, wi_84_22, wp_84_22, wi_84_27, wp_84_27, wq5v, wkv, wiv, wrv, wav', m_bitsOf hv (hm' _), m_well]⟩
    · simp (disch := omega) only [q_pos, q_pos', q_lt, q_le, q_eq, q_add, q_sub, q_mul, ob_s, if_pos, if_neg, not_false_eq_true, q_m1', q_div, rm_N, l_0, l_1, l_2, l_3, l_4, l_5, l_6, l_7, l_8, l_10, l_11, l_12, l_13, l_14, l_15, l_16, l_18, l_20, l_21, l_22, l_23, l_24, l_32, l_33, l_40, l_44, l_48, l_57, l_59, l_60, l_63, l_64, l_97, l_98, l_99, l_100, l_111, l_116, l_122, l_132, l_200, l_240, l_255, l_480, l_1000, l_1452, if_true, if_false, true_or, or_true, in_neg, in_m1, in_n, V1, V2, R1, R2, B1, B2, eq_self, wk_3, wk_10, wk_37, wk_42, wr_3_0, wr_3_1, wr_3_2, wr_3_3, wr_3_4, wr_3_5, wr_3_6, wr_3_7, wr_3_8, wi_3_9, wi_3_10, wi_3_11, wp_3_9, wp_3_10, wp_3_11, wr_10_0, wr_10_1, wi_10_2, wi_10_3, wp_10_2, wp_10_3, wr_37_0, wr_37_1, wr_37_2, wi_37_3, wp_37_3, wi_37_4, wp_37_4, wi_37_5, wp_37_5, wi_37_6, wp_37_6, wi_37_7, wp_37_7, wi_37_8, wp_37_8, wr_42_0, wi_42_1, wp_42_1, wk_84, wr_84_0, wr_84_1, wr_84_2, wr_84_3, wr_84_5, wr_84_13, wr_84_14, wr_84_15, wr_84_17, wr_84_18, wr_84_20, wr_84_21, wr_84_23, wr_84_24, wr_84_25, wr_84_26, wi_84_4, wp_84_4, wi_84_6, wp_84_6, wi_84_7, wp_84_7, wi_84_8, wp_84_8, wi_84_9, wp_84_9, wi_84_10, wp_84_10, wi_84_11, wp_84_11, wi_84_12, wp_84_12, wi_84_16, wp_84_16, wi_84_19, wp_84_19, wi_84_22, wp_84_22, wi_84_27, wp_84_27, wq5v, wkv, wiv, wrv, wav', hc.2.1, e_bitAt (show 13 + v < 25 by omega) hc (show k < n by omega), m_bitsOf hv (hm' _), m_bit hr90 hv (hm' _).2.2.2, bqt, isInt_eq]
      by_cases hb : p k = true
      · simp only [hb, if_true]
        have i1 := isInt_01 (((nI k).toInt64 + 1) * x.toInt64)
        have i2 := isInt_01 (S + ((nI k).toInt64 + 1) * x.toInt64)
        generalize ((nI k).toInt64 + 1) * x.toInt64 = P at i1 i2 ⊢
        unfold f_X11_isInt at i1 i2 ⊢
        by_cases h1' : lg_cmp P P.toInt32.toInt64 = 0
        · by_cases h2' : lg_cmp (S + P) (S + P).toInt32.toInt64 = 0
          · simp (disch := omega) only [h1', h2', q_pos, q_pos', q_lt, q_le, q_eq, q_add, q_sub, q_mul, ob_s, if_pos, if_neg, not_false_eq_true, q_m1', q_div, rm_N, l_0, l_1, l_2, l_3, l_4, l_5, l_6, l_7, l_8, l_10, l_11, l_12, l_13, l_14, l_15, l_16, l_18, l_20, l_21, l_22, l_23, l_24, l_32, l_33, l_40, l_44, l_48, l_57, l_59, l_60, l_63, l_64, l_97, l_98, l_99, l_100, l_111, l_116, l_122, l_132, l_200, l_240, l_255, l_480, l_1000, l_1452, if_true, if_false, true_or, or_true, in_neg, in_m1, in_n, V1, V2, R1, R2, B1, B2, eq_self, wk_3, wk_10, wk_37, wk_42, wr_3_0, wr_3_1, wr_3_2, wr_3_3, wr_3_4, wr_3_5, wr_3_6, wr_3_7, wr_3_8, wi_3_9, wi_3_10, wi_3_11, wp_3_9, wp_3_10, wp_3_11, wr_10_0, wr_10_1, wi_10_2, wi_10_3, wp_10_2, wp_10_3, wr_37_0, wr_37_1, wr_37_2, wi_37_3, wp_37_3, wi_37_4, wp_37_4, wi_37_5, wp_37_5, wi_37_6, wp_37_6, wi_37_7, wp_37_7, wi_37_8, wp_37_8, wr_42_0, wi_42_1, wp_42_1, wk_84, wr_84_0, wr_84_1, wr_84_2, wr_84_3, wr_84_5, wr_84_13, wr_84_14, wr_84_15, wr_84_17, wr_84_18, wr_84_20, wr_84_21, wr_84_23, wr_84_24, wr_84_25, wr_84_26, wi_84_4, wp_84_4, wi_84_6, wp_84_6, wi_84_7, wp_84_7, wi_84_8, wp_84_8, wi_84_9, wp_84_9, wi_84_10, wp_84_10, wi_84_11, wp_84_11, wi_84_12, wp_84_12, wi_84_16, wp_84_16, wi_84_19, wp_84_19, wi_84_22, wp_84_22, wi_84_27, wp_84_27, wq5v, wkv, wiv, wrv, wav']
            exact ih (k + 1) (S + P) (by omega) (by omega)
          · refine ⟨-1000010 - nI 6, nI 6, ?_, ?_⟩
            · simp (disch := omega) only [h1', h2', q_pos, q_pos', q_lt, q_le, q_eq, q_add, q_sub, q_mul, ob_s, if_pos, if_neg, not_false_eq_true, q_m1', q_div, rm_N, l_0, l_1, l_2, l_3, l_4, l_5, l_6, l_7, l_8, l_10, l_11, l_12, l_13, l_14, l_15, l_16, l_18, l_20, l_21, l_22, l_23, l_24, l_32, l_33, l_40, l_44, l_48, l_57, l_59, l_60, l_63, l_64, l_97, l_98, l_99, l_100, l_111, l_116, l_122, l_132, l_200, l_240, l_255, l_480, l_1000, l_1452, if_true, if_false, true_or, or_true, in_neg, in_m1, in_n, V1, V2, R1, R2, B1, B2, eq_self, wk_3, wk_10, wk_37, wk_42, wr_3_0, wr_3_1, wr_3_2, wr_3_3, wr_3_4, wr_3_5, wr_3_6, wr_3_7, wr_3_8, wi_3_9, wi_3_10, wi_3_11, wp_3_9, wp_3_10, wp_3_11, wr_10_0, wr_10_1, wi_10_2, wi_10_3, wp_10_2, wp_10_3, wr_37_0, wr_37_1, wr_37_2, wi_37_3, wp_37_3, wi_37_4, wp_37_4, wi_37_5, wp_37_5, wi_37_6, wp_37_6, wi_37_7, wp_37_7, wi_37_8, wp_37_8, wr_42_0, wi_42_1, wp_42_1, wk_84, wr_84_0, wr_84_1, wr_84_2, wr_84_3, wr_84_5, wr_84_13, wr_84_14, wr_84_15, wr_84_17, wr_84_18, wr_84_20, wr_84_21, wr_84_23, wr_84_24, wr_84_25, wr_84_26, wi_84_4, wp_84_4, wi_84_6, wp_84_6, wi_84_7, wp_84_7, wi_84_8, wp_84_8, wi_84_9, wp_84_9, wi_84_10, wp_84_10, wi_84_11, wp_84_11, wi_84_12, wp_84_12, wi_84_16, wp_84_16, wi_84_19, wp_84_19, wi_84_22, wp_84_22, wi_84_27, wp_84_27, wq5v, wkv, wiv, wrv, wav', e_found]
            · simp (disch := omega) only [h1', h2', q_pos, q_pos', q_lt, q_le, q_eq, q_add, q_sub, q_mul, ob_s, if_pos, if_neg, not_false_eq_true, q_m1', q_div, rm_N, l_0, l_1, l_2, l_3, l_4, l_5, l_6, l_7, l_8, l_10, l_11, l_12, l_13, l_14, l_15, l_16, l_18, l_20, l_21, l_22, l_23, l_24, l_32, l_33, l_40, l_44, l_48, l_57, l_59, l_60, l_63, l_64, l_97, l_98, l_99, l_100, l_111, l_116, l_122, l_132, l_200, l_240, l_255, l_480, l_1000, l_1452, if_true, if_false, true_or, or_true, in_neg, in_m1, in_n, V1, V2, R1, R2, B1, B2, eq_self, wk_3, wk_10, wk_37, wk_42, wr_3_0, wr_3_1, wr_3_2, wr_3_3, wr_3_4, wr_3_5, wr_3_6, wr_3_7, wr_3_8, wi_3_9, wi_3_10, wi_3_11, wp_3_9, wp_3_10, wp_3_11, wr_10_0, wr_10_1, wi_10_2, wi_10_3, wp_10_2, wp_10_3, wr_37_0, wr_37_1, wr_37_2, wi_37_3, wp_37_3, wi_37_4, wp_37_4, wi_37_5, wp_37_5, wi_37_6, wp_37_6, wi_37_7, wp_37_7, wi_37_8, wp_37_8, wr_42_0, wi_42_1, wp_42_1, wk_84, wr_84_0, wr_84_1, wr_84_2, wr_84_3, wr_84_5, wr_84_13, wr_84_14, wr_84_15, wr_84_17, wr_84_18, wr_84_20, wr_84_21, wr_84_23, wr_84_24, wr_84_25, wr_84_26, wi_84_4, wp_84_4, wi_84_6, wp_84_6, wi_84_7, wp_84_7, wi_84_8, wp_84_8, wi_84_9, wp_84_9, wi_84_10, wp_84_10, wi_84_11, wp_84_11, wi_84_12, wp_84_12, wi_84_16, wp_84_16, wi_84_19, wp_84_19, wi_84_22, wp_84_22, wi_84_27, wp_84_27, wq5v, wkv, wiv, wrv, wav', m_found]
        · refine ⟨-1000010 - nI 6, nI 6, ?_, ?_⟩
          · simp (disch := omega) only [h1', q_pos, q_pos', q_lt, q_le, q_eq, q_add, q_sub, q_mul, ob_s, if_pos, if_neg, not_false_eq_true, q_m1', q_div, rm_N, l_0, l_1, l_2, l_3, l_4, l_5, l_6, l_7, l_8, l_10, l_11, l_12, l_13, l_14, l_15, l_16, l_18, l_20, l_21, l_22, l_23, l_24, l_32, l_33, l_40, l_44, l_48, l_57, l_59, l_60, l_63, l_64, l_97, l_98, l_99, l_100, l_111, l_116, l_122, l_132, l_200, l_240, l_255, l_480, l_1000, l_1452, if_true, if_false, true_or, or_true, in_neg, in_m1, in_n, V1, V2, R1, R2, B1, B2, eq_self, wk_3, wk_10, wk_37, wk_42, wr_3_0, wr_3_1, wr_3_2, wr_3_3, wr_3_4, wr_3_5, wr_3_6, wr_3_7, wr_3_8, wi_3_9, wi_3_10, wi_3_11, wp_3_9, wp_3_10, wp_3_11, wr_10_0, wr_10_1, wi_10_2, wi_10_3, wp_10_2, wp_10_3, wr_37_0, wr_37_1, wr_37_2, wi_37_3, wp_37_3, wi_37_4, wp_37_4, wi_37_5, wp_37_5, wi_37_6, wp_37_6, wi_37_7, wp_37_7, wi_37_8, wp_37_8, wr_42_0, wi_42_1, wp_42_1, wk_84, wr_84_0, wr_84_1, wr_84_2, wr_84_3, wr_84_5, wr_84_13, wr_84_14, wr_84_15, wr_84_17, wr_84_18, wr_84_20, wr_84_21, wr_84_23, wr_84_24, wr_84_25, wr_84_26, wi_84_4, wp_84_4, wi_84_6, wp_84_6, wi_84_7, wp_84_7, wi_84_8, wp_84_8, wi_84_9, wp_84_9, wi_84_10, wp_84_10, wi_84_11, wp_84_11, wi_84_12, wp_84_12, wi_84_16, wp_84_16, wi_84_19, wp_84_19, wi_84_22, wp_84_22, wi_84_27, wp_84_27, wq5v, wkv, wiv, wrv, wav', e_found]
          · simp (disch := omega) only [h1', q_pos, q_pos', q_lt, q_le, q_eq, q_add, q_sub, q_mul, ob_s, if_pos, if_neg, not_false_eq_true, q_m1', q_div, rm_N, l_0, l_1, l_2, l_3, l_4, l_5, l_6, l_7, l_8, l_10, l_11, l_12, l_13, l_14, l_15, l_16, l_18, l_20, l_21, l_22, l_23, l_24, l_32, l_33, l_40, l_44, l_48, l_57, l_59, l_60, l_63, l_64, l_97, l_98, l_99, l_100, l_111, l_116, l_122, l_132, l_200, l_240, l_255, l_480, l_1000, l_1452, if_true, if_false, true_or, or_true, in_neg, in_m1, in_n, V1, V2, R1, R2, B1, B2, eq_self, wk_3, wk_10, wk_37, wk_42, wr_3_0, wr_3_1, wr_3_2, wr_3_3, wr_3_4, wr_3_5, wr_3_6, wr_3_7, wr_3_8, wi_3_9, wi_3_10, wi_3_11, wp_3_9, wp_3_10, wp_3_11, wr_10_0, wr_10_1, wi_10_2, wi_10_3, wp_10_2, wp_10_3, wr_37_0, wr_37_1, wr_37_2, wi_37_3, wp_37_3, wi_37_4, wp_37_4, wi_37_5, wp_37_5, wi_37_6, wp_37_6, wi_37_7, wp_37_7, wi_37_8, wp_37_8, wr_42_0, wi_42_1, wp_42_1, wk_84, wr_84_0, wr_84_1, wr_84_2, wr_84_3, wr_84_5, wr_84_13, wr_84_14, wr_84_15, wr_84_17, wr_84_18, wr_84_20, wr_84_21, wr_84_23, wr_84_24, wr_84_25, wr_84_26, wi_84_4, wp_84_4, wi_84_6, wp_84_6, wi_84_7, wp_84_7, wi_84_8, wp_84_8, wi_84_9, wp_84_9, wi_84_10, wp_84_10, wi_84_11, wp_84_11, wi_84_12, wp_84_12, wi_84_16, wp_84_16, wi_84_19, wp_84_19, wi_84_22, wp_84_22, wi_84_27, wp_84_27, wq5v, wkv, wiv, wrv, wav', m_found]
      · simp only [hb]
        exact ih (k + 1) S (by omega) (by omega)
theorem o_weight (R : Rel g r rs) (x y : Int32) : Op L xs g r rs (f_X11_weight 3 x y) (f_X12_weight 84 x y) := by
  rcases sV x with ⟨v, hv, rfl⟩ | ⟨h1, h2⟩
  · obtain ⟨n, p, hc, hm⟩ := R.vec v hv
    have hn := hc.1
    obtain ⟨z, f, e1, e2⟩ := wgt_L (L := L) (xs := xs) (r := r) (rs := rs) hv hc hm y xN 0 0 (by omega) (by unfold xN; omega)
    refine ⟨z, _, r, rs, _, ?_, ?_, st_rel R f, by omega, by omega⟩
    · unfold f_X11_weight
      simp (disch := omega) only [q_pos, q_pos', q_lt, q_le, q_eq, q_add, q_sub, q_mul, ob_s, if_pos, if_neg, not_false_eq_true, q_m1', q_div, rm_N, l_0, l_1, l_2, l_3, l_4, l_5, l_6, l_7, l_8, l_10, l_11, l_12, l_13, l_14, l_15, l_16, l_18, l_20, l_21, l_22, l_23, l_24, l_32, l_33, l_40, l_44, l_48, l_57, l_59, l_60, l_63, l_64, l_97, l_98, l_99, l_100, l_111, l_116, l_122, l_132, l_200, l_240, l_255, l_480, l_1000, l_1452, if_true, if_false, true_or, or_true, in_neg, in_m1, in_n, V1, V2, R1, R2, B1, B2, eq_self, wk_3, wk_10, wk_37, wk_42, wr_3_0, wr_3_1, wr_3_2, wr_3_3, wr_3_4, wr_3_5, wr_3_6, wr_3_7, wr_3_8, wi_3_9, wi_3_10, wi_3_11, wp_3_9, wp_3_10, wp_3_11, wr_10_0, wr_10_1, wi_10_2, wi_10_3, wp_10_2, wp_10_3, wr_37_0, wr_37_1, wr_37_2, wi_37_3, wp_37_3, wi_37_4, wp_37_4, wi_37_5, wp_37_5, wi_37_6, wp_37_6, wi_37_7, wp_37_7, wi_37_8, wp_37_8, wr_42_0, wi_42_1, wp_42_1, wk_84, wr_84_0, wr_84_1, wr_84_2, wr_84_3, wr_84_5, wr_84_13, wr_84_14, wr_84_15, wr_84_17, wr_84_18, wr_84_20, wr_84_21, wr_84_23, wr_84_24, wr_84_25, wr_84_26, wi_84_4, wp_84_4, wi_84_6, wp_84_6, wi_84_7, wp_84_7, wi_84_8, wp_84_8, wi_84_9, wp_84_9, wi_84_10, wp_84_10, wi_84_11, wp_84_11, wi_84_12, wp_84_12, wi_84_16, wp_84_16, wi_84_19, wp_84_19, wi_84_22, wp_84_22, wi_84_27, wp_84_27, wq5v, wkv, wiv, wrv, wav', e1]
    · unfold f_X12_weight
      simp (disch := omega) only [q_pos, q_pos', q_lt, q_le, q_eq, q_add, q_sub, q_mul, ob_s, if_pos, if_neg, not_false_eq_true, q_m1', q_div, rm_N, l_0, l_1, l_2, l_3, l_4, l_5, l_6, l_7, l_8, l_10, l_11, l_12, l_13, l_14, l_15, l_16, l_18, l_20, l_21, l_22, l_23, l_24, l_32, l_33, l_40, l_44, l_48, l_57, l_59, l_60, l_63, l_64, l_97, l_98, l_99, l_100, l_111, l_116, l_122, l_132, l_200, l_240, l_255, l_480, l_1000, l_1452, if_true, if_false, true_or, or_true, in_neg, in_m1, in_n, V1, V2, R1, R2, B1, B2, eq_self, wk_3, wk_10, wk_37, wk_42, wr_3_0, wr_3_1, wr_3_2, wr_3_3, wr_3_4, wr_3_5, wr_3_6, wr_3_7, wr_3_8, wi_3_9, wi_3_10, wi_3_11, wp_3_9, wp_3_10, wp_3_11, wr_10_0, wr_10_1, wi_10_2, wi_10_3, wp_10_2, wp_10_3, wr_37_0, wr_37_1, wr_37_2, wi_37_3, wp_37_3, wi_37_4, wp_37_4, wi_37_5, wp_37_5, wi_37_6, wp_37_6, wi_37_7, wp_37_7, wi_37_8, wp_37_8, wr_42_0, wi_42_1, wp_42_1, wk_84, wr_84_0, wr_84_1, wr_84_2, wr_84_3, wr_84_5, wr_84_13, wr_84_14, wr_84_15, wr_84_17, wr_84_18, wr_84_20, wr_84_21, wr_84_23, wr_84_24, wr_84_25, wr_84_26, wi_84_4, wp_84_4, wi_84_6, wp_84_6, wi_84_7, wp_84_7, wi_84_8, wp_84_8, wi_84_9, wp_84_9, wi_84_10, wp_84_10, wi_84_11, wp_84_11, wi_84_12, wp_84_12, wi_84_16, wp_84_16, wi_84_19, wp_84_19, wi_84_22, wp_84_22, wi_84_27, wp_84_27, wq5v, wkv, wiv, wrv, wav', e2]
  · refine RO.op ?_ R
    unfold RO f_X11_weight f_X12_weight
    exact ⟨-1000001, by simp (disch := omega) only [q_pos, q_pos', q_lt, q_le, q_eq, q_add, q_sub, q_mul, ob_s, if_pos, if_neg, not_false_eq_true, q_m1', q_div, rm_N, l_0, l_1, l_2, l_3, l_4, l_5, l_6, l_7, l_8, l_10, l_11, l_12, l_13, l_14, l_15, l_16, l_18, l_20, l_21, l_22, l_23, l_24, l_32, l_33, l_40, l_44, l_48, l_57, l_59, l_60, l_63, l_64, l_97, l_98, l_99, l_100, l_111, l_116, l_122, l_132, l_200, l_240, l_255, l_480, l_1000, l_1452, if_true, if_false, true_or, or_true, in_neg, in_m1, in_n, V1, V2, R1, R2, B1, B2, eq_self, wk_3, wk_10, wk_37, wk_42, wr_3_0, wr_3_1, wr_3_2, wr_3_3, wr_3_4, wr_3_5, wr_3_6, wr_3_7, wr_3_8, wi_3_9, wi_3_10, wi_3_11, wp_3_9, wp_3_10, wp_3_11, wr_10_0, wr_10_1, wi_10_2, wi_10_3, wp_10_2, wp_10_3, wr_37_0, wr_37_1, wr_37_2, wi_37_3, wp_37_3, wi_37_4, wp_37_4, wi_37_5, wp_37_5, wi_37_6, wp_37_6, wi_37_7, wp_37_7, wi_37_8, wp_37_8, wr_42_0, wi_42_1, wp_42_1, h1], by simp (disch := omega) only [q_pos, q_pos', q_lt, q_le, q_eq, q_add, q_sub, q_mul, ob_s, if_pos, if_neg, not_false_eq_true, q_m1', q_div, rm_N, l_0, l_1, l_2, l_3, l_4, l_5, l_6, l_7, l_8, l_10, l_11, l_12, l_13, l_14, l_15, l_16, l_18, l_20, l_21, l_22, l_23, l_24, l_32, l_33, l_40, l_44, l_48, l_57, l_59, l_60, l_63, l_64, l_97, l_98, l_99, l_100, l_111, l_116, l_122, l_132, l_200, l_240, l_255, l_480, l_1000, l_1452, if_true, if_false, true_or, or_true, in_neg, in_m1, in_n, V1, V2, R1, R2, B1, B2, eq_self, wk_84, wr_84_0, wr_84_1, wr_84_2, wr_84_3, wr_84_5, wr_84_13, wr_84_14, wr_84_15, wr_84_17, wr_84_18, wr_84_20, wr_84_21, wr_84_23, wr_84_24, wr_84_25, wr_84_26, wi_84_4, wp_84_4, wi_84_6, wp_84_6, wi_84_7, wp_84_7, wi_84_8, wp_84_8, wi_84_9, wp_84_9, wi_84_10, wp_84_10, wi_84_11, wp_84_11, wi_84_12, wp_84_12, wi_84_16, wp_84_16, wi_84_19, wp_84_19, wi_84_22, wp_84_22, wi_84_27, wp_84_27, h2]⟩
end FEED

theorem kq_1_1 : (nI 1 = (1 : Int32)) = True := eq_true rfl
theorem kq_1_2 : (nI 1 = (2 : Int32)) = False := eq_false (by decide)
theorem kq_1_3 : (nI 1 = (3 : Int32)) = False := eq_false (by decide)
theorem kq_1_4 : (nI 1 = (4 : Int32)) = False := eq_false (by decide)
theorem kq_1_5 : (nI 1 = (5 : Int32)) = False := eq_false (by decide)
theorem kl_1 : (nI 1 < (4 : Int32)) = True := eq_true (by decide)
theorem kq_2_1 : (nI 2 = (1 : Int32)) = False := eq_false (by decide)
theorem kq_2_2 : (nI 2 = (2 : Int32)) = True := eq_true rfl
theorem kq_2_3 : (nI 2 = (3 : Int32)) = False := eq_false (by decide)
theorem kq_2_4 : (nI 2 = (4 : Int32)) = False := eq_false (by decide)
theorem kq_2_5 : (nI 2 = (5 : Int32)) = False := eq_false (by decide)
theorem kl_2 : (nI 2 < (4 : Int32)) = True := eq_true (by decide)
theorem kq_3_1 : (nI 3 = (1 : Int32)) = False := eq_false (by decide)
theorem kq_3_2 : (nI 3 = (2 : Int32)) = False := eq_false (by decide)
theorem kq_3_3 : (nI 3 = (3 : Int32)) = True := eq_true rfl
theorem kq_3_4 : (nI 3 = (4 : Int32)) = False := eq_false (by decide)
theorem kq_3_5 : (nI 3 = (5 : Int32)) = False := eq_false (by decide)
theorem kl_3 : (nI 3 < (4 : Int32)) = True := eq_true (by decide)
theorem kq_4_1 : (nI 4 = (1 : Int32)) = False := eq_false (by decide)
theorem kq_4_2 : (nI 4 = (2 : Int32)) = False := eq_false (by decide)
theorem kq_4_3 : (nI 4 = (3 : Int32)) = False := eq_false (by decide)
theorem kq_4_4 : (nI 4 = (4 : Int32)) = True := eq_true rfl
theorem kq_4_5 : (nI 4 = (5 : Int32)) = False := eq_false (by decide)
theorem kl_4 : (nI 4 < (4 : Int32)) = False := eq_false (by decide)
theorem kq_5_1 : (nI 5 = (1 : Int32)) = False := eq_false (by decide)
theorem kq_5_2 : (nI 5 = (2 : Int32)) = False := eq_false (by decide)
theorem kq_5_3 : (nI 5 = (3 : Int32)) = False := eq_false (by decide)
theorem kq_5_4 : (nI 5 = (4 : Int32)) = False := eq_false (by decide)
theorem kq_5_5 : (nI 5 = (5 : Int32)) = True := eq_true rfl
theorem kl_5 : (nI 5 < (4 : Int32)) = False := eq_false (by decide)
theorem k_10 : ((1 : Int32) = 0) = False := eq_false (by decide)
/-- bit j of a run of a kind -/
def bR (K j : Nat) : Bool := if K = 1 then false else if K = 2 then true else if K = 3 then decide (j % 3 = 0) else if K = 4 then decide (j % 2 = 0) else decide (j / 4 % 2 = 0)
theorem K5 {K : Nat} (h1 : 1 ≤ K) (h2 : K ≤ 5) : K = 1 ∨ K = 2 ∨ K = 3 ∨ K = 4 ∨ K = 5 := by omega
theorem i_z0 {n : Nat} (h : n < 2147483648) (e : n = 0) : nI n = (0 : Int32) := by subst e; rfl
theorem i_nz {n : Nat} (h : n < 2147483648) (e : n ≠ 0) : ¬ nI n = (0 : Int32) := fun z => e (by rw [l_0, q_eq h (by omega)] at z; exact z)
theorem rem_2 {j : Nat} (hj : j < 2147483648) : nI j - nI j / (2 : Int32) * (2 : Int32) = nI (j % 2) := q_rem hj (by omega) (by omega)
theorem rem_3 {j : Nat} (hj : j < 2147483648) : nI j - nI j / (3 : Int32) * (3 : Int32) = nI (j % 3) := q_rem hj (by omega) (by omega)
theorem div_4 {j : Nat} (hj : j < 2147483648) : nI j / (4 : Int32) = nI (j / 4) := q_div hj (by omega) (by omega)
theorem e0_bit {j q : Nat} {h : xH} (hj : j < 2147483648) : f_X0_bitOf q (nI j) h = some (nI (decide (j % 2 = 0)).toNat, h) := by
  unfold f_X0_bitOf
  rw [rem_2 hj]
  by_cases e : j % 2 = 0
  · rw [if_pos (i_z0 (by omega) e), decide_eq_true e]; rfl
  · rw [if_neg (i_nz (by omega) e), decide_eq_false e]; rfl
theorem e8_bit {j q : Nat} {h : xH} (hj : j < 2147483648) : f_X8_bitOf q (nI j) h = some (nI (decide (j % 3 = 0)).toNat, h) := by
  unfold f_X8_bitOf
  rw [rem_3 hj]
  by_cases e : j % 3 = 0
  · rw [if_pos (i_z0 (by omega) e), decide_eq_true e]; rfl
  · rw [if_neg (i_nz (by omega) e), decide_eq_false e]; rfl
theorem e_rbit {K j q : Nat} {h : xH} (h1 : 1 ≤ K) (h2 : K ≤ 5) (hk : xk h q = some (kC K)) (hj : j < 2147483648) : (if xk h q = some 0 then f_X0_bitOf q (nI j) h else if xk h q = some 2 then f_X2_bitOf q (nI j) h else if xk h q = some 4 then f_X4_bitOf q (nI j) h else if xk h q = some 7 then f_X8_bitOf q (nI j) h else if xk h q = some 9 then f_X10_bitOf q (nI j) h else none) = some (nI (bR K j).toNat, h) := by
  rcases K5 h1 h2 with e | e | e | e | e
  · subst e; rw [hk]; rfl
  · subst e; rw [hk]; rfl
  · subst e; rw [hk]; exact e8_bit hj
  · subst e; rw [hk]; exact e0_bit hj
  · subst e
    have e2 : f_X2_bitOf q (nI j) h = some (nI (bR 5 j).toNat, h) := by
      unfold f_X2_bitOf
      rw [if_pos hk, div_4 hj, e0_bit (by omega)]
      rfl
    rw [← e2, hk]
    rfl
theorem m_rbit {K j : Nat} {h : xH} (h1 : 1 ≤ K) (h2 : K ≤ 5) (hj : j < 2147483648) : f_X12_bitOf (nI K) (nI j) h = some (nI (bR K j).toNat, h) := by
  have s1 : ∀ t, t < 2 → (1 : Int32) - nI t = nI (decide (t = 0)).toNat := by decide
  unfold f_X12_bitOf
  rcases K5 h1 h2 with e | e | e | e | e
  · subst e; rfl
  · subst e; rfl
  · subst e
    simp only [kq_1_1, kq_1_2, kq_1_3, kq_1_4, kq_1_5, kq_2_1, kq_2_2, kq_2_3, kq_2_4, kq_2_5, kq_3_1, kq_3_2, kq_3_3, kq_3_4, kq_3_5, kq_4_1, kq_4_2, kq_4_3, kq_4_4, kq_4_5, kq_5_1, kq_5_2, kq_5_3, kq_5_4, kq_5_5, kl_1, kl_2, kl_3, kl_4, kl_5, k_10, if_true, if_false, rem_3 hj]
    by_cases e : j % 3 = 0
    · rw [if_pos (i_z0 (by omega) e)]
      show _ = some (nI (decide (j % 3 = 0)).toNat, h)
      rw [decide_eq_true e]; rfl
    · rw [if_neg (i_nz (by omega) e)]
      show _ = some (nI (decide (j % 3 = 0)).toNat, h)
      rw [decide_eq_false e]; rfl
  · subst e
    simp only [kq_1_1, kq_1_2, kq_1_3, kq_1_4, kq_1_5, kq_2_1, kq_2_2, kq_2_3, kq_2_4, kq_2_5, kq_3_1, kq_3_2, kq_3_3, kq_3_4, kq_3_5, kq_4_1, kq_4_2, kq_4_3, kq_4_4, kq_4_5, kq_5_1, kq_5_2, kq_5_3, kq_5_4, kq_5_5, kl_1, kl_2, kl_3, kl_4, kl_5, k_10, if_true, if_false, rem_2 hj, s1 _ (Nat.mod_lt j (by decide : 0 < 2))]
    rfl
  · subst e
    simp only [kq_1_1, kq_1_2, kq_1_3, kq_1_4, kq_1_5, kq_2_1, kq_2_2, kq_2_3, kq_2_4, kq_2_5, kq_3_1, kq_3_2, kq_3_3, kq_3_4, kq_3_5, kq_4_1, kq_4_2, kq_4_3, kq_4_4, kq_4_5, kq_5_1, kq_5_2, kq_5_3, kq_5_4, kq_5_5, kl_1, kl_2, kl_3, kl_4, kl_5, k_10, if_false, div_4 hj]
    rw [rem_2 (by omega), s1 _ (Nat.mod_lt _ (by decide : 0 < 2))]
    rfl
section RUNS
variable {L : Nat} {xs : Nat → Int32} {g : xS} {r : Nat → Option Nat} {rs : xH} {a K i len : Nat}
theorem xk_ru {c : Nat} {fs : List Value} (h : rs[a]? = some (.inr (c, fs))) : xk (wH L xs g r rs) (101 + a) = some c := by
  unfold xk
  rw [wH_hi, h]
theorem xg0_ru (h1 : 1 ≤ K) (h2 : K ≤ 5) {x y : Int32} (h : rs[a]? = some (.inr (kC K, [.int x, .int y]))) : xgI [0, 2, 4, 7, 9] (wH L xs g r rs) (101 + a) 0 = some x := by
  unfold xgI
  rw [wH_hi, h]
  rcases K5 h1 h2 with e | e | e | e | e <;> subst e <;> rfl
theorem xg1_ru (h1 : 1 ≤ K) (h2 : K ≤ 5) {x y : Int32} (h : rs[a]? = some (.inr (kC K, [.int x, .int y]))) : xgI [0, 2, 4, 7, 9] (wH L xs g r rs) (101 + a) 1 = some y := by
  unfold xgI
  rw [wH_hi, h]
  rcases K5 h1 h2 with e | e | e | e | e <;> subst e <;> rfl
theorem xaR_ru {q : Nat} (hi : i < 12) (h : r i = some q) : xaR 4 (wH L xs g r rs) 41 (nI i) = some q := by
  unfold xaR
  rw [wq_41' hi, ob_s, h]
  rfl
theorem e_isRun {m q : Nat} (hm : m ≤ 12) (hi : i < m) (h9 : g 0 9 = nI m) (hr : r i = some q) : f_X11_isRun 3 (nI i) (wH L xs g r rs) = some (nI 1, wH L xs g r rs) := by
  unfold f_X11_isRun
  simp (disch := omega) only [q_pos, q_pos', q_lt, q_le, q_eq, q_add, q_sub, q_mul, ob_s, if_pos, if_neg, not_false_eq_true, q_m1', q_div, rm_N, l_0, l_1, l_2, l_3, l_4, l_5, l_6, l_7, l_8, l_10, l_11, l_12, l_13, l_14, l_15, l_16, l_18, l_20, l_21, l_22, l_23, l_24, l_32, l_33, l_40, l_44, l_48, l_57, l_59, l_60, l_63, l_64, l_97, l_98, l_99, l_100, l_111, l_116, l_122, l_132, l_200, l_240, l_255, l_480, l_1000, l_1452, if_true, if_false, true_or, or_true, in_neg, in_m1, in_n, V1, V2, R1, R2, B1, B2, eq_self, wk_3, wk_10, wk_37, wk_42, wr_3_0, wr_3_1, wr_3_2, wr_3_3, wr_3_4, wr_3_5, wr_3_6, wr_3_7, wr_3_8, wi_3_9, wi_3_10, wi_3_11, wp_3_9, wp_3_10, wp_3_11, wr_10_0, wr_10_1, wi_10_2, wi_10_3, wp_10_2, wp_10_3, wr_37_0, wr_37_1, wr_37_2, wi_37_3, wp_37_3, wi_37_4, wp_37_4, wi_37_5, wp_37_5, wi_37_6, wp_37_6, wi_37_7, wp_37_7, wi_37_8, wp_37_8, wr_42_0, wi_42_1, wp_42_1, h9, wq_41', hr]
theorem m_isRun {m : Nat} (hm : m ≤ 12) (hi : i < m) (h9 : g 66 19 = nI m) : f_X12_isRun 84 (nI i) (wH L xs g r rs) = some (nI 1, wH L xs g r rs) := by
  unfold f_X12_isRun
  simp (disch := omega) only [q_pos, q_pos', q_lt, q_le, q_eq, q_add, q_sub, q_mul, ob_s, if_pos, if_neg, not_false_eq_true, q_m1', q_div, rm_N, l_0, l_1, l_2, l_3, l_4, l_5, l_6, l_7, l_8, l_10, l_11, l_12, l_13, l_14, l_15, l_16, l_18, l_20, l_21, l_22, l_23, l_24, l_32, l_33, l_40, l_44, l_48, l_57, l_59, l_60, l_63, l_64, l_97, l_98, l_99, l_100, l_111, l_116, l_122, l_132, l_200, l_240, l_255, l_480, l_1000, l_1452, if_true, if_false, true_or, or_true, in_neg, in_m1, in_n, V1, V2, R1, R2, B1, B2, eq_self, wk_84, wr_84_0, wr_84_1, wr_84_2, wr_84_3, wr_84_5, wr_84_13, wr_84_14, wr_84_15, wr_84_17, wr_84_18, wr_84_20, wr_84_21, wr_84_23, wr_84_24, wr_84_25, wr_84_26, wi_84_4, wp_84_4, wi_84_6, wp_84_6, wi_84_7, wp_84_7, wi_84_8, wp_84_8, wi_84_9, wp_84_9, wi_84_10, wp_84_10, wi_84_11, wp_84_11, wi_84_12, wp_84_12, wi_84_16, wp_84_16, wi_84_19, wp_84_19, wi_84_22, wp_84_22, wi_84_27, wp_84_27, h9]
theorem e_isRun0 {m : Nat} {x : Int32} (hm : m ≤ 12) (hx : x < nI 0 ∨ ∃ j, j < 2147483648 ∧ x = nI j ∧ m ≤ j) (h9 : g 0 9 = nI m) : f_X11_isRun 3 x (wH L xs g r rs) = some (nI 0, wH L xs g r rs) := by
  unfold f_X11_isRun
  rcases hx with hx | ⟨j, hj, rfl, hmj⟩
  · simp (disch := omega) only [q_pos, q_pos', q_lt, q_le, q_eq, q_add, q_sub, q_mul, ob_s, if_pos, if_neg, not_false_eq_true, q_m1', q_div, rm_N, l_0, l_1, l_2, l_3, l_4, l_5, l_6, l_7, l_8, l_10, l_11, l_12, l_13, l_14, l_15, l_16, l_18, l_20, l_21, l_22, l_23, l_24, l_32, l_33, l_40, l_44, l_48, l_57, l_59, l_60, l_63, l_64, l_97, l_98, l_99, l_100, l_111, l_116, l_122, l_132, l_200, l_240, l_255, l_480, l_1000, l_1452, if_true, if_false, true_or, or_true, in_neg, in_m1, in_n, V1, V2, R1, R2, B1, B2, eq_self, ng1 hx]
  · simp (disch := omega) only [q_pos, q_pos', q_lt, q_le, q_eq, q_add, q_sub, q_mul, ob_s, if_pos, if_neg, not_false_eq_true, q_m1', q_div, rm_N, l_0, l_1, l_2, l_3, l_4, l_5, l_6, l_7, l_8, l_10, l_11, l_12, l_13, l_14, l_15, l_16, l_18, l_20, l_21, l_22, l_23, l_24, l_32, l_33, l_40, l_44, l_48, l_57, l_59, l_60, l_63, l_64, l_97, l_98, l_99, l_100, l_111, l_116, l_122, l_132, l_200, l_240, l_255, l_480, l_1000, l_1452, if_true, if_false, true_or, or_true, in_neg, in_m1, in_n, V1, V2, R1, R2, B1, B2, eq_self, wk_3, wk_10, wk_37, wk_42, wr_3_0, wr_3_1, wr_3_2, wr_3_3, wr_3_4, wr_3_5, wr_3_6, wr_3_7, wr_3_8, wi_3_9, wi_3_10, wi_3_11, wp_3_9, wp_3_10, wp_3_11, wr_10_0, wr_10_1, wi_10_2, wi_10_3, wp_10_2, wp_10_3, wr_37_0, wr_37_1, wr_37_2, wi_37_3, wp_37_3, wi_37_4, wp_37_4, wi_37_5, wp_37_5, wi_37_6, wp_37_6, wi_37_7, wp_37_7, wi_37_8, wp_37_8, wr_42_0, wi_42_1, wp_42_1, h9]
theorem m_isRun0 {m : Nat} {x : Int32} (hm : m ≤ 12) (hx : x < nI 0 ∨ ∃ j, j < 2147483648 ∧ x = nI j ∧ m ≤ j) (h9 : g 66 19 = nI m) : f_X12_isRun 84 x (wH L xs g r rs) = some (nI 0, wH L xs g r rs) := by
  unfold f_X12_isRun
  rcases hx with hx | ⟨j, hj, rfl, hmj⟩
  · simp (disch := omega) only [q_pos, q_pos', q_lt, q_le, q_eq, q_add, q_sub, q_mul, ob_s, if_pos, if_neg, not_false_eq_true, q_m1', q_div, rm_N, l_0, l_1, l_2, l_3, l_4, l_5, l_6, l_7, l_8, l_10, l_11, l_12, l_13, l_14, l_15, l_16, l_18, l_20, l_21, l_22, l_23, l_24, l_32, l_33, l_40, l_44, l_48, l_57, l_59, l_60, l_63, l_64, l_97, l_98, l_99, l_100, l_111, l_116, l_122, l_132, l_200, l_240, l_255, l_480, l_1000, l_1452, if_true, if_false, true_or, or_true, in_neg, in_m1, in_n, V1, V2, R1, R2, B1, B2, eq_self, wk_84, wr_84_0, wr_84_1, wr_84_2, wr_84_3, wr_84_5, wr_84_13, wr_84_14, wr_84_15, wr_84_17, wr_84_18, wr_84_20, wr_84_21, wr_84_23, wr_84_24, wr_84_25, wr_84_26, wi_84_4, wp_84_4, wi_84_6, wp_84_6, wi_84_7, wp_84_7, wi_84_8, wp_84_8, wi_84_9, wp_84_9, wi_84_10, wp_84_10, wi_84_11, wp_84_11, wi_84_12, wp_84_12, wi_84_16, wp_84_16, wi_84_19, wp_84_19, wi_84_22, wp_84_22, wi_84_27, wp_84_27, h9, in_neg hx]
  · simp (disch := omega) only [q_pos, q_pos', q_lt, q_le, q_eq, q_add, q_sub, q_mul, ob_s, if_pos, if_neg, not_false_eq_true, q_m1', q_div, rm_N, l_0, l_1, l_2, l_3, l_4, l_5, l_6, l_7, l_8, l_10, l_11, l_12, l_13, l_14, l_15, l_16, l_18, l_20, l_21, l_22, l_23, l_24, l_32, l_33, l_40, l_44, l_48, l_57, l_59, l_60, l_63, l_64, l_97, l_98, l_99, l_100, l_111, l_116, l_122, l_132, l_200, l_240, l_255, l_480, l_1000, l_1452, if_true, if_false, true_or, or_true, in_neg, in_m1, in_n, V1, V2, R1, R2, B1, B2, eq_self, wk_84, wr_84_0, wr_84_1, wr_84_2, wr_84_3, wr_84_5, wr_84_13, wr_84_14, wr_84_15, wr_84_17, wr_84_18, wr_84_20, wr_84_21, wr_84_23, wr_84_24, wr_84_25, wr_84_26, wi_84_4, wp_84_4, wi_84_6, wp_84_6, wi_84_7, wp_84_7, wi_84_8, wp_84_8, wi_84_9, wp_84_9, wi_84_10, wp_84_10, wi_84_11, wp_84_11, wi_84_12, wp_84_12, wi_84_16, wp_84_16, wi_84_19, wp_84_19, wi_84_22, wp_84_22, wi_84_27, wp_84_27, h9]
theorem m_kindIn (hi : i < 12) (h : g 60 i = nI K) : f_X12_kindIn 84 (nI i) (wH L xs g r rs) = some (nI K, wH L xs g r rs) := by
  unfold f_X12_kindIn
  simp (disch := omega) only [q_pos, q_pos', q_lt, q_le, q_eq, q_add, q_sub, q_mul, ob_s, if_pos, if_neg, not_false_eq_true, q_m1', q_div, rm_N, l_0, l_1, l_2, l_3, l_4, l_5, l_6, l_7, l_8, l_10, l_11, l_12, l_13, l_14, l_15, l_16, l_18, l_20, l_21, l_22, l_23, l_24, l_32, l_33, l_40, l_44, l_48, l_57, l_59, l_60, l_63, l_64, l_97, l_98, l_99, l_100, l_111, l_116, l_122, l_132, l_200, l_240, l_255, l_480, l_1000, l_1452, if_true, if_false, true_or, or_true, in_neg, in_m1, in_n, V1, V2, R1, R2, B1, B2, eq_self, wk_84, wr_84_0, wr_84_1, wr_84_2, wr_84_3, wr_84_5, wr_84_13, wr_84_14, wr_84_15, wr_84_17, wr_84_18, wr_84_20, wr_84_21, wr_84_23, wr_84_24, wr_84_25, wr_84_26, wi_84_4, wp_84_4, wi_84_6, wp_84_6, wi_84_7, wp_84_7, wi_84_8, wp_84_8, wi_84_9, wp_84_9, wi_84_10, wp_84_10, wi_84_11, wp_84_11, wi_84_12, wp_84_12, wi_84_16, wp_84_16, wi_84_19, wp_84_19, wi_84_22, wp_84_22, wi_84_27, wp_84_27, wa_95', h]
/-- a number that is a run's, or none's -/
theorem sRn (R : rRun g r rs) (x : Int32) : (∃ m i a K len, m ≤ 12 ∧ i < m ∧ x = nI i ∧ g 0 9 = nI m ∧ g 66 19 = nI m ∧ r i = some (101 + a) ∧ 1 ≤ K ∧ K ≤ 5 ∧ len ≤ 99 ∧ rs[a]? = some (.inr (kC K, [.int (nI i), .int (nI len)])) ∧ g 60 i = nI K ∧ g 61 i = nI len) ∨ ∃ m, m ≤ 12 ∧ g 0 9 = nI m ∧ g 66 19 = nI m ∧ (x < nI 0 ∨ ∃ j, j < 2147483648 ∧ x = nI j ∧ m ≤ j) := by
  obtain ⟨m, h1, h2, h3, h4⟩ := R
  rcases a_sp x with hx | ⟨i, hi, rfl⟩
  · exact Or.inr ⟨m, h1, h2, h3, Or.inl hx⟩
  · by_cases e : i < m
    · obtain ⟨a, K, len, a1, a2, a3, a4, a5, a6, a7⟩ := h4 i e
      exact Or.inl ⟨m, i, a, K, len, h1, e, rfl, h2, h3, a1, a2, a3, a4, a5, a6, a7⟩
    · exact Or.inr ⟨m, h1, h2, h3, Or.inr ⟨i, hi, rfl, by omega⟩⟩
theorem o_kind (R : Rel g r rs) (x : Int32) : RO L xs g r rs (f_X11_kind 3 x) (f_X12_kind 84 x) := by
  unfold RO f_X11_kind f_X12_kind
  rcases sRn R.run x with ⟨m, i, a, K, len, hm, hi, rfl, h9, h19, hr, k1, k2, hl, ho, h60, h61⟩ | ⟨m, hm, h9, h19, hx⟩
  · refine ⟨nI K, ?_, ?_⟩
    · rw [wk_3, if_pos rfl, e_isRun hm hi h9 hr, ob_s]
      rw [if_neg (show ¬ nI 1 = (0 : Int32) by decide), wr_3_7, ob_s, xaR_ru (by omega) hr, ob_s, xk_ru ho]
      rcases K5 k1 k2 with e | e | e | e | e <;> subst e <;> rfl
    · rw [wk_84, if_pos rfl, m_isRun hm hi h19, ob_s]
      rw [if_neg (show ¬ nI 1 = (0 : Int32) by decide), wk_84, if_pos rfl, m_kindIn (by omega) h60, ob_s]
  · refine ⟨-1000001, ?_, ?_⟩
    · rw [wk_3, if_pos rfl, e_isRun0 hm hx h9, ob_s]; rfl
    · rw [wk_84, if_pos rfl, m_isRun0 hm hx h19, ob_s]; rfl
def isK (t K : Nat) : Bool := decide (t = 0) || decide (t = K) || (decide (t = 1) && decide (K < 4)) || (decide (t = 4) && decide (K = 5))
theorem e_isOf {q t : Nat} {h : xH} (h1 : 1 ≤ K) (h2 : K ≤ 5) (hk : xk h q = some (kC K)) (ht : t ≤ 5) : f_X11_isOfKind q (nI t) h = some (nI (isK t K).toNat, h) := by
  unfold f_X11_isOfKind xio
  rw [hk]
  rcases (show t = 0 ∨ t = 1 ∨ t = 2 ∨ t = 3 ∨ t = 4 ∨ t = 5 by omega) with e | e | e | e | e | e <;> subst e <;> rcases K5 h1 h2 with e | e | e | e | e <;> subst e <;> rfl
theorem m_isOf : ∀ t, t < 6 → ∀ K, K < 6 → 1 ≤ K → (if nI t = 0 then (1 : Int32) else (if nI t = nI K then (1 : Int32) else (if nI t = (1 : Int32) then (if nI K < (4 : Int32) then (1 : Int32) else (if nI t = (4 : Int32) then (if nI K = (5 : Int32) then (1 : Int32) else (0 : Int32)) else (0 : Int32))) else (if nI t = (4 : Int32) then (if nI K = (5 : Int32) then (1 : Int32) else (0 : Int32)) else (0 : Int32))))) = nI (isK t K).toNat := by decide
theorem o_as (R : Rel g r rs) (x y : Int32) : Op L xs g r rs (f_X11_as 3 x y) (f_X12_as 84 x y) := by
  rcases sRn R.run x with ⟨m, i, a, K, len, hm, hi, rfl, h9, h19, hr, k1, k2, hl, ho, h60, h61⟩ | ⟨m, hm, h9, h19, hx⟩
  · have n1 : ¬ nI 1 = (0 : Int32) := by decide
    rcases a_sp y with hy | ⟨t, ht, rfl⟩
    · refine RO.op ?_ R
      unfold RO f_X11_as f_X12_as
      refine ⟨-1000001, ?_, ?_⟩
      · rw [wk_3, if_pos rfl, e_isRun hm hi h9 hr, ob_s, if_neg n1, if_pos hy]
      · rw [wk_84, if_pos rfl, m_isRun hm hi h19, ob_s, if_neg n1, l_0, in_neg hy, ob_s]; rfl
    · by_cases e : t ≤ 5
      · have f9 : ∀ f, gs g 0 11 f 66 19 = nI m := fun f => by rw [gs_n (by omega)]; exact h19
        have f60 : ∀ f, gs g 0 11 f 60 i = nI K := fun f => by rw [gs_n (by omega)]; exact h60
        have c1 : ∀ (g' : xS), f_X11_as 3 (nI i) (nI t) (wH L xs g r rs) = if nI (isK t K).toNat = 0 then f_X11_found 3 (nI 3) (wH L xs g r rs) else f_X11_fine 3 (nI i) (wH L xs g r rs) := by
          intro g'
          unfold f_X11_as
          rw [wk_3, if_pos rfl, e_isRun hm hi h9 hr, ob_s, if_neg n1, if_neg (q_pos ht), if_pos (show nI t ≤ (5 : Int32) by rw [l_5, q_le ht (by omega)]; exact e), wr_3_7, ob_s, xaR_ru (by omega) hr, ob_s, e_isOf k1 k2 (xk_ru ho) e, ob_s]
          dsimp only
          rw [wk_3, if_pos rfl, if_pos rfl, wr_3_7, ob_s, xaR_ru (by omega) hr, ob_s, xg0_ru k1 k2 ho, ob_s]
          rw [show (3 : Int32) = nI 3 from rfl, e_found, e_fine, ob_s, ob_s]
        have c2 : ∀ f, f_X12_as 84 (nI i) (nI t) (wH L xs (gs g 0 11 f) r rs) = if nI (isK t K).toNat = 0 then f_X12_found 84 (nI 3) (wH L xs (gs g 0 11 f) r rs) else f_X12_well 84 (nI i) (wH L xs (gs g 0 11 f) r rs) := by
          intro f
          unfold f_X12_as
          rw [wk_84, if_pos rfl, m_isRun hm hi (f9 f), ob_s, if_neg n1, l_0, l_5, in_n ht (by omega), if_pos e, ob_s]
          dsimp only
          rw [if_neg (show ¬ nI 1 = nI 0 by decide), wk_84, if_pos rfl, m_kindIn (by omega) (f60 f), ob_s]
          dsimp only
          have mm := m_isOf t (by omega) K (by omega) k1
          rw [l_0, l_5] at mm
          rw [mm, wk_84, if_pos rfl, if_pos rfl]
          rw [show (3 : Int32) = nI 3 from rfl, m_found, m_well, ob_s, ob_s]
        cases hb : isK t K with
        | false =>
          refine fnd_n (f := 3) _ _ R ?_ ?_
          · rw [c1 g, hb, if_pos rfl, e_found]
          · rw [c2, hb, if_pos rfl, m_found]
        | true =>
          refine ⟨nI i, _, r, rs, _, ?_, ?_, st_rel R (nI 0), by omega, by omega⟩
          · rw [c1 g, hb, if_neg (show ¬ nI true.toNat = 0 by decide), e_fine]
          · rw [c2, hb, if_neg (show ¬ nI true.toNat = 0 by decide), m_well]
      · refine RO.op ?_ R
        unfold RO f_X11_as f_X12_as
        refine ⟨-1000001, ?_, ?_⟩
        · rw [wk_3, if_pos rfl, e_isRun hm hi h9 hr, ob_s, if_neg n1, if_neg (q_pos ht), if_neg (show ¬ nI t ≤ (5 : Int32) by rw [l_5, q_le ht (by omega)]; exact e)]
        · rw [wk_84, if_pos rfl, m_isRun hm hi h19, ob_s, if_neg n1, l_0, l_5, in_n ht (by omega), if_neg e, ob_s]; rfl
  · refine RO.op ?_ R
    unfold RO f_X11_as f_X12_as
    refine ⟨-1000001, ?_, ?_⟩
    · rw [wk_3, if_pos rfl, e_isRun0 hm hx h9, ob_s]; rfl
    · rw [wk_84, if_pos rfl, m_isRun0 hm hx h19, ob_s]; rfl
end RUNS

/-- the trace holds l: the class's, the reference's -/
def tC (g : xS) (l : List Int32) : xS := gs (va_up g 9 (fun i => if i < l.length then l.getD i 0 else g 9 i)) 48 1 (nI l.length)
def tM (g : xS) (l : List Int32) : xS := gs (va_up g 65 (fun i => if i < l.length then l.getD i 0 else g 65 i)) 66 27 (nI l.length)
section TR
variable {g : xS} {l : List Int32} {x : Int32}
theorem tC_48 : tC g l 48 1 = nI l.length := gs_same
theorem tM_66 : tM g l 66 27 = nI l.length := gs_same
theorem tC_9 {i : Nat} : tC g l 9 i = if i < l.length then l.getD i 0 else g 9 i := by
  unfold tC
  rw [gs_oc (by omega), up_c]
theorem tM_65 {i : Nat} : tM g l 65 i = if i < l.length then l.getD i 0 else g 65 i := by
  unfold tM
  rw [gs_oc (by omega), up_c]
theorem tC_o {c k : Nat} (h1 : c ≠ 9) (h2 : ¬ (c = 48 ∧ k = 1)) : tC g l c k = g c k := by
  unfold tC
  rw [gs_n h2, up_oc h1]
theorem tM_o {c k : Nat} (h1 : c ≠ 65) (h2 : ¬ (c = 66 ∧ k = 27)) : tM g l c k = g c k := by
  unfold tM
  rw [gs_n h2, up_oc h1]
theorem gd_end : (l ++ [x]).getD l.length 0 = x := by
  rw [List.getD_eq_getElem?_getD, List.getElem?_append_right (Nat.le_refl _), Nat.sub_self]
  rfl
theorem gd_in {i : Nat} (h : i < l.length) : (l ++ [x]).getD i 0 = l.getD i 0 := by
  rw [List.getD_eq_getElem?_getD, List.getD_eq_getElem?_getD, List.getElem?_append_left h]
theorem len1 : (l ++ [x]).length = l.length + 1 := by rw [List.length_append]; rfl
theorem tC_add : gs (gs (tC g l) 9 l.length x) 48 1 (nI (l.length + 1)) = tC g (l ++ [x]) := by
  funext c k
  by_cases e1 : c = 48 ∧ k = 1
  · obtain ⟨e1, e2⟩ := e1
    subst e1; subst e2
    rw [gs_same, tC_48, len1]
  · rw [gs_n e1]
    by_cases e2 : c = 9
    · subst e2
      rw [tC_9, len1]
      by_cases e3 : k = l.length
      · subst e3
        rw [gs_same, if_pos (by omega), gd_end]
      · rw [gs_n (by omega), tC_9]
        by_cases e4 : k < l.length
        · rw [if_pos e4, if_pos (by omega), gd_in e4]
        · rw [if_neg e4, if_neg (by omega)]
    · rw [gs_n (by omega), tC_o e2 e1, tC_o e2 e1]
theorem tM_add : gs (gs (tM g l) 65 l.length x) 66 27 (nI (l.length + 1)) = tM g (l ++ [x]) := by
  funext c k
  by_cases e1 : c = 66 ∧ k = 27
  · obtain ⟨e1, e2⟩ := e1
    subst e1; subst e2
    rw [gs_same, tM_66, len1]
  · rw [gs_n e1]
    by_cases e2 : c = 65
    · subst e2
      rw [tM_65, len1]
      by_cases e3 : k = l.length
      · subst e3
        rw [gs_same, if_pos (by omega), gd_end]
      · rw [gs_n (by omega), tM_65]
        by_cases e4 : k < l.length
        · rw [if_pos e4, if_pos (by omega), gd_in e4]
        · rw [if_neg e4, if_neg (by omega)]
    · rw [gs_n (by omega), tM_o e2 e1, tM_o e2 e1]
theorem tC_nil : gs g 48 1 0 = tC g [] := by
  unfold tC
  rw [show (fun i => if i < ([] : List Int32).length then ([] : List Int32).getD i 0 else g 9 i) = g 9 from funext fun i => if_neg (by simp), up_self]
  rfl
theorem tM_nil : gs g 66 27 0 = tM g [] := by
  unfold tM
  rw [show (fun i => if i < ([] : List Int32).length then ([] : List Int32).getD i 0 else g 65 i) = g 65 from funext fun i => if_neg (by simp), up_self]
  rfl
end TR
theorem sel3 {q K : Nat} {h : xH} (hK : K = 1 ∨ K = 2 ∨ K = 3) (hk : xk h q = some (kC K)) (A : Option (Int32 × xH)) : (if xk h q = some 4 then A else if xk h q = some 7 then A else if xk h q = some 9 then A else none) = A := by
  rcases hK with e | e | e <;> subst e <;> rw [hk] <;> rfl
theorem sel2 {q K : Nat} {h : xH} (hK : K = 4 ∨ K = 5) (hk : xk h q = some (kC K)) (A : Option (Int32 × xH)) : (if xk h q = some 0 then A else if xk h q = some 2 then A else none) = A := by
  rcases hK with e | e <;> subst e <;> rw [hk] <;> rfl
/-- what is marked, and left in the trace, of a run that is a zeros -/
def zmV (K : Nat) (v : Int32) : Int32 := if K = 2 then (2 : Int32) * v else if K = 3 then v - (1000 : Int32) else v
def zmL (K : Nat) (l : List Int32) : List Int32 := (if K = 2 then l ++ [24] else if K = 3 then l ++ [22] else l) ++ [21] ++ [20]
def zsL (K : Nat) (l : List Int32) : List Int32 := zmL K ((if K = 2 then l ++ [12] else l) ++ [11] ++ [10])
def zsV (K : Nat) (v : Int32) : Int32 := if K = 2 then 0 - v else v
def asL (K : Nat) (l : List Int32) : List Int32 := (if K = 5 then l ++ [14] else l) ++ [13] ++ [10]
def asV (K : Nat) (v : Int32) : Int32 := if K = 5 then (2 : Int32) * (v - 100) else v - 100
section ASK
variable {L : Nat} {xs : Nat → Int32} {g : xS} {r : Nat → Option Nat} {rs : xH} {a K i len : Nat} {l : List Int32}
theorem t_note (h : l.length < 16) (x : Int32) : f_X9_note 42 x (wH L xs (tC g l) r rs) = some (wH L xs (tC g (l ++ [x])) r rs) := by
  unfold f_X9_note
  rw [wi_42_1, ob_s, tC_48, if_neg (show ¬ (16 : Int32) ≤ nI l.length by rw [l_16, q_le (by omega) (by omega)]; omega), wr_42_0, ob_s, wi_42_1, ob_s, tC_48, wu_43' h, ob_s, wi_42_1, ob_s, gs_oc (by omega), tC_48, wp_42_1, ob_s, l_1, q_add, tC_add]
theorem m_tr (h : l.length < 16) (x : Int32) : f_X12_traces 84 x (wH L xs (tM g l) r rs) = some (wH L xs (tM g (l ++ [x])) r rs) := by
  unfold f_X12_traces
  rw [wi_84_27, ob_s, tM_66, if_neg (show ¬ (16 : Int32) ≤ nI l.length by rw [l_16, q_le (by omega) (by omega)]; omega), wr_84_26, ob_s, wi_84_27, ob_s, tM_66, wu_100' h, ob_s, wi_84_27, ob_s, gs_oc (by omega), tM_66, wp_84_27, ob_s, l_1, q_add, tM_add]
theorem e6s (h1 : 1 ≤ K) (h2 : K ≤ 5) (ho : rs[a]? = some (.inr (kC K, [.int (nI i), .int (nI len)]))) (h : l.length < 16) : f_X6_tellSize (101 + a) 42 (wH L xs (tC g l) r rs) = some (nI len, wH L xs (tC g (l ++ [10])) r rs) := by
  unfold f_X6_tellSize
  rw [wk_42, if_pos rfl, t_note h, ob_s, xg1_ru h1 h2 ho, ob_s]
theorem e6m (h1 : 1 ≤ K) (h2 : K ≤ 5) (ho : rs[a]? = some (.inr (kC K, [.int (nI i), .int (nI len)]))) (h : l.length < 16) : f_X6_tellMark (101 + a) 42 (wH L xs (tC g l) r rs) = some (nI i, wH L xs (tC g (l ++ [20])) r rs) := by
  unfold f_X6_tellMark
  rw [wk_42, if_pos rfl, t_note h, ob_s, xg0_ru h1 h2 ho, ob_s]
theorem bt_s (q : Nat → Bool) (k : Nat) : fb_ct q k + (q k).toNat = fb_ct q (k + 1) := by
  rw [fb_ct_succ]
  cases q k <;> rfl
theorem e_within_L (h1 : 1 ≤ K) (h2 : K ≤ 5) (hl : len ≤ 99) (ho : rs[a]? = some (.inr (kC K, [.int (nI i), .int (nI len)]))) : ∀ m k, k ≤ len → len < k + m → f_X6_onesWithin_L4 m (101 + a) (nI (fb_ct (bR K) k)) (nI k) (wH L xs g r rs) = some (nI (fb_ct (bR K) len), nI len, wH L xs g r rs) := by
  intro m
  induction m with
  | zero => intro k a1 a2; omega
  | succ m ih =>
    intro k a1 a2
    unfold f_X6_onesWithin_L4
    rw [xg1_ru h1 h2 ho, ob_s]
    by_cases hk : k = len
    · subst hk
      rw [if_pos (Int32.le_refl _)]
    · rw [if_neg (by rw [q_le (by omega) (by omega)]; omega), e_rbit h1 h2 (xk_ru ho) (by omega), ob_s]
      dsimp only
      rw [l_1, q_add, q_add, bt_s]
      exact ih (k + 1) (by omega) (by omega)
theorem e_within (h1 : 1 ≤ K) (h2 : K ≤ 5) (hl : len ≤ 99) (ho : rs[a]? = some (.inr (kC K, [.int (nI i), .int (nI len)]))) : f_X6_onesWithin (101 + a) (wH L xs g r rs) = some (nI (fb_ct (bR K) len), wH L xs g r rs) := by
  unfold f_X6_onesWithin
  have := e_within_L (L := L) (xs := xs) (g := g) (r := r) h1 h2 hl ho xN 0 (by omega) (by unfold xN; omega)
  rw [show fb_ct (bR K) 0 = 0 from rfl] at this
  rw [l_0, this, ob_s]
theorem m_onesOf_L (h1 : 1 ≤ K) (h2 : K ≤ 5) (hl : len ≤ 99) (hi : i < 12) (h60 : g 60 i = nI K) (h61 : g 61 i = nI len) : ∀ m k, k ≤ len → len < k + m → f_X12_onesOf_L4 m 84 (nI i) (nI (fb_ct (bR K) k)) (nI k) (wH L xs g r rs) = some (nI (fb_ct (bR K) len), nI len, wH L xs g r rs) := by
  intro m
  induction m with
  | zero => intro k a1 a2; omega
  | succ m ih =>
    intro k a1 a2
    unfold f_X12_onesOf_L4
    rw [wr_84_21, ob_s, wa_96' hi, ob_s, h61]
    by_cases hk : k = len
    · subst hk
      rw [if_pos (Int32.le_refl _)]
    · rw [if_neg (by rw [q_le (by omega) (by omega)]; omega), wr_84_20, ob_s, wa_95' hi, ob_s, h60, m_rbit h1 h2 (by omega), ob_s]
      dsimp only
      rw [l_1, q_add, q_add, bt_s]
      exact ih (k + 1) (by omega) (by omega)
theorem m_onesOf (h1 : 1 ≤ K) (h2 : K ≤ 5) (hl : len ≤ 99) (hi : i < 12) (h60 : g 60 i = nI K) (h61 : g 61 i = nI len) : f_X12_onesOf 84 (nI i) (wH L xs g r rs) = some (nI (fb_ct (bR K) len), wH L xs g r rs) := by
  unfold f_X12_onesOf
  have := m_onesOf_L (L := L) (xs := xs) (r := r) (rs := rs) h1 h2 hl hi h60 h61 xN 0 (by omega) (by unfold xN; omega)
  rw [show fb_ct (bR K) 0 = 0 from rfl] at this
  rw [l_0, this, ob_s]
theorem e10m (hK : K = 1 ∨ K = 2 ∨ K = 3) (hl : len ≤ 99) (ho : rs[a]? = some (.inr (kC K, [.int (nI i), .int (nI len)]))) (h : l.length < 15) : f_X10_tellMark (101 + a) 42 (wH L xs (tC g l) r rs) = some (nI (i + fb_ct (bR K) len), wH L xs (tC g (l ++ [21] ++ [20])) r rs) := by
  have h1 : 1 ≤ K := by omega
  have h2 : K ≤ 5 := by omega
  unfold f_X10_tellMark
  rw [wk_42, if_pos rfl, t_note (by omega), ob_s, sel3 hK (xk_ru ho), e6m h1 h2 ho (by rw [len1]; omega), ob_s]
  dsimp only
  rw [sel3 hK (xk_ru ho), e_within h1 h2 hl ho, ob_s]
  dsimp only
  rw [q_add]
theorem ezm (hK : K = 1 ∨ K = 2 ∨ K = 3) (hl : len ≤ 99) (ho : rs[a]? = some (.inr (kC K, [.int (nI i), .int (nI len)]))) (h : l.length < 14) : (if xk (wH L xs (tC g l) r rs) (101 + a) = some 4 then f_X4_tellMark (101 + a) 42 (wH L xs (tC g l) r rs) else if xk (wH L xs (tC g l) r rs) (101 + a) = some 7 then f_X8_tellMark (101 + a) 42 (wH L xs (tC g l) r rs) else if xk (wH L xs (tC g l) r rs) (101 + a) = some 9 then f_X10_tellMark (101 + a) 42 (wH L xs (tC g l) r rs) else none) = some (zmV K (nI (i + fb_ct (bR K) len)), wH L xs (tC g (zmL K l)) r rs) := by
  rcases hK with e | e | e
  · subst e
    rw [xk_ru ho, if_neg (by decide), if_neg (by decide), if_pos rfl, e10m (Or.inl rfl) hl ho (by omega)]
    rfl
  · subst e
    rw [xk_ru ho, if_pos rfl]
    unfold f_X4_tellMark
    rw [wk_42, if_pos rfl, t_note (by omega), ob_s, xk_ru ho, if_pos rfl, e10m (Or.inr (Or.inl rfl)) hl ho (by rw [len1]; omega), ob_s]
    rfl
  · subst e
    rw [xk_ru ho, if_neg (by decide), if_pos rfl]
    unfold f_X8_tellMark
    rw [wk_42, if_pos rfl, t_note (by omega), ob_s, xk_ru ho, if_pos rfl, e10m (Or.inr (Or.inr rfl)) hl ho (by rw [len1]; omega), ob_s]
    rfl
theorem e10s (hK : K = 1 ∨ K = 2 ∨ K = 3) (hl : len ≤ 99) (ho : rs[a]? = some (.inr (kC K, [.int (nI i), .int (nI len)]))) (h : l.length < 12) : f_X10_tellSize (101 + a) 42 (wH L xs (tC g l) r rs) = some (nI len + zmV K (nI (i + fb_ct (bR K) len)), wH L xs (tC g (zmL K (l ++ [11] ++ [10]))) r rs) := by
  have h1 : 1 ≤ K := by omega
  have h2 : K ≤ 5 := by omega
  unfold f_X10_tellSize
  rw [wk_42, if_pos rfl, t_note (by omega), ob_s, sel3 hK (xk_ru ho), e6s h1 h2 ho (by rw [len1]; omega), ob_s]
  dsimp only
  rw [ezm hK hl ho (by rw [len1, len1]; omega), ob_s]
theorem e0s (hK : K = 4 ∨ K = 5) (ho : rs[a]? = some (.inr (kC K, [.int (nI i), .int (nI len)]))) (h : l.length < 14) : f_X0_tellSize (101 + a) 42 (wH L xs (tC g l) r rs) = some (nI len - 100, wH L xs (tC g (l ++ [13] ++ [10])) r rs) := by
  have h1 : 1 ≤ K := by omega
  have h2 : K ≤ 5 := by omega
  unfold f_X0_tellSize
  rw [wk_42, if_pos rfl, t_note (by omega), ob_s, sel2 hK (xk_ru ho), e6s h1 h2 ho (by rw [len1]; omega), ob_s]
theorem eas (hK : K = 4 ∨ K = 5) (ho : rs[a]? = some (.inr (kC K, [.int (nI i), .int (nI len)]))) (h : l.length < 13) : (if xk (wH L xs (tC g l) r rs) (101 + a) = some 0 then f_X0_tellSize (101 + a) 42 (wH L xs (tC g l) r rs) else if xk (wH L xs (tC g l) r rs) (101 + a) = some 2 then f_X2_tellSize (101 + a) 42 (wH L xs (tC g l) r rs) else none) = some (asV K (nI len), wH L xs (tC g (asL K l)) r rs) := by
  rcases hK with e | e
  · subst e
    rw [xk_ru ho, if_pos rfl, e0s (Or.inl rfl) ho (by omega)]
    rfl
  · subst e
    rw [xk_ru ho, if_neg (by decide), if_pos rfl]
    unfold f_X2_tellSize
    rw [wk_42, if_pos rfl, t_note (by omega), ob_s, xk_ru ho, if_pos rfl, e0s (Or.inr rfl) ho (by rw [len1]; omega), ob_s]
    rfl
theorem e0m (hK : K = 4 ∨ K = 5) (ho : rs[a]? = some (.inr (kC K, [.int (nI i), .int (nI len)]))) (h : l.length < 10) : f_X0_tellMark (101 + a) 42 (wH L xs (tC g l) r rs) = some (nI i - asV K (nI len), wH L xs (tC g (asL K (l ++ [23] ++ [20]))) r rs) := by
  have h1 : 1 ≤ K := by omega
  have h2 : K ≤ 5 := by omega
  unfold f_X0_tellMark
  rw [wk_42, if_pos rfl, t_note (by omega), ob_s, sel2 hK (xk_ru ho), e6m h1 h2 ho (by rw [len1]; omega), ob_s]
  dsimp only
  rw [eas hK ho (by rw [len1, len1]; omega), ob_s]
/-! the reference -/
theorem mzm (hK : K = 1 ∨ K = 2 ∨ K = 3) (hl : len ≤ 99) (hi : i < 12) (h60 : g 60 i = nI K) (h61 : g 61 i = nI len) (h : l.length < 13) : f_X12_zerosMark 84 (nI i) (wH L xs (tM g l) r rs) = some (zmV K (nI (i + fb_ct (bR K) len)), wH L xs (tM g (zmL K l)) r rs) := by
  have h1 : 1 ≤ K := by omega
  have h2 : K ≤ 5 := by omega
  have f60 : ∀ l, tM g l 60 i = nI K := fun l => (tM_o (by omega) (by omega)).trans h60
  have f61 : ∀ l, tM g l 61 i = nI len := fun l => (tM_o (by omega) (by omega)).trans h61
  unfold f_X12_zerosMark
  rw [wk_84, if_pos rfl, m_kindIn hi (f60 l), ob_s]
  rcases hK with e | e | e
  · subst e
    simp only [kq_1_1, kq_1_2, kq_1_3, kq_1_4, kq_1_5, kq_2_1, kq_2_2, kq_2_3, kq_2_4, kq_2_5, kq_3_1, kq_3_2, kq_3_3, kq_3_4, kq_3_5, kq_4_1, kq_4_2, kq_4_3, kq_4_4, kq_4_5, kq_5_1, kq_5_2, kq_5_3, kq_5_4, kq_5_5, kl_1, kl_2, kl_3, kl_4, kl_5, k_10, if_true, if_false]
    rw [ob_s, wk_84, if_pos rfl, m_tr (by omega), ob_s, wk_84, if_pos rfl, m_tr (by rw [len1]; omega), ob_s, wk_84, if_pos rfl, m_onesOf h1 h2 hl hi (f60 _) (f61 _), ob_s]
    dsimp only
    rw [q_add]
    rfl
  · subst e
    simp only [kq_1_1, kq_1_2, kq_1_3, kq_1_4, kq_1_5, kq_2_1, kq_2_2, kq_2_3, kq_2_4, kq_2_5, kq_3_1, kq_3_2, kq_3_3, kq_3_4, kq_3_5, kq_4_1, kq_4_2, kq_4_3, kq_4_4, kq_4_5, kq_5_1, kq_5_2, kq_5_3, kq_5_4, kq_5_5, kl_1, kl_2, kl_3, kl_4, kl_5, k_10, if_true, if_false]
    rw [wk_84, if_pos rfl, m_tr (by omega), ob_s, ob_s, wk_84, if_pos rfl, m_tr (by rw [len1]; omega), ob_s, wk_84, if_pos rfl, m_tr (by rw [len1, len1]; omega), ob_s, wk_84, if_pos rfl, m_onesOf h1 h2 hl hi (f60 _) (f61 _), ob_s]
    dsimp only
    rw [q_add]
    rfl
  · subst e
    simp only [kq_1_1, kq_1_2, kq_1_3, kq_1_4, kq_1_5, kq_2_1, kq_2_2, kq_2_3, kq_2_4, kq_2_5, kq_3_1, kq_3_2, kq_3_3, kq_3_4, kq_3_5, kq_4_1, kq_4_2, kq_4_3, kq_4_4, kq_4_5, kq_5_1, kq_5_2, kq_5_3, kq_5_4, kq_5_5, kl_1, kl_2, kl_3, kl_4, kl_5, k_10, if_true, if_false]
    rw [wk_84, if_pos rfl, m_tr (by omega), ob_s, ob_s, wk_84, if_pos rfl, m_tr (by rw [len1]; omega), ob_s, wk_84, if_pos rfl, m_tr (by rw [len1, len1]; omega), ob_s, wk_84, if_pos rfl, m_onesOf h1 h2 hl hi (f60 _) (f61 _), ob_s]
    dsimp only
    rw [q_add]
    rfl
theorem mzs (hK : K = 1 ∨ K = 2 ∨ K = 3) (hl : len ≤ 99) (hi : i < 12) (h60 : g 60 i = nI K) (h61 : g 61 i = nI len) (h : l.length < 10) : f_X12_zerosSize 84 (nI i) (wH L xs (tM g l) r rs) = some (zsV K (nI len + zmV K (nI (i + fb_ct (bR K) len))), wH L xs (tM g (zsL K l)) r rs) := by
  have h1 : 1 ≤ K := by omega
  have h2 : K ≤ 5 := by omega
  have f60 : ∀ l, tM g l 60 i = nI K := fun l => (tM_o (by omega) (by omega)).trans h60
  have f61 : ∀ l, tM g l 61 i = nI len := fun l => (tM_o (by omega) (by omega)).trans h61
  unfold f_X12_zerosSize
  rw [wk_84, if_pos rfl, m_kindIn hi (f60 l), ob_s]
  rcases hK with e | e | e
  · subst e
    simp only [kq_1_1, kq_1_2, kq_1_3, kq_1_4, kq_1_5, kq_2_1, kq_2_2, kq_2_3, kq_2_4, kq_2_5, kq_3_1, kq_3_2, kq_3_3, kq_3_4, kq_3_5, kq_4_1, kq_4_2, kq_4_3, kq_4_4, kq_4_5, kq_5_1, kq_5_2, kq_5_3, kq_5_4, kq_5_5, kl_1, kl_2, kl_3, kl_4, kl_5, k_10, if_true, if_false]
    rw [ob_s, wk_84, if_pos rfl, m_tr (by omega), ob_s, wk_84, if_pos rfl, m_tr (by rw [len1]; omega), ob_s, wr_84_21, ob_s, wa_96' hi, ob_s, f61, wk_84, if_pos rfl, mzm (Or.inl rfl) hl hi h60 h61 (by rw [len1, len1]; omega), ob_s]
    rfl
  · subst e
    simp only [kq_1_1, kq_1_2, kq_1_3, kq_1_4, kq_1_5, kq_2_1, kq_2_2, kq_2_3, kq_2_4, kq_2_5, kq_3_1, kq_3_2, kq_3_3, kq_3_4, kq_3_5, kq_4_1, kq_4_2, kq_4_3, kq_4_4, kq_4_5, kq_5_1, kq_5_2, kq_5_3, kq_5_4, kq_5_5, kl_1, kl_2, kl_3, kl_4, kl_5, k_10, if_true, if_false]
    rw [wk_84, if_pos rfl, m_tr (by omega), ob_s, ob_s, wk_84, if_pos rfl, m_tr (by rw [len1]; omega), ob_s, wk_84, if_pos rfl, m_tr (by rw [len1, len1]; omega), ob_s, wr_84_21, ob_s, wa_96' hi, ob_s, f61, wk_84, if_pos rfl, mzm (Or.inr (Or.inl rfl)) hl hi h60 h61 (by rw [len1, len1, len1]; omega), ob_s]
    dsimp only
    rw [show ∀ v : Int32, -v = zsV 2 v from fun v => (Int32.zero_sub v).symm]
    rfl
  · subst e
    simp only [kq_1_1, kq_1_2, kq_1_3, kq_1_4, kq_1_5, kq_2_1, kq_2_2, kq_2_3, kq_2_4, kq_2_5, kq_3_1, kq_3_2, kq_3_3, kq_3_4, kq_3_5, kq_4_1, kq_4_2, kq_4_3, kq_4_4, kq_4_5, kq_5_1, kq_5_2, kq_5_3, kq_5_4, kq_5_5, kl_1, kl_2, kl_3, kl_4, kl_5, k_10, if_true, if_false]
    rw [ob_s, wk_84, if_pos rfl, m_tr (by omega), ob_s, wk_84, if_pos rfl, m_tr (by rw [len1]; omega), ob_s, wr_84_21, ob_s, wa_96' hi, ob_s, f61, wk_84, if_pos rfl, mzm (Or.inr (Or.inr rfl)) hl hi h60 h61 (by rw [len1, len1]; omega), ob_s]
    rfl
theorem mas (hK : K = 4 ∨ K = 5) (hi : i < 12) (h60 : g 60 i = nI K) (h61 : g 61 i = nI len) (h : l.length < 13) : f_X12_alternateSize 84 (nI i) (wH L xs (tM g l) r rs) = some (asV K (nI len), wH L xs (tM g (asL K l)) r rs) := by
  have f60 : ∀ l, tM g l 60 i = nI K := fun l => (tM_o (by omega) (by omega)).trans h60
  have f61 : ∀ l, tM g l 61 i = nI len := fun l => (tM_o (by omega) (by omega)).trans h61
  unfold f_X12_alternateSize
  rw [wk_84, if_pos rfl, m_kindIn hi (f60 l), ob_s]
  rcases hK with e | e
  · subst e
    simp only [kq_1_1, kq_1_2, kq_1_3, kq_1_4, kq_1_5, kq_2_1, kq_2_2, kq_2_3, kq_2_4, kq_2_5, kq_3_1, kq_3_2, kq_3_3, kq_3_4, kq_3_5, kq_4_1, kq_4_2, kq_4_3, kq_4_4, kq_4_5, kq_5_1, kq_5_2, kq_5_3, kq_5_4, kq_5_5, kl_1, kl_2, kl_3, kl_4, kl_5, k_10, if_true, if_false]
    rw [ob_s, wk_84, if_pos rfl, m_tr (by omega), ob_s, wk_84, if_pos rfl, m_tr (by rw [len1]; omega), ob_s, wr_84_21, ob_s, wa_96' hi, ob_s, f61]
    rfl
  · subst e
    simp only [kq_1_1, kq_1_2, kq_1_3, kq_1_4, kq_1_5, kq_2_1, kq_2_2, kq_2_3, kq_2_4, kq_2_5, kq_3_1, kq_3_2, kq_3_3, kq_3_4, kq_3_5, kq_4_1, kq_4_2, kq_4_3, kq_4_4, kq_4_5, kq_5_1, kq_5_2, kq_5_3, kq_5_4, kq_5_5, kl_1, kl_2, kl_3, kl_4, kl_5, k_10, if_true, if_false]
    rw [wk_84, if_pos rfl, m_tr (by omega), ob_s, ob_s, wk_84, if_pos rfl, m_tr (by rw [len1]; omega), ob_s, wk_84, if_pos rfl, m_tr (by rw [len1, len1]; omega), ob_s, wr_84_21, ob_s, wa_96' hi, ob_s, f61]
    rfl
theorem mam (hK : K = 4 ∨ K = 5) (hi : i < 12) (h60 : g 60 i = nI K) (h61 : g 61 i = nI len) (h : l.length < 10) : f_X12_alternateMark 84 (nI i) (wH L xs (tM g l) r rs) = some (nI i - asV K (nI len), wH L xs (tM g (asL K (l ++ [23] ++ [20]))) r rs) := by
  unfold f_X12_alternateMark
  rw [wk_84, if_pos rfl, m_tr (by omega), ob_s, wk_84, if_pos rfl, m_tr (by rw [len1]; omega), ob_s, wk_84, if_pos rfl, mas hK hi h60 h61 (by rw [len1, len1]; omega), ob_s]
/-- both traces alike, all else as it was -/
theorem tr_rel (R : Rel g r rs) (hl : l.length ≤ 16) : Rel (tM (tC g l) l) r rs := by
  have F : ∀ c k, c ≠ 9 → ¬ (c = 48 ∧ k = 1) → c ≠ 65 → ¬ (c = 66 ∧ k = 27) → tM (tC g l) l c k = g c k := by
    intro c k x1 x2 x3 x4
    rw [tM_o x3 x4, tC_o x1 x2]
  refine ⟨rRow_c R.row (fun c k hc => F c k (by omega) (by omega) (by omega) (by omega)), rTap_c R.tap (fun c k hc => F c k (by omega) (by omega) (by omega) (by omega)), ⟨?_, ?_⟩, rVec_c R.vec (fun c k hc => F c k (by omega) (by omega) (by omega) (by omega)), rImg_c R.img (fun c k hc => F c k (by omega) (by omega) (by omega) (by omega)), rCh_c R.ch (fun k => F _ k (by omega) (by omega) (by omega) (by omega)), ⟨l.length, hl, ?_, tM_66, fun i hi => ?_⟩, rRun_c R.run (fun c k hc => F c k (by omega) (by omega) (by omega) (by omega)), rHis_c R.his (fun c k hc => F c k (by omega) (by omega) (by omega) (by omega))⟩
  · rw [F 0 10 (by omega) (by omega) (by omega) (by omega), F 66 7 (by omega) (by omega) (by omega) (by omega)]
    exact R.fs.1
  · rw [F 0 11 (by omega) (by omega) (by omega) (by omega), F 66 4 (by omega) (by omega) (by omega) (by omega)]
    exact R.fs.2
  · rw [tM_o (by omega) (by omega), tC_48]
  · rw [tM_65, tM_o (by omega) (by omega), tC_9, if_pos hi, if_pos hi]
end ASK

def qsV (K i len : Nat) : Int32 := if K ≤ 3 then zsV K (nI len + zmV K (nI (i + fb_ct (bR K) len))) else asV K (nI len)
def qsL (K : Nat) : List Int32 := if K ≤ 3 then zsL K [] else asL K []
def qmV (K i len : Nat) : Int32 := if K ≤ 3 then zmV K (nI (i + fb_ct (bR K) len)) else nI i - asV K (nI len)
def qmL (K : Nat) : List Int32 := if K ≤ 3 then zmL K [] else asL K ([] ++ [23] ++ [20])
theorem qs_len : ∀ K, K < 6 → (qsL K).length ≤ 16 := by decide
theorem qm_len : ∀ K, K < 6 → (qmL K).length ≤ 16 := by decide
section ASKO
variable {L : Nat} {xs : Nat → Int32} {g : xS} {r : Nat → Option Nat} {rs : xH} {a K i len : Nat}
theorem c_size {h : xH} (hh : h = wH L xs (tC g []) r rs) (k1 : 1 ≤ K) (k2 : K ≤ 5) (hl : len ≤ 99) (ho : rs[a]? = some (.inr (kC K, [.int (nI i), .int (nI len)]))) : (if xk h (101 + a) = some 0 then f_X0_tellSize (101 + a) 42 h else if xk h (101 + a) = some 2 then f_X2_tellSize (101 + a) 42 h else if xk h (101 + a) = some 4 then f_X4_tellSize (101 + a) 42 h else if xk h (101 + a) = some 7 then f_X10_tellSize (101 + a) 42 h else if xk h (101 + a) = some 9 then f_X10_tellSize (101 + a) 42 h else none) = some (qsV K i len, wH L xs (tC g (qsL K)) r rs) := by
  subst hh
  rw [xk_ru ho]
  rcases K5 k1 k2 with e | e | e | e | e
  · subst e
    rw [if_neg (by decide), if_neg (by decide), if_neg (by decide), if_neg (by decide), if_pos rfl, e10s (Or.inl rfl) hl ho (by decide)]
    rfl
  · subst e
    rw [if_neg (by decide), if_neg (by decide), if_pos rfl]
    unfold f_X4_tellSize
    rw [wk_42, if_pos rfl, t_note (by decide), ob_s, xk_ru ho, if_pos rfl, e10s (Or.inr (Or.inl rfl)) hl ho (by decide), ob_s]
    rfl
  · subst e
    rw [if_neg (by decide), if_neg (by decide), if_neg (by decide), if_pos rfl, e10s (Or.inr (Or.inr rfl)) hl ho (by decide)]
    rfl
  · subst e
    rw [if_pos rfl, e0s (Or.inl rfl) ho (by decide)]
    rfl
  · subst e
    rw [if_neg (by decide), if_pos rfl]
    unfold f_X2_tellSize
    rw [wk_42, if_pos rfl, t_note (by decide), ob_s, xk_ru ho, if_pos rfl, e0s (Or.inr rfl) ho (by decide), ob_s]
    rfl
theorem c_mark {h : xH} (hh : h = wH L xs (tC g []) r rs) (k1 : 1 ≤ K) (k2 : K ≤ 5) (hl : len ≤ 99) (ho : rs[a]? = some (.inr (kC K, [.int (nI i), .int (nI len)]))) : (if xk h (101 + a) = some 0 then f_X0_tellMark (101 + a) 42 h else if xk h (101 + a) = some 2 then f_X0_tellMark (101 + a) 42 h else if xk h (101 + a) = some 4 then f_X4_tellMark (101 + a) 42 h else if xk h (101 + a) = some 7 then f_X8_tellMark (101 + a) 42 h else if xk h (101 + a) = some 9 then f_X10_tellMark (101 + a) 42 h else none) = some (qmV K i len, wH L xs (tC g (qmL K)) r rs) := by
  subst hh
  by_cases h3 : K ≤ 3
  · have hK : K = 1 ∨ K = 2 ∨ K = 3 := by omega
    have z := ezm (L := L) (xs := xs) (g := g) (r := r) (l := []) hK hl ho (by decide)
    have n0 : ¬ xk (wH L xs (tC g []) r rs) (101 + a) = some 0 := by
      rw [xk_ru ho]; rcases hK with e | e | e <;> subst e <;> decide
    have n2 : ¬ xk (wH L xs (tC g []) r rs) (101 + a) = some 2 := by
      rw [xk_ru ho]; rcases hK with e | e | e <;> subst e <;> decide
    rw [if_neg n0, if_neg n2, z]
    unfold qmV qmL
    rw [if_pos h3, if_pos h3]
  · have hK : K = 4 ∨ K = 5 := by omega
    have z := e0m (L := L) (xs := xs) (g := g) (r := r) (l := []) hK ho (by decide)
    unfold qmV qmL
    rw [if_neg h3, if_neg h3, ← z, xk_ru ho]
    rcases hK with e | e <;> subst e <;> rfl
theorem m_size {h : xH} (hh : h = wH L xs (tM g []) r rs) (k1 : 1 ≤ K) (k2 : K ≤ 5) (hl : len ≤ 99) (hi : i < 12) (h60 : g 60 i = nI K) (h61 : g 61 i = nI len) : (if (if nI K < (4 : Int32) then (0 : Int32) else (1 : Int32)) = 0 then ((if xk h 84 = some 11 then f_X12_zerosSize 84 (nI i) h else none).bind fun q6 => some (q6.1, q6.2)) else ((if xk h 84 = some 11 then f_X12_alternateSize 84 (nI i) h else none).bind fun q7 => some (q7.1, q7.2))) = some (qsV K i len, wH L xs (tM g (qsL K)) r rs) := by
  subst hh
  rw [wk_84, if_pos rfl, if_pos rfl]
  by_cases h3 : K ≤ 3
  · have hK : K = 1 ∨ K = 2 ∨ K = 3 := by omega
    have z := mzs (L := L) (xs := xs) (r := r) (rs := rs) (l := []) hK hl hi h60 h61 (by decide)
    rw [z, ob_s, if_pos (show nI K < (4 : Int32) by rcases hK with e | e | e <;> subst e <;> decide), if_pos rfl]
    unfold qsV qsL
    rw [if_pos h3, if_pos h3]
  · have hK : K = 4 ∨ K = 5 := by omega
    have z := mas (L := L) (xs := xs) (r := r) (rs := rs) (l := []) hK hi h60 h61 (by decide)
    rw [z, ob_s, if_neg (show ¬ nI K < (4 : Int32) by rcases hK with e | e <;> subst e <;> decide), if_neg (by decide)]
    unfold qsV qsL
    rw [if_neg h3, if_neg h3]
theorem m_mark {h : xH} (hh : h = wH L xs (tM g []) r rs) (k1 : 1 ≤ K) (k2 : K ≤ 5) (hl : len ≤ 99) (hi : i < 12) (h60 : g 60 i = nI K) (h61 : g 61 i = nI len) : (if (if nI K < (4 : Int32) then (0 : Int32) else (1 : Int32)) = 0 then ((if xk h 84 = some 11 then f_X12_zerosMark 84 (nI i) h else none).bind fun q8 => some (q8.1, q8.2)) else ((if xk h 84 = some 11 then f_X12_alternateMark 84 (nI i) h else none).bind fun q9 => some (q9.1, q9.2))) = some (qmV K i len, wH L xs (tM g (qmL K)) r rs) := by
  subst hh
  rw [wk_84, if_pos rfl, if_pos rfl]
  by_cases h3 : K ≤ 3
  · have hK : K = 1 ∨ K = 2 ∨ K = 3 := by omega
    have z := mzm (L := L) (xs := xs) (r := r) (rs := rs) (l := []) hK hl hi h60 h61 (by decide)
    rw [z, ob_s, if_pos (show nI K < (4 : Int32) by rcases hK with e | e | e <;> subst e <;> decide), if_pos rfl]
    unfold qmV qmL
    rw [if_pos h3, if_pos h3]
  · have hK : K = 4 ∨ K = 5 := by omega
    have z := mam (L := L) (xs := xs) (r := r) (rs := rs) (l := []) hK hi h60 h61 (by decide)
    rw [z, ob_s, if_neg (show ¬ nI K < (4 : Int32) by rcases hK with e | e <;> subst e <;> decide), if_neg (by decide)]
    unfold qmV qmL
    rw [if_neg h3, if_neg h3]
theorem o_ask (R : Rel g r rs) (x y : Int32) : Op L xs g r rs (f_X11_ask 3 x y) (f_X12_ask 84 x y) := by
  rcases sRn R.run x with ⟨m, i, a, K, len, hm, hi, rfl, h9, h19, hr, k1, k2, hl, ho, h60, h61⟩ | ⟨m, hm, h9, h19, hx⟩
  · have n1 : ¬ nI 1 = (0 : Int32) := by decide
    have f19 : ∀ l, tC g l 66 19 = nI m := fun l => (tC_o (by omega) (by omega)).trans h19
    have f60 : ∀ l, tC g l 60 i = nI K := fun l => (tC_o (by omega) (by omega)).trans h60
    have f61 : ∀ l, tC g l 61 i = nI len := fun l => (tC_o (by omega) (by omega)).trans h61
    have g60 : ∀ l, tM (tC g l) [] 60 i = nI K := fun l => (tM_o (by omega) (by omega)).trans (f60 l)
    rcases a_sp y with hy | ⟨t, ht, rfl⟩
    · refine RO.op ?_ R
      unfold RO f_X11_ask f_X12_ask
      refine ⟨-1000001, ?_, ?_⟩
      · rw [wk_3, if_pos rfl, e_isRun hm hi h9 hr, ob_s, if_neg n1, if_pos hy]
      · rw [wk_84, if_pos rfl, m_isRun hm hi h19, ob_s, if_neg n1, l_0, in_neg hy, ob_s]; rfl
    · by_cases e : t ≤ 1
      · rcases (show t = 0 ∨ t = 1 by omega) with e0 | e0
        · subst e0
          refine ⟨qsV K i len, tC g (qsL K), r, rs, tM (tC g (qsL K)) (qsL K), ?_, ?_, tr_rel R (qs_len K (by omega)), by omega, by omega⟩
          · unfold f_X11_ask
            rw [wk_3, if_pos rfl, e_isRun hm hi h9 hr, ob_s, if_neg n1, if_neg (by decide), if_pos (by decide), wr_3_8, ob_s, wp_42_1, ob_s, if_pos rfl, wr_3_7, ob_s, xaR_ru (by omega) hr, ob_s, wr_3_8, ob_s, c_size (by rw [tC_nil]) k1 k2 hl ho, ob_s]
          · unfold f_X12_ask
            rw [wk_84, if_pos rfl, m_isRun hm hi (f19 _), ob_s, if_neg n1, show f_X12_in (nI 0) 0 1 (wH L xs (tC g (qsL K)) r rs) = some (nI 1, wH L xs (tC g (qsL K)) r rs) from rfl, ob_s, if_neg n1, wp_84_27, ob_s, tM_nil, wk_84, if_pos rfl, m_kindIn (by omega) (g60 _), ob_s, if_pos rfl, m_size rfl k1 k2 hl (by omega) (f60 _) (f61 _)]
        · subst e0
          refine ⟨qmV K i len, tC g (qmL K), r, rs, tM (tC g (qmL K)) (qmL K), ?_, ?_, tr_rel R (qm_len K (by omega)), by omega, by omega⟩
          · unfold f_X11_ask
            rw [wk_3, if_pos rfl, e_isRun hm hi h9 hr, ob_s, if_neg n1, if_neg (by decide), if_pos (by decide), wr_3_8, ob_s, wp_42_1, ob_s, if_neg (by decide), wr_3_7, ob_s, xaR_ru (by omega) hr, ob_s, wr_3_8, ob_s, c_mark (by rw [tC_nil]) k1 k2 hl ho, ob_s]
          · unfold f_X12_ask
            rw [wk_84, if_pos rfl, m_isRun hm hi (f19 _), ob_s, if_neg n1, show f_X12_in (nI 1) 0 1 (wH L xs (tC g (qmL K)) r rs) = some (nI 1, wH L xs (tC g (qmL K)) r rs) from rfl, ob_s, if_neg n1, wp_84_27, ob_s, tM_nil, wk_84, if_pos rfl, m_kindIn (by omega) (g60 _), ob_s, if_neg (by decide), m_mark rfl k1 k2 hl (by omega) (f60 _) (f61 _)]
      · refine RO.op ?_ R
        unfold RO f_X11_ask f_X12_ask
        refine ⟨-1000001, ?_, ?_⟩
        · rw [wk_3, if_pos rfl, e_isRun hm hi h9 hr, ob_s, if_neg n1, if_neg (q_pos ht), if_neg (show ¬ nI t ≤ (1 : Int32) by rw [l_1, q_le ht (by omega)]; exact e)]
        · rw [wk_84, if_pos rfl, m_isRun hm hi h19, ob_s, if_neg n1, l_0, l_1, in_n ht (by omega), if_neg e, ob_s]; rfl
  · refine RO.op ?_ R
    unfold RO f_X11_ask f_X12_ask
    refine ⟨-1000001, ?_, ?_⟩
    · rw [wk_3, if_pos rfl, e_isRun0 hm hx h9, ob_s]; rfl
    · rw [wk_84, if_pos rfl, m_isRun0 hm hx h19, ob_s]; rfl
end ASKO
