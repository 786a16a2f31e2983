theorem st_rel {g : xS} {r : Nat → Option Nat} {rs : xH} (R : Rel g r rs) (x : Int32) : Rel (gs (gs g 0 11 x) 66 4 x) r rs := by
  have F : ∀ c k, ¬ (c = 0 ∧ k = 11) → ¬ (c = 66 ∧ k = 4) → gs (gs g 0 11 x) 66 4 x c k = g c k := by
    intro c k h1 h2
    by_cases c6 : c = 66
    · subst c6
      rw [gs_ok (by omega), gs_oc (by omega)]
    · rw [gs_oc c6]
      by_cases c0 : c = 0
      · subst c0
        rw [gs_ok (by omega)]
      · rw [gs_oc c0]
  refine ⟨rRow_c R.row (fun c k hc => F c k (by omega) (by omega)), rTap_c R.tap (fun c k hc => F c k (by omega) (by omega)), ⟨?_, ?_⟩, rVec_c R.vec (fun c k hc => F c k (by omega) (by omega)), rImg_c R.img (fun c k hc => F c k (by omega) (by omega)), rCh_c R.ch (fun k => F _ k (by omega) (by omega)), rTr_c R.tr (fun c k hc => F c k (by omega) (by omega)), rRun_c R.run (fun c k hc => F c k (by omega) (by omega)), rHis_c R.his (fun c k hc => F c k (by omega) (by omega))⟩
  · rw [F 0 10 (by omega) (by omega), F 66 7 (by omega) (by omega)]
    exact R.fs.1
  · rw [gs_oc (by omega), gs_same, gs_same]
theorem in_1 {i n : Nat} {h : xH} (hi : i < 2147483648) (hn : n < 2147483648) : f_X12_in (nI i) (nI 1) (nI n) h = some (nI (if 1 ≤ i ∧ i ≤ n then 1 else 0), h) := by
  unfold f_X12_in
  simp only [q_lt hi (show 1 < 2147483648 by omega), q_lt hn hi]
  by_cases e : 1 ≤ i
  · rw [if_neg (by omega)]
    by_cases e2 : i ≤ n
    · rw [if_neg (by omega), if_pos ⟨e, e2⟩]; rfl
    · rw [if_pos (by omega), if_neg (by omega)]; rfl
  · rw [if_pos (by omega), if_neg (by omega)]; rfl
theorem in_neg1 {x b : Int32} {h : xH} (hx : x < nI 0) : f_X12_in x (nI 1) b h = some (nI 0, h) := by
  unfold f_X12_in
  rw [if_pos (of_eq_true (ng1 hx (by omega)))]
  rfl
theorem sneg {l d : Nat} (h : l < d) (hd : d < 2147483648) : nI l - nI d < nI 0 := by
  have h1 : (nI l).toInt = (l : Int) := nI_toInt (by omega)
  have h2 : (nI d).toInt = (d : Int) := nI_toInt (by omega)
  have h3 : (nI 0).toInt = 0 := by decide
  rw [Int32.lt_iff_toInt_lt, fb_subI (by omega) (by omega), h1, h2, h3]
  omega
section ST
variable {L : Nat} {xs : Nat → Int32} {g : xS} {r : Nat → Option Nat} {rs : xH} {k l : Nat} {x y : Int32}
theorem e_found : f_X11_found 3 x (wH L xs g r rs) = some (-1000010 - x, wH L xs (gs g 0 11 x) r rs) := by
  unfold f_X11_found
  rw [wp_3_11, Option.bind_some]
theorem e_fine : f_X11_fine 3 x (wH L xs g r rs) = some (x, wH L xs (gs g 0 11 (nI 0)) r rs) := by
  unfold f_X11_fine
  rw [wp_3_11, Option.bind_some]
  rfl
theorem m_found : f_X12_found 84 x (wH L xs g r rs) = some (-1000010 - x, wH L xs (gs g 66 4 x) r rs) := by
  unfold f_X12_found
  rw [wp_84_4, Option.bind_some]
theorem m_well : f_X12_well 84 x (wH L xs g r rs) = some (x, wH L xs (gs g 66 4 (nI 0)) r rs) := by
  unfold f_X12_well
  rw [wp_84_4, Option.bind_some]
  rfl
theorem m_missing (hk : k < 8) (b : Bool) (h : if b then g 50 k = -1000000 else ∃ l, l < 3 ∧ g 50 k = nI l) : f_X12_isMissing 84 (nI k) (wH L xs g r rs) = some (nI b.toNat, wH L xs g r rs) := by
  unfold f_X12_isMissing
  rw [wr_84_0, Option.bind_some, wa_85' hk, Option.bind_some]
  cases b with
  | true => rw [if_pos (show g 50 k = -1000000 from h)]; rfl
  | false =>
    obtain ⟨l, h1, h2⟩ : ∃ l, l < 3 ∧ g 50 k = nI l := h
    rw [h2, if_neg (fun e => by
      rcases (show l = 0 ∨ l = 1 ∨ l = 2 by omega) with e2 | e2 | e2 <;> subst e2 <;> exact absurd e (by decide))]
    rfl
/-- both ask for a part of a row alike -/
theorem parts (hk : k < 8) (hl : l ≤ 40) (h4 : g 4 k = nI l) (g' : xS) (h51 : g' 51 k = nI l) (x y : Int32) : (∃ i d, x = nI i ∧ y = nI d ∧ i + d ≤ l ∧ f_X5_hasPart (44 + 2 * k) x y (wH L xs g r rs) = some (nI 1, wH L xs g r rs) ∧ f_X12_isPart 84 (nI k) x y (wH L xs g' r rs) = some (nI 1, wH L xs g' r rs)) ∨ (f_X5_hasPart (44 + 2 * k) x y (wH L xs g r rs) = some (nI 0, wH L xs g r rs) ∧ f_X12_isPart 84 (nI k) x y (wH L xs g' r rs) = some (nI 0, wH L xs g' r rs)) := by
  unfold f_X5_hasPart f_X12_isPart
  rcases a_sp x with hx | ⟨i, hi, rfl⟩
  · exact Or.inr ⟨by simp (disch := omega) only [q_pos, q_pos', q_lt, q_le, q_eq, q_add, q_sub, q_mul, ob_s, if_pos, if_neg, not_false_eq_true, q_m1', q_div, rm_N, l_0, l_1, l_2, l_3, l_4, l_5, l_6, l_7, l_8, l_10, l_11, l_12, l_13, l_14, l_15, l_16, l_18, l_20, l_21, l_22, l_23, l_24, l_32, l_33, l_40, l_44, l_48, l_57, l_59, l_60, l_63, l_64, l_97, l_98, l_99, l_100, l_111, l_116, l_122, l_132, l_200, l_240, l_255, l_480, l_1000, l_1452, if_true, if_false, true_or, or_true, in_neg, in_m1, in_n, V1, V2, R1, R2, B1, B2, eq_self, ng1 hx], by simp (disch := omega) only [q_pos, q_pos', q_lt, q_le, q_eq, q_add, q_sub, q_mul, ob_s, if_pos, if_neg, not_false_eq_true, q_m1', q_div, rm_N, l_0, l_1, l_2, l_3, l_4, l_5, l_6, l_7, l_8, l_10, l_11, l_12, l_13, l_14, l_15, l_16, l_18, l_20, l_21, l_22, l_23, l_24, l_32, l_33, l_40, l_44, l_48, l_57, l_59, l_60, l_63, l_64, l_97, l_98, l_99, l_100, l_111, l_116, l_122, l_132, l_200, l_240, l_255, l_480, l_1000, l_1452, if_true, if_false, true_or, or_true, in_neg, in_m1, in_n, V1, V2, R1, R2, B1, B2, eq_self, ng1 hx]⟩
  · rcases a_sp y with hy | ⟨d, hd, rfl⟩
    · exact Or.inr ⟨by simp (disch := omega) only [q_pos, q_pos', q_lt, q_le, q_eq, q_add, q_sub, q_mul, ob_s, if_pos, if_neg, not_false_eq_true, q_m1', q_div, rm_N, l_0, l_1, l_2, l_3, l_4, l_5, l_6, l_7, l_8, l_10, l_11, l_12, l_13, l_14, l_15, l_16, l_18, l_20, l_21, l_22, l_23, l_24, l_32, l_33, l_40, l_44, l_48, l_57, l_59, l_60, l_63, l_64, l_97, l_98, l_99, l_100, l_111, l_116, l_122, l_132, l_200, l_240, l_255, l_480, l_1000, l_1452, if_true, if_false, true_or, or_true, in_neg, in_m1, in_n, V1, V2, R1, R2, B1, B2, eq_self, ng1 hy], by simp (disch := omega) only [q_pos, q_pos', q_lt, q_le, q_eq, q_add, q_sub, q_mul, ob_s, if_pos, if_neg, not_false_eq_true, q_m1', q_div, rm_N, l_0, l_1, l_2, l_3, l_4, l_5, l_6, l_7, l_8, l_10, l_11, l_12, l_13, l_14, l_15, l_16, l_18, l_20, l_21, l_22, l_23, l_24, l_32, l_33, l_40, l_44, l_48, l_57, l_59, l_60, l_63, l_64, l_97, l_98, l_99, l_100, l_111, l_116, l_122, l_132, l_200, l_240, l_255, l_480, l_1000, l_1452, if_true, if_false, true_or, or_true, in_neg, in_m1, in_n, V1, V2, R1, R2, B1, B2, eq_self, ng1 hy]⟩
    · by_cases e : i + d ≤ l
      · exact Or.inl ⟨i, d, rfl, rfl, e, by simp (disch := omega) only [q_pos, q_pos', q_lt, q_le, q_eq, q_add, q_sub, q_mul, ob_s, if_pos, if_neg, not_false_eq_true, q_m1', q_div, rm_N, l_0, l_1, l_2, l_3, l_4, l_5, l_6, l_7, l_8, l_10, l_11, l_12, l_13, l_14, l_15, l_16, l_18, l_20, l_21, l_22, l_23, l_24, l_32, l_33, l_40, l_44, l_48, l_57, l_59, l_60, l_63, l_64, l_97, l_98, l_99, l_100, l_111, l_116, l_122, l_132, l_200, l_240, l_255, l_480, l_1000, l_1452, if_true, if_false, true_or, or_true, in_neg, in_m1, in_n, V1, V2, R1, R2, B1, B2, eq_self, wir3, h4], by simp (disch := omega) only [q_pos, q_pos', q_lt, q_le, q_eq, q_add, q_sub, q_mul, ob_s, if_pos, if_neg, not_false_eq_true, q_m1', q_div, rm_N, l_0, l_1, l_2, l_3, l_4, l_5, l_6, l_7, l_8, l_10, l_11, l_12, l_13, l_14, l_15, l_16, l_18, l_20, l_21, l_22, l_23, l_24, l_32, l_33, l_40, l_44, l_48, l_57, l_59, l_60, l_63, l_64, l_97, l_98, l_99, l_100, l_111, l_116, l_122, l_132, l_200, l_240, l_255, l_480, l_1000, l_1452, if_true, if_false, true_or, or_true, in_neg, in_m1, in_n, V1, V2, R1, R2, B1, B2, eq_self, wk_84, wr_84_0, wr_84_1, wr_84_2, wr_84_3, wr_84_5, wr_84_13, wr_84_14, wr_84_15, wr_84_17, wr_84_18, wr_84_20, wr_84_21, wr_84_23, wr_84_24, wr_84_25, wr_84_26, wi_84_4, wp_84_4, wi_84_6, wp_84_6, wi_84_7, wp_84_7, wi_84_8, wp_84_8, wi_84_9, wp_84_9, wi_84_10, wp_84_10, wi_84_11, wp_84_11, wi_84_12, wp_84_12, wi_84_16, wp_84_16, wi_84_19, wp_84_19, wi_84_22, wp_84_22, wi_84_27, wp_84_27, wa_86', h51]⟩
      · refine Or.inr ⟨?_, ?_⟩
        · by_cases e2 : d ≤ l
          · simp (disch := omega) only [q_pos, q_pos', q_lt, q_le, q_eq, q_add, q_sub, q_mul, ob_s, if_pos, if_neg, not_false_eq_true, q_m1', q_div, rm_N, l_0, l_1, l_2, l_3, l_4, l_5, l_6, l_7, l_8, l_10, l_11, l_12, l_13, l_14, l_15, l_16, l_18, l_20, l_21, l_22, l_23, l_24, l_32, l_33, l_40, l_44, l_48, l_57, l_59, l_60, l_63, l_64, l_97, l_98, l_99, l_100, l_111, l_116, l_122, l_132, l_200, l_240, l_255, l_480, l_1000, l_1452, if_true, if_false, true_or, or_true, in_neg, in_m1, in_n, V1, V2, R1, R2, B1, B2, eq_self, wir3, h4]
          · have hneg : nI l - nI d < nI 0 := sneg (by omega) (by omega)
            simp (disch := omega) only [q_pos, q_pos', q_lt, q_le, q_eq, q_add, q_sub, q_mul, ob_s, if_pos, if_neg, not_false_eq_true, q_m1', q_div, rm_N, l_0, l_1, l_2, l_3, l_4, l_5, l_6, l_7, l_8, l_10, l_11, l_12, l_13, l_14, l_15, l_16, l_18, l_20, l_21, l_22, l_23, l_24, l_32, l_33, l_40, l_44, l_48, l_57, l_59, l_60, l_63, l_64, l_97, l_98, l_99, l_100, l_111, l_116, l_122, l_132, l_200, l_240, l_255, l_480, l_1000, l_1452, if_true, if_false, true_or, or_true, in_neg, in_m1, in_n, V1, V2, R1, R2, B1, B2, eq_self, wir3, h4, ng1 hneg]
        · by_cases e2 : i ≤ l
          · simp (disch := omega) only [q_pos, q_pos', q_lt, q_le, q_eq, q_add, q_sub, q_mul, ob_s, if_pos, if_neg, not_false_eq_true, q_m1', q_div, rm_N, l_0, l_1, l_2, l_3, l_4, l_5, l_6, l_7, l_8, l_10, l_11, l_12, l_13, l_14, l_15, l_16, l_18, l_20, l_21, l_22, l_23, l_24, l_32, l_33, l_40, l_44, l_48, l_57, l_59, l_60, l_63, l_64, l_97, l_98, l_99, l_100, l_111, l_116, l_122, l_132, l_200, l_240, l_255, l_480, l_1000, l_1452, if_true, if_false, true_or, or_true, in_neg, in_m1, in_n, V1, V2, R1, R2, B1, B2, eq_self, wk_84, wr_84_0, wr_84_1, wr_84_2, wr_84_3, wr_84_5, wr_84_13, wr_84_14, wr_84_15, wr_84_17, wr_84_18, wr_84_20, wr_84_21, wr_84_23, wr_84_24, wr_84_25, wr_84_26, wi_84_4, wp_84_4, wi_84_6, wp_84_6, wi_84_7, wp_84_7, wi_84_8, wp_84_8, wi_84_9, wp_84_9, wi_84_10, wp_84_10, wi_84_11, wp_84_11, wi_84_12, wp_84_12, wi_84_16, wp_84_16, wi_84_19, wp_84_19, wi_84_22, wp_84_22, wi_84_27, wp_84_27, wa_86', h51]
          · simp (disch := omega) only [q_pos, q_pos', q_lt, q_le, q_eq, q_add, q_sub, q_mul, ob_s, if_pos, if_neg, not_false_eq_true, q_m1', q_div, rm_N, l_0, l_1, l_2, l_3, l_4, l_5, l_6, l_7, l_8, l_10, l_11, l_12, l_13, l_14, l_15, l_16, l_18, l_20, l_21, l_22, l_23, l_24, l_32, l_33, l_40, l_44, l_48, l_57, l_59, l_60, l_63, l_64, l_97, l_98, l_99, l_100, l_111, l_116, l_122, l_132, l_200, l_240, l_255, l_480, l_1000, l_1452, if_true, if_false, true_or, or_true, in_neg, in_m1, in_n, V1, V2, R1, R2, B1, B2, eq_self, wk_84, wr_84_0, wr_84_1, wr_84_2, wr_84_3, wr_84_5, wr_84_13, wr_84_14, wr_84_15, wr_84_17, wr_84_18, wr_84_20, wr_84_21, wr_84_23, wr_84_24, wr_84_25, wr_84_26, wi_84_4, wp_84_4, wi_84_6, wp_84_6, wi_84_7, wp_84_7, wi_84_8, wp_84_8, wi_84_9, wp_84_9, wi_84_10, wp_84_10, wi_84_11, wp_84_11, wi_84_12, wp_84_12, wi_84_16, wp_84_16, wi_84_19, wp_84_19, wi_84_22, wp_84_22, wi_84_27, wp_84_27, wa_86', h51]
end ST
