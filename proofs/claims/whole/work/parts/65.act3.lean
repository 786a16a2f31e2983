section ACT4
variable {L : Nat} {xs : Nat → Int32} {g : xS} {r : Nat → Option Nat} {rs : xH} {v n j : Nat} {p : Nat → Bool}
theorem o_undo (R : Rel g r rs) : Op L xs g r rs (f_X11_undo 3) (f_X12_undo 84) := by
  obtain ⟨o, h, hh⟩ := R.his
  obtain ⟨h1, h2, h3, h4, h5, h6⟩ := hh
  by_cases e : h = 0
  · subst e
    refine RO.op ?_ R
    unfold RO f_X11_undo f_X12_undo
    exact ⟨-1000002, by simp (disch := omega) only [q_pos, q_pos', q_lt, q_le, q_eq, q_add, q_sub, q_mul, ob_s, if_pos, if_neg, not_false_eq_true, q_m1', q_div, rm_N, l_0, l_1, l_2, l_3, l_4, l_5, l_6, l_7, l_8, l_10, l_11, l_12, l_13, l_14, l_15, l_16, l_18, l_20, l_21, l_22, l_23, l_24, l_32, l_33, l_40, l_44, l_48, l_57, l_59, l_60, l_63, l_64, l_97, l_98, l_99, l_100, l_111, l_116, l_122, l_132, l_200, l_240, l_255, l_480, l_1000, l_1452, if_true, if_false, true_or, or_true, in_neg, in_m1, in_n, V1, V2, R1, R2, B1, B2, eq_self, wk_3, wk_10, wk_37, wk_42, wr_3_0, wr_3_1, wr_3_2, wr_3_3, wr_3_4, wr_3_5, wr_3_6, wr_3_7, wr_3_8, wi_3_9, wi_3_10, wi_3_11, wp_3_9, wp_3_10, wp_3_11, wr_10_0, wr_10_1, wi_10_2, wi_10_3, wp_10_2, wp_10_3, wr_37_0, wr_37_1, wr_37_2, wi_37_3, wp_37_3, wi_37_4, wp_37_4, wi_37_5, wp_37_5, wi_37_6, wp_37_6, wi_37_7, wp_37_7, wi_37_8, wp_37_8, wr_42_0, wi_42_1, wp_42_1, wk_84, wr_84_0, wr_84_1, wr_84_2, wr_84_3, wr_84_5, wr_84_13, wr_84_14, wr_84_15, wr_84_17, wr_84_18, wr_84_20, wr_84_21, wr_84_23, wr_84_24, wr_84_25, wr_84_26, wi_84_4, wp_84_4, wi_84_6, wp_84_6, wi_84_7, wp_84_7, wi_84_8, wp_84_8, wi_84_9, wp_84_9, wi_84_10, wp_84_10, wi_84_11, wp_84_11, wi_84_12, wp_84_12, wi_84_16, wp_84_16, wi_84_19, wp_84_19, wi_84_22, wp_84_22, wi_84_27, wp_84_27, wq5v, wkv, wiv, wrv, wav', h4], by simp (disch := omega) only [q_pos, q_pos', q_lt, q_le, q_eq, q_add, q_sub, q_mul, ob_s, if_pos, if_neg, not_false_eq_true, q_m1', q_div, rm_N, l_0, l_1, l_2, l_3, l_4, l_5, l_6, l_7, l_8, l_10, l_11, l_12, l_13, l_14, l_15, l_16, l_18, l_20, l_21, l_22, l_23, l_24, l_32, l_33, l_40, l_44, l_48, l_57, l_59, l_60, l_63, l_64, l_97, l_98, l_99, l_100, l_111, l_116, l_122, l_132, l_200, l_240, l_255, l_480, l_1000, l_1452, if_true, if_false, true_or, or_true, in_neg, in_m1, in_n, V1, V2, R1, R2, B1, B2, eq_self, wk_3, wk_10, wk_37, wk_42, wr_3_0, wr_3_1, wr_3_2, wr_3_3, wr_3_4, wr_3_5, wr_3_6, wr_3_7, wr_3_8, wi_3_9, wi_3_10, wi_3_11, wp_3_9, wp_3_10, wp_3_11, wr_10_0, wr_10_1, wi_10_2, wi_10_3, wp_10_2, wp_10_3, wr_37_0, wr_37_1, wr_37_2, wi_37_3, wp_37_3, wi_37_4, wp_37_4, wi_37_5, wp_37_5, wi_37_6, wp_37_6, wi_37_7, wp_37_7, wi_37_8, wp_37_8, wr_42_0, wi_42_1, wp_42_1, wk_84, wr_84_0, wr_84_1, wr_84_2, wr_84_3, wr_84_5, wr_84_13, wr_84_14, wr_84_15, wr_84_17, wr_84_18, wr_84_20, wr_84_21, wr_84_23, wr_84_24, wr_84_25, wr_84_26, wi_84_4, wp_84_4, wi_84_6, wp_84_6, wi_84_7, wp_84_7, wi_84_8, wp_84_8, wi_84_9, wp_84_9, wi_84_10, wp_84_10, wi_84_11, wp_84_11, wi_84_12, wp_84_12, wi_84_16, wp_84_16, wi_84_19, wp_84_19, wi_84_22, wp_84_22, wi_84_27, wp_84_27, wq5v, wkv, wiv, wrv, wav', h5]⟩
  · obtain ⟨s, rfl⟩ : ∃ s, h = s + 1 := ⟨h - 1, by omega⟩
    obtain ⟨w, a1, a2, ⟨n, p, a3, a4⟩, a5⟩ := h6 s (by omega)
    have a3' : vOK (gs g 47 3 (nI s)) (1 + (o + s) % 12) n p := vOK_eq a3 (by rw [gs_oc (by omega)]) (fun b _ => by rw [gs_oc (by omega)])
    obtain ⟨g2, b1, b2, b3⟩ := e_copyFrom (L := L) (xs := xs) (r := r) (rs := rs) (show 13 + w < 25 by omega) (show 1 + (o + s) % 12 < 25 by omega) a3'
    have F2 : ∀ c k, ¬ (c = 1 ∧ k = 13 + w) → c ≠ 33 + w → ¬ (c = 47 ∧ k = 3) → g2 c k = g c k := by
      intro c k x1 x2 x3
      rw [vFr_q b3 c k x1 (by omega)]
      by_cases c4 : c = 47
      · subst c4; rw [gs_ok (by omega)]
      · rw [gs_oc c4]
    have f473 : g2 47 3 = nI s := by rw [vFr_q b3 _ _ (by omega) (by omega), gs_same]
    obtain ⟨g4, c1, c2, c3, c4⟩ := m_copies (L := L) (xs := xs) (r := r) (rs := rs) (g := gs g2 66 16 (nI s)) (pa := 92) (ca := 57) (NA := 1584) (pb := 90) (cb := 55) (NB := 132) (A := 132 * s) (B := 0) (fun _ _ h => wa_92' h) (fun _ _ _ h => wu_90' h) (by omega) (by omega) (by omega)
    have F4 : ∀ c k, c ≠ 55 → ¬ (c = 66 ∧ k = 16) → g4 c k = g2 c k := by
      intro c k x1 x2
      rw [c2 c x1]
      by_cases c6 : c = 66
      · subst c6; rw [gs_ok (by omega)]
      · rw [gs_oc c6]
    have F5 : ∀ t, t < 132 → g4 55 t = g 57 (132 * s + t) := by
      intro t ht
      have := c3 t ht
      rw [Nat.zero_add] at this
      rw [this, gs_oc (by omega), F2 _ _ (by omega) (by omega) (by omega)]
    have F : ∀ c k, ¬ (c = 1 ∧ k = 13 + w) → c ≠ 33 + w → ¬ (c = 47 ∧ k = 3) → c ≠ 55 → ¬ (c = 66 ∧ k = 16) → g4 c k = g c k := fun c k x1 x2 x3 x4 x5 => (F4 c k x4 x5).trans (F2 c k x1 x2 x3)
    have f66 : g4 66 16 = nI s := by rw [c2 66 (by omega), gs_same]
    refine ⟨nI s, g2, r, rs, g4, ?_, ?_, ⟨rRow_c R.row (fun c k hc => F c k (by omega) (by omega) (by omega) (by omega) (by omega)), rTap_c R.tap (fun c k hc => F c k (by omega) (by omega) (by omega) (by omega) (by omega)), ⟨?_, ?_⟩, fun v hv => ?_, rImg_c R.img (fun c k hc => F c k (by omega) (by omega) (by omega) (by omega) (by omega)), rCh_c R.ch (fun k => F _ k (by omega) (by omega) (by omega) (by omega) (by omega)), rTr_c R.tr (fun c k hc => F c k (by omega) (by omega) (by omega) (by omega) (by omega)), rRun_c R.run (fun c k hc => F c k (by omega) (by omega) (by omega) (by omega) (by omega)), ⟨o, s, h1, by omega, ?_, ?_, f66, fun t ht => ?_⟩⟩, by omega, by omega⟩
    · unfold f_X11_undo f_X3_giveBack
      simp (disch := omega) only [q_pos, q_pos', q_lt, q_le, q_eq, q_add, q_sub, q_mul, ob_s, if_pos, if_neg, not_false_eq_true, q_m1', q_div, rm_N, l_0, l_1, l_2, l_3, l_4, l_5, l_6, l_7, l_8, l_10, l_11, l_12, l_13, l_14, l_15, l_16, l_18, l_20, l_21, l_22, l_23, l_24, l_32, l_33, l_40, l_44, l_48, l_57, l_59, l_60, l_63, l_64, l_97, l_98, l_99, l_100, l_111, l_116, l_122, l_132, l_200, l_240, l_255, l_480, l_1000, l_1452, if_true, if_false, true_or, or_true, in_neg, in_m1, in_n, V1, V2, R1, R2, B1, B2, eq_self, wk_3, wk_10, wk_37, wk_42, wr_3_0, wr_3_1, wr_3_2, wr_3_3, wr_3_4, wr_3_5, wr_3_6, wr_3_7, wr_3_8, wi_3_9, wi_3_10, wi_3_11, wp_3_9, wp_3_10, wp_3_11, wr_10_0, wr_10_1, wi_10_2, wi_10_3, wp_10_2, wp_10_3, wr_37_0, wr_37_1, wr_37_2, wi_37_3, wp_37_3, wi_37_4, wp_37_4, wi_37_5, wp_37_5, wi_37_6, wp_37_6, wi_37_7, wp_37_7, wi_37_8, wp_37_8, wr_42_0, wi_42_1, wp_42_1, wk_84, wr_84_0, wr_84_1, wr_84_2, wr_84_3, wr_84_5, wr_84_13, wr_84_14, wr_84_15, wr_84_17, wr_84_18, wr_84_20, wr_84_21, wr_84_23, wr_84_24, wr_84_25, wr_84_26, wi_84_4, wp_84_4, wi_84_6, wp_84_6, wi_84_7, wp_84_7, wi_84_8, wp_84_8, wi_84_9, wp_84_9, wi_84_10, wp_84_10, wi_84_11, wp_84_11, wi_84_12, wp_84_12, wi_84_16, wp_84_16, wi_84_19, wp_84_19, wi_84_22, wp_84_22, wi_84_27, wp_84_27, wq5v, wkv, wiv, wrv, wav', h4, h3, gs_same, gs_ok, gs_oc, wa_12', a2, wq11v, Nat.add_sub_cancel, b1, f473]
    · have f6 : g2 66 16 = nI (s + 1) := by rw [F2 _ _ (by omega) (by omega) (by omega)]; exact h5
      unfold f_X12_undo
      simp (disch := omega) only [q_pos, q_pos', q_lt, q_le, q_eq, q_add, q_sub, q_mul, ob_s, if_pos, if_neg, not_false_eq_true, q_m1', q_div, rm_N, l_0, l_1, l_2, l_3, l_4, l_5, l_6, l_7, l_8, l_10, l_11, l_12, l_13, l_14, l_15, l_16, l_18, l_20, l_21, l_22, l_23, l_24, l_32, l_33, l_40, l_44, l_48, l_57, l_59, l_60, l_63, l_64, l_97, l_98, l_99, l_100, l_111, l_116, l_122, l_132, l_200, l_240, l_255, l_480, l_1000, l_1452, if_true, if_false, true_or, or_true, in_neg, in_m1, in_n, V1, V2, R1, R2, B1, B2, eq_self, wk_3, wk_10, wk_37, wk_42, wr_3_0, wr_3_1, wr_3_2, wr_3_3, wr_3_4, wr_3_5, wr_3_6, wr_3_7, wr_3_8, wi_3_9, wi_3_10, wi_3_11, wp_3_9, wp_3_10, wp_3_11, wr_10_0, wr_10_1, wi_10_2, wi_10_3, wp_10_2, wp_10_3, wr_37_0, wr_37_1, wr_37_2, wi_37_3, wp_37_3, wi_37_4, wp_37_4, wi_37_5, wp_37_5, wi_37_6, wp_37_6, wi_37_7, wp_37_7, wi_37_8, wp_37_8, wr_42_0, wi_42_1, wp_42_1, wk_84, wr_84_0, wr_84_1, wr_84_2, wr_84_3, wr_84_5, wr_84_13, wr_84_14, wr_84_15, wr_84_17, wr_84_18, wr_84_20, wr_84_21, wr_84_23, wr_84_24, wr_84_25, wr_84_26, wi_84_4, wp_84_4, wi_84_6, wp_84_6, wi_84_7, wp_84_7, wi_84_8, wp_84_8, wi_84_9, wp_84_9, wi_84_10, wp_84_10, wi_84_11, wp_84_11, wi_84_12, wp_84_12, wi_84_16, wp_84_16, wi_84_19, wp_84_19, wi_84_22, wp_84_22, wi_84_27, wp_84_27, wq5v, wkv, wiv, wrv, wav', f6, gs_same, Nat.add_sub_cancel, c1, f66]
    · rw [F 0 10 (by omega) (by omega) (by omega) (by omega) (by omega), F 66 7 (by omega) (by omega) (by omega) (by omega) (by omega)]
      exact R.fs.1
    · rw [F 0 11 (by omega) (by omega) (by omega) (by omega) (by omega), F 66 4 (by omega) (by omega) (by omega) (by omega) (by omega)]
      exact R.fs.2
    · by_cases ev : v = w
      · subst ev
        refine ⟨n, p, vOK_eq b2 (F4 _ _ (by omega) (by omega)) (fun b _ => F4 _ _ (by omega) (by omega)), mOK_eq a4 (fun k hk => ?_)⟩
        rw [F5 _ (by omega), Nat.add_assoc]
      · obtain ⟨n', p', d1, d2⟩ := R.vec v hv
        refine ⟨n', p', vOK_eq d1 (F _ _ (by omega) (by omega) (by omega) (by omega) (by omega)) (fun b _ => F _ _ (by omega) (by omega) (by omega) (by omega) (by omega)), mOK_eq d2 (fun k hk => ?_)⟩
        have := a5 v hv ev k hk
        rw [if_neg (by omega), Nat.add_assoc] at this
        rw [F5 _ (by omega), this]
    · rw [F 47 2 (by omega) (by omega) (by omega) (by omega) (by omega)]; exact h3
    · rw [F4 47 3 (by omega) (by omega)]; exact f473
    · obtain ⟨w', d1, d2, ⟨n', p', d3, d4⟩, d5⟩ := h6 t (by omega)
      refine ⟨w', d1, by rw [F _ _ (by omega) (by omega) (by omega) (by omega) (by omega)]; exact d2, ⟨n', p', vOK_eq d3 (F _ _ (by omega) (by omega) (by omega) (by omega) (by omega)) (fun b _ => F _ _ (by omega) (by omega) (by omega) (by omega) (by omega)), mOK_eq d4 (fun k hk => F _ _ (by omega) (by omega) (by omega) (by omega) (by omega))⟩, fun v hv hvw k hk => ?_⟩
      have := d5 v hv hvw k hk
      rw [if_pos (by omega)] at this
      rw [F 57 _ (by omega) (by omega) (by omega) (by omega) (by omega), F 57 _ (by omega) (by omega) (by omega) (by omega) (by omega), this]
      by_cases e2 : t + 1 < s
      · rw [if_pos e2]
      · rw [if_neg e2, F5 _ (by omega), show t + 1 = s by omega, Nat.add_assoc]
theorem e_onesOfAll_L {n0 n1 n2 n3 : Nat} {p0 p1 p2 p3 : Nat → Bool} (h0 : vOK g (13 + 0) n0 p0) (h1 : vOK g (13 + 1) n1 p1) (h2 : vOK g (13 + 2) n2 p2) (h3 : vOK g (13 + 3) n3 p3) (m : Nat) : f_X11_onesOfAll_L4 (m + 5) 3 (nI 0) (nI 0) (wH L xs g r rs) = some (nI (fb_ct p0 n0 + fb_ct p1 n1 + fb_ct p2 n2 + fb_ct p3 n3), nI 4, wH L xs g r rs) := by
  rw [f_X11_onesOfAll_L4]
  simp (disch := omega) only [q_pos, q_pos', q_lt, q_le, q_eq, q_add, q_sub, q_mul, ob_s, if_pos, if_neg, not_false_eq_true, q_m1', q_div, rm_N, l_0, l_1, l_2, l_3, l_4, l_5, l_6, l_7, l_8, l_10, l_11, l_12, l_13, l_14, l_15, l_16, l_18, l_20, l_21, l_22, l_23, l_24, l_32, l_33, l_40, l_44, l_48, l_57, l_59, l_60, l_63, l_64, l_97, l_98, l_99, l_100, l_111, l_116, l_122, l_132, l_200, l_240, l_255, l_480, l_1000, l_1452, if_true, if_false, true_or, or_true, in_neg, in_m1, in_n, V1, V2, R1, R2, B1, B2, eq_self, wk_3, wk_10, wk_37, wk_42, wr_3_0, wr_3_1, wr_3_2, wr_3_3, wr_3_4, wr_3_5, wr_3_6, wr_3_7, wr_3_8, wi_3_9, wi_3_10, wi_3_11, wp_3_9, wp_3_10, wp_3_11, wr_10_0, wr_10_1, wi_10_2, wi_10_3, wp_10_2, wp_10_3, wr_37_0, wr_37_1, wr_37_2, wi_37_3, wp_37_3, wi_37_4, wp_37_4, wi_37_5, wp_37_5, wi_37_6, wp_37_6, wi_37_7, wp_37_7, wi_37_8, wp_37_8, wr_42_0, wi_42_1, wp_42_1, wk_84, wr_84_0, wr_84_1, wr_84_2, wr_84_3, wr_84_5, wr_84_13, wr_84_14, wr_84_15, wr_84_17, wr_84_18, wr_84_20, wr_84_21, wr_84_23, wr_84_24, wr_84_25, wr_84_26, wi_84_4, wp_84_4, wi_84_6, wp_84_6, wi_84_7, wp_84_7, wi_84_8, wp_84_8, wi_84_9, wp_84_9, wi_84_10, wp_84_10, wi_84_11, wp_84_11, wi_84_12, wp_84_12, wi_84_16, wp_84_16, wi_84_19, wp_84_19, wi_84_22, wp_84_22, wi_84_27, wp_84_27, wq5v, wkv, wiv, wrv, wav', e_countOnes (show 13 + 0 < 25 by omega) h0]
  rw [f_X11_onesOfAll_L4]
  simp (disch := omega) only [q_pos, q_pos', q_lt, q_le, q_eq, q_add, q_sub, q_mul, ob_s, if_pos, if_neg, not_false_eq_true, q_m1', q_div, rm_N, l_0, l_1, l_2, l_3, l_4, l_5, l_6, l_7, l_8, l_10, l_11, l_12, l_13, l_14, l_15, l_16, l_18, l_20, l_21, l_22, l_23, l_24, l_32, l_33, l_40, l_44, l_48, l_57, l_59, l_60, l_63, l_64, l_97, l_98, l_99, l_100, l_111, l_116, l_122, l_132, l_200, l_240, l_255, l_480, l_1000, l_1452, if_true, if_false, true_or, or_true, in_neg, in_m1, in_n, V1, V2, R1, R2, B1, B2, eq_self, wk_3, wk_10, wk_37, wk_42, wr_3_0, wr_3_1, wr_3_2, wr_3_3, wr_3_4, wr_3_5, wr_3_6, wr_3_7, wr_3_8, wi_3_9, wi_3_10, wi_3_11, wp_3_9, wp_3_10, wp_3_11, wr_10_0, wr_10_1, wi_10_2, wi_10_3, wp_10_2, wp_10_3, wr_37_0, wr_37_1, wr_37_2, wi_37_3, wp_37_3, wi_37_4, wp_37_4, wi_37_5, wp_37_5, wi_37_6, wp_37_6, wi_37_7, wp_37_7, wi_37_8, wp_37_8, wr_42_0, wi_42_1, wp_42_1, wk_84, wr_84_0, wr_84_1, wr_84_2, wr_84_3, wr_84_5, wr_84_13, wr_84_14, wr_84_15, wr_84_17, wr_84_18, wr_84_20, wr_84_21, wr_84_23, wr_84_24, wr_84_25, wr_84_26, wi_84_4, wp_84_4, wi_84_6, wp_84_6, wi_84_7, wp_84_7, wi_84_8, wp_84_8, wi_84_9, wp_84_9, wi_84_10, wp_84_10, wi_84_11, wp_84_11, wi_84_12, wp_84_12, wi_84_16, wp_84_16, wi_84_19, wp_84_19, wi_84_22, wp_84_22, wi_84_27, wp_84_27, wq5v, wkv, wiv, wrv, wav', Nat.zero_add, e_countOnes (show 13 + 1 < 25 by omega) h1]
  rw [f_X11_onesOfAll_L4]
  simp (disch := omega) only [q_pos, q_pos', q_lt, q_le, q_eq, q_add, q_sub, q_mul, ob_s, if_pos, if_neg, not_false_eq_true, q_m1', q_div, rm_N, l_0, l_1, l_2, l_3, l_4, l_5, l_6, l_7, l_8, l_10, l_11, l_12, l_13, l_14, l_15, l_16, l_18, l_20, l_21, l_22, l_23, l_24, l_32, l_33, l_40, l_44, l_48, l_57, l_59, l_60, l_63, l_64, l_97, l_98, l_99, l_100, l_111, l_116, l_122, l_132, l_200, l_240, l_255, l_480, l_1000, l_1452, if_true, if_false, true_or, or_true, in_neg, in_m1, in_n, V1, V2, R1, R2, B1, B2, eq_self, wk_3, wk_10, wk_37, wk_42, wr_3_0, wr_3_1, wr_3_2, wr_3_3, wr_3_4, wr_3_5, wr_3_6, wr_3_7, wr_3_8, wi_3_9, wi_3_10, wi_3_11, wp_3_9, wp_3_10, wp_3_11, wr_10_0, wr_10_1, wi_10_2, wi_10_3, wp_10_2, wp_10_3, wr_37_0, wr_37_1, wr_37_2, wi_37_3, wp_37_3, wi_37_4, wp_37_4, wi_37_5, wp_37_5, wi_37_6, wp_37_6, wi_37_7, wp_37_7, wi_37_8, wp_37_8, wr_42_0, wi_42_1, wp_42_1, wk_84, wr_84_0, wr_84_1, wr_84_2, wr_84_3, wr_84_5, wr_84_13, wr_84_14, wr_84_15, wr_84_17, wr_84_18, wr_84_20, wr_84_21, wr_84_23, wr_84_24, wr_84_25, wr_84_26, wi_84_4, wp_84_4, wi_84_6, wp_84_6, wi_84_7, wp_84_7, wi_84_8, wp_84_8, wi_84_9, wp_84_9, wi_84_10, wp_84_10, wi_84_11, wp_84_11, wi_84_12, wp_84_12, wi_84_16, wp_84_16, wi_84_19, wp_84_19, wi_84_22, wp_84_22, wi_84_27, wp_84_27, wq5v, wkv, wiv, wrv, wav', show 1 + 1 = 2 from rfl, e_countOnes (show 13 + 2 < 25 by omega) h2]
  rw [f_X11_onesOfAll_L4]
  simp (disch := omega) only [q_pos, q_pos', q_lt, q_le, q_eq, q_add, q_sub, q_mul, ob_s, if_pos, if_neg, not_false_eq_true, q_m1', q_div, rm_N, l_0, l_1, l_2, l_3, l_4, l_5, l_6, l_7, l_8, l_10, l_11, l_12, l_13, l_14, l_15, l_16, l_18, l_20, l_21, l_22, l_23, l_24, l_32, l_33, l_40, l_44, l_48, l_57, l_59, l_60, l_63, l_64, l_97, l_98, l_99, l_100, l_111, l_116, l_122, l_132, l_200, l_240, l_255, l_480, l_1000, l_1452, if_true, if_false, true_or, or_true, in_neg, in_m1, in_n, V1, V2, R1, R2, B1, B2, eq_self, wk_3, wk_10, wk_37, wk_42, wr_3_0, wr_3_1, wr_3_2, wr_3_3, wr_3_4, wr_3_5, wr_3_6, wr_3_7, wr_3_8, wi_3_9, wi_3_10, wi_3_11, wp_3_9, wp_3_10, wp_3_11, wr_10_0, wr_10_1, wi_10_2, wi_10_3, wp_10_2, wp_10_3, wr_37_0, wr_37_1, wr_37_2, wi_37_3, wp_37_3, wi_37_4, wp_37_4, wi_37_5, wp_37_5, wi_37_6, wp_37_6, wi_37_7, wp_37_7, wi_37_8, wp_37_8, wr_42_0, wi_42_1, wp_42_1, wk_84, wr_84_0, wr_84_1, wr_84_2, wr_84_3, wr_84_5, wr_84_13, wr_84_14, wr_84_15, wr_84_17, wr_84_18, wr_84_20, wr_84_21, wr_84_23, wr_84_24, wr_84_25, wr_84_26, wi_84_4, wp_84_4, wi_84_6, wp_84_6, wi_84_7, wp_84_7, wi_84_8, wp_84_8, wi_84_9, wp_84_9, wi_84_10, wp_84_10, wi_84_11, wp_84_11, wi_84_12, wp_84_12, wi_84_16, wp_84_16, wi_84_19, wp_84_19, wi_84_22, wp_84_22, wi_84_27, wp_84_27, wq5v, wkv, wiv, wrv, wav', show 2 + 1 = 3 from rfl, e_countOnes (show 13 + 3 < 25 by omega) h3]
  rw [f_X11_onesOfAll_L4]
  simp (disch := omega) only [q_pos, q_pos', q_lt, q_le, q_eq, q_add, q_sub, q_mul, ob_s, if_pos, if_neg, not_false_eq_true, q_m1', q_div, rm_N, l_0, l_1, l_2, l_3, l_4, l_5, l_6, l_7, l_8, l_10, l_11, l_12, l_13, l_14, l_15, l_16, l_18, l_20, l_21, l_22, l_23, l_24, l_32, l_33, l_40, l_44, l_48, l_57, l_59, l_60, l_63, l_64, l_97, l_98, l_99, l_100, l_111, l_116, l_122, l_132, l_200, l_240, l_255, l_480, l_1000, l_1452, if_true, if_false, true_or, or_true, in_neg, in_m1, in_n, V1, V2, R1, R2, B1, B2, eq_self, wk_3, wk_10, wk_37, wk_42, wr_3_0, wr_3_1, wr_3_2, wr_3_3, wr_3_4, wr_3_5, wr_3_6, wr_3_7, wr_3_8, wi_3_9, wi_3_10, wi_3_11, wp_3_9, wp_3_10, wp_3_11, wr_10_0, wr_10_1, wi_10_2, wi_10_3, wp_10_2, wp_10_3, wr_37_0, wr_37_1, wr_37_2, wi_37_3, wp_37_3, wi_37_4, wp_37_4, wi_37_5, wp_37_5, wi_37_6, wp_37_6, wi_37_7, wp_37_7, wi_37_8, wp_37_8, wr_42_0, wi_42_1, wp_42_1, wk_84, wr_84_0, wr_84_1, wr_84_2, wr_84_3, wr_84_5, wr_84_13, wr_84_14, wr_84_15, wr_84_17, wr_84_18, wr_84_20, wr_84_21, wr_84_23, wr_84_24, wr_84_25, wr_84_26, wi_84_4, wp_84_4, wi_84_6, wp_84_6, wi_84_7, wp_84_7, wi_84_8, wp_84_8, wi_84_9, wp_84_9, wi_84_10, wp_84_10, wi_84_11, wp_84_11, wi_84_12, wp_84_12, wi_84_16, wp_84_16, wi_84_19, wp_84_19, wi_84_22, wp_84_22, wi_84_27, wp_84_27, wq5v, wkv, wiv, wrv, wav', show 3 + 1 = 4 from rfl]
theorem e_onesOfAll {n0 n1 n2 n3 : Nat} {p0 p1 p2 p3 : Nat → Bool} (h0 : vOK g (13 + 0) n0 p0) (h1 : vOK g (13 + 1) n1 p1) (h2 : vOK g (13 + 2) n2 p2) (h3 : vOK g (13 + 3) n3 p3) : f_X11_onesOfAll 3 (wH L xs g r rs) = some (nI (fb_ct p0 n0 + fb_ct p1 n1 + fb_ct p2 n2 + fb_ct p3 n3), wH L xs g r rs) := by
  unfold f_X11_onesOfAll
  rw [l_0, show xN = 1995 + 5 from rfl, e_onesOfAll_L h0 h1 h2 h3 1995]
  rfl
theorem m_onesOfAll {n0 n1 n2 n3 : Nat} {p0 p1 p2 p3 : Nat → Bool} (h0 : mOK g 55 (33 * 0) n0 p0) (h1 : mOK g 55 (33 * 1) n1 p1) (h2 : mOK g 55 (33 * 2) n2 p2) (h3 : mOK g 55 (33 * 3) n3 p3) : f_X12_onesOfAll 84 (wH L xs g r rs) = some (nI (fb_ct p0 n0 + fb_ct p1 n1 + fb_ct p2 n2 + fb_ct p3 n3), wH L xs g r rs) := by
  unfold f_X12_onesOfAll
  simp (disch := omega) only [q_pos, q_pos', q_lt, q_le, q_eq, q_add, q_sub, q_mul, ob_s, if_pos, if_neg, not_false_eq_true, q_m1', q_div, rm_N, l_0, l_1, l_2, l_3, l_4, l_5, l_6, l_7, l_8, l_10, l_11, l_12, l_13, l_14, l_15, l_16, l_18, l_20, l_21, l_22, l_23, l_24, l_32, l_33, l_40, l_44, l_48, l_57, l_59, l_60, l_63, l_64, l_97, l_98, l_99, l_100, l_111, l_116, l_122, l_132, l_200, l_240, l_255, l_480, l_1000, l_1452, if_true, if_false, true_or, or_true, in_neg, in_m1, in_n, V1, V2, R1, R2, B1, B2, eq_self, wk_84, wr_84_0, wr_84_1, wr_84_2, wr_84_3, wr_84_5, wr_84_13, wr_84_14, wr_84_15, wr_84_17, wr_84_18, wr_84_20, wr_84_21, wr_84_23, wr_84_24, wr_84_25, wr_84_26, wi_84_4, wp_84_4, wi_84_6, wp_84_6, wi_84_7, wp_84_7, wi_84_8, wp_84_8, wi_84_9, wp_84_9, wi_84_10, wp_84_10, wi_84_11, wp_84_11, wi_84_12, wp_84_12, wi_84_16, wp_84_16, wi_84_19, wp_84_19, wi_84_22, wp_84_22, wi_84_27, wp_84_27, m_allOnes (show 0 < 4 by omega) h0, m_allOnes (show 1 < 4 by omega) h1, m_allOnes (show 2 < 4 by omega) h2, m_allOnes (show 3 < 4 by omega) h3]
theorem img_L {k : Nat} (hk : k < 2) : ∀ m i g, i ≤ 4 → 4 < i + m → (∀ v, v < 4 → ∃ n p, vOK g (13 + v) n p) → ∃ g', f_X11_image_L14 m 3 (nI k) (nI i) (wH L xs g r rs) = some (nI 4, wH L xs g' r rs) ∧ (∀ v, i ≤ v → v < 4 → ∀ n p, vOK g (13 + v) n p → vOK g' (17 + (4 * k + v)) n p) ∧ ∀ c q, ¬ (c = 1 ∧ 17 + (4 * k + i) ≤ q ∧ q < 21 + 4 * k) → ¬ (37 + (4 * k + i) ≤ c ∧ c < 41 + 4 * k) → g' c q = g c q := by
  intro m
  induction m with
  | zero => intro i g h1 h2; omega
  | succ m ih =>
    intro i g h1 h2 hv
    unfold f_X11_image_L14
    by_cases hi : i = 4
    · subst hi
      exact ⟨g, by simp (disch := omega) only [q_pos, q_pos', q_lt, q_le, q_eq, q_add, q_sub, q_mul, ob_s, if_pos, if_neg, not_false_eq_true, q_m1', q_div, rm_N, l_0, l_1, l_2, l_3, l_4, l_5, l_6, l_7, l_8, l_10, l_11, l_12, l_13, l_14, l_15, l_16, l_18, l_20, l_21, l_22, l_23, l_24, l_32, l_33, l_40, l_44, l_48, l_57, l_59, l_60, l_63, l_64, l_97, l_98, l_99, l_100, l_111, l_116, l_122, l_132, l_200, l_240, l_255, l_480, l_1000, l_1452, if_true, if_false, true_or, or_true, in_neg, in_m1, in_n, V1, V2, R1, R2, B1, B2, eq_self], fun v h1 h2 => by omega, fun _ _ _ _ => rfl⟩
    · obtain ⟨n, p, hc⟩ := hv i (by omega)
      obtain ⟨g1, b1, b2, b3⟩ := e_copyFrom (L := L) (xs := xs) (r := r) (rs := rs) (show 17 + (4 * k + i) < 25 by omega) (show 13 + i < 25 by omega) hc
      have F1 := vFr_q b3
      have hv1 : ∀ v, v < 4 → ∀ n p, vOK g (13 + v) n p → vOK g1 (13 + v) n p := fun v hv n p h => vOK_eq h (F1 _ _ (by omega) (by omega)) (fun b _ => F1 _ _ (by omega) (by omega))
      obtain ⟨g', c1, c2, c3⟩ := ih (i + 1) g1 (by omega) (by omega) (fun v hv' => by
        obtain ⟨n, p, h⟩ := hv v hv'
        exact ⟨n, p, hv1 v hv' n p h⟩)
      refine ⟨g', ?_, fun v x1 x2 n' p' h => ?_, fun c q x1 x2 => ?_⟩
      · simp (disch := omega) only [q_pos, q_pos', q_lt, q_le, q_eq, q_add, q_sub, q_mul, ob_s, if_pos, if_neg, not_false_eq_true, q_m1', q_div, rm_N, l_0, l_1, l_2, l_3, l_4, l_5, l_6, l_7, l_8, l_10, l_11, l_12, l_13, l_14, l_15, l_16, l_18, l_20, l_21, l_22, l_23, l_24, l_32, l_33, l_40, l_44, l_48, l_57, l_59, l_60, l_63, l_64, l_97, l_98, l_99, l_100, l_111, l_116, l_122, l_132, l_200, l_240, l_255, l_480, l_1000, l_1452, if_true, if_false, true_or, or_true, in_neg, in_m1, in_n, V1, V2, R1, R2, B1, B2, eq_self, wk_3, wk_10, wk_37, wk_42, wr_3_0, wr_3_1, wr_3_2, wr_3_3, wr_3_4, wr_3_5, wr_3_6, wr_3_7, wr_3_8, wi_3_9, wi_3_10, wi_3_11, wp_3_9, wp_3_10, wp_3_11, wr_10_0, wr_10_1, wi_10_2, wi_10_3, wp_10_2, wp_10_3, wr_37_0, wr_37_1, wr_37_2, wi_37_3, wp_37_3, wi_37_4, wp_37_4, wi_37_5, wp_37_5, wi_37_6, wp_37_6, wi_37_7, wp_37_7, wi_37_8, wp_37_8, wr_42_0, wi_42_1, wp_42_1, wk_84, wr_84_0, wr_84_1, wr_84_2, wr_84_3, wr_84_5, wr_84_13, wr_84_14, wr_84_15, wr_84_17, wr_84_18, wr_84_20, wr_84_21, wr_84_23, wr_84_24, wr_84_25, wr_84_26, wi_84_4, wp_84_4, wi_84_6, wp_84_6, wi_84_7, wp_84_7, wi_84_8, wp_84_8, wi_84_9, wp_84_9, wi_84_10, wp_84_10, wi_84_11, wp_84_11, wi_84_12, wp_84_12, wi_84_16, wp_84_16, wi_84_19, wp_84_19, wi_84_22, wp_84_22, wi_84_27, wp_84_27, wq5v, wkv, wiv, wrv, wav', wq6v, b1]
        exact c1
      · by_cases e : v = i
        · subst e
          have hh : vOK g1 (17 + (4 * k + v)) n' p' := by
            obtain ⟨y1, y2, y3, y4⟩ := h
            obtain ⟨z1, z2, z3, z4⟩ := hc
            obtain ⟨u1, u2, u3, u4⟩ := b2
            exact ⟨y1, by rw [u2, ← z2, y2], y3, fun b hb => by rw [u4 b hb, ← z4 b hb, y4 b hb]⟩
          exact vOK_eq hh (c3 _ _ (by omega) (by omega)) (fun b _ => c3 _ _ (by omega) (by omega))
        · exact c2 v (by omega) x2 n' p' (hv1 v x2 n' p' h)
      · rw [c3 c q (by omega) (by omega), F1 c q (by omega) (by omega)]
theorem o_image (R : Rel g r rs) (x : Int32) : Op L xs g r rs (f_X11_image 3 x) (f_X12_image 84 x) := by
  rcases a_sp x with hx | ⟨k, hk, rfl⟩
  · refine RO.op ?_ R
    unfold RO f_X11_image f_X12_image
    exact ⟨-1000001, by simp (disch := omega) only [q_pos, q_pos', q_lt, q_le, q_eq, q_add, q_sub, q_mul, ob_s, if_pos, if_neg, not_false_eq_true, q_m1', q_div, rm_N, l_0, l_1, l_2, l_3, l_4, l_5, l_6, l_7, l_8, l_10, l_11, l_12, l_13, l_14, l_15, l_16, l_18, l_20, l_21, l_22, l_23, l_24, l_32, l_33, l_40, l_44, l_48, l_57, l_59, l_60, l_63, l_64, l_97, l_98, l_99, l_100, l_111, l_116, l_122, l_132, l_200, l_240, l_255, l_480, l_1000, l_1452, if_true, if_false, true_or, or_true, in_neg, in_m1, in_n, V1, V2, R1, R2, B1, B2, eq_self, wk_3, wk_10, wk_37, wk_42, wr_3_0, wr_3_1, wr_3_2, wr_3_3, wr_3_4, wr_3_5, wr_3_6, wr_3_7, wr_3_8, wi_3_9, wi_3_10, wi_3_11, wp_3_9, wp_3_10, wp_3_11, wr_10_0, wr_10_1, wi_10_2, wi_10_3, wp_10_2, wp_10_3, wr_37_0, wr_37_1, wr_37_2, wi_37_3, wp_37_3, wi_37_4, wp_37_4, wi_37_5, wp_37_5, wi_37_6, wp_37_6, wi_37_7, wp_37_7, wi_37_8, wp_37_8, wr_42_0, wi_42_1, wp_42_1, wk_84, wr_84_0, wr_84_1, wr_84_2, wr_84_3, wr_84_5, wr_84_13, wr_84_14, wr_84_15, wr_84_17, wr_84_18, wr_84_20, wr_84_21, wr_84_23, wr_84_24, wr_84_25, wr_84_26, wi_84_4, wp_84_4, wi_84_6, wp_84_6, wi_84_7, wp_84_7, wi_84_8, wp_84_8, wi_84_9, wp_84_9, wi_84_10, wp_84_10, wi_84_11, wp_84_11, wi_84_12, wp_84_12, wi_84_16, wp_84_16, wi_84_19, wp_84_19, wi_84_22, wp_84_22, wi_84_27, wp_84_27, wq5v, wkv, wiv, wrv, wav', ng1 hx], by simp (disch := omega) only [q_pos, q_pos', q_lt, q_le, q_eq, q_add, q_sub, q_mul, ob_s, if_pos, if_neg, not_false_eq_true, q_m1', q_div, rm_N, l_0, l_1, l_2, l_3, l_4, l_5, l_6, l_7, l_8, l_10, l_11, l_12, l_13, l_14, l_15, l_16, l_18, l_20, l_21, l_22, l_23, l_24, l_32, l_33, l_40, l_44, l_48, l_57, l_59, l_60, l_63, l_64, l_97, l_98, l_99, l_100, l_111, l_116, l_122, l_132, l_200, l_240, l_255, l_480, l_1000, l_1452, if_true, if_false, true_or, or_true, in_neg, in_m1, in_n, V1, V2, R1, R2, B1, B2, eq_self, wk_3, wk_10, wk_37, wk_42, wr_3_0, wr_3_1, wr_3_2, wr_3_3, wr_3_4, wr_3_5, wr_3_6, wr_3_7, wr_3_8, wi_3_9, wi_3_10, wi_3_11, wp_3_9, wp_3_10, wp_3_11, wr_10_0, wr_10_1, wi_10_2, wi_10_3, wp_10_2, wp_10_3, wr_37_0, wr_37_1, wr_37_2, wi_37_3, wp_37_3, wi_37_4, wp_37_4, wi_37_5, wp_37_5, wi_37_6, wp_37_6, wi_37_7, wp_37_7, wi_37_8, wp_37_8, wr_42_0, wi_42_1, wp_42_1, wk_84, wr_84_0, wr_84_1, wr_84_2, wr_84_3, wr_84_5, wr_84_13, wr_84_14, wr_84_15, wr_84_17, wr_84_18, wr_84_20, wr_84_21, wr_84_23, wr_84_24, wr_84_25, wr_84_26, wi_84_4, wp_84_4, wi_84_6, wp_84_6, wi_84_7, wp_84_7, wi_84_8, wp_84_8, wi_84_9, wp_84_9, wi_84_10, wp_84_10, wi_84_11, wp_84_11, wi_84_12, wp_84_12, wi_84_16, wp_84_16, wi_84_19, wp_84_19, wi_84_22, wp_84_22, wi_84_27, wp_84_27, wq5v, wkv, wiv, wrv, wav', in_neg hx]⟩
  · by_cases ek : k < 2
    · obtain ⟨g1, b1, b2, b3⟩ := img_L (L := L) (xs := xs) (r := r) (rs := rs) ek xN 0 g (by omega) (by unfold xN; omega) (fun v hv => by
        obtain ⟨n, p, h1, h2⟩ := R.vec v hv
        exact ⟨n, p, h1⟩)
      have F1 : ∀ c q, ¬ (c = 1 ∧ 17 + 4 * k ≤ q ∧ q < 21 + 4 * k) → ¬ (37 + 4 * k ≤ c ∧ c < 41 + 4 * k) → ¬ (c = 10 ∧ q = k) → gs g1 10 k 1 c q = g c q := by
        intro c q x1 x2 x3
        by_cases e : c = 10
        · subst e; rw [gs_ok (by omega), b3 _ _ (by omega) (by omega)]
        · rw [gs_oc e, b3 _ _ (by omega) (by omega)]
      obtain ⟨g3, c1, c2, c3, c4⟩ := m_copies (L := L) (xs := xs) (r := r) (rs := rs) (g := gs g1 10 k 1) (pa := 90) (ca := 55) (NA := 132) (pb := 93) (cb := 58) (NB := 264) (A := 0) (B := 132 * k) (fun _ _ h => wa_90' h) (fun _ _ _ h => wu_93' h) (by omega) (by omega) (by omega)
      have F2 : ∀ c q, ¬ (c = 58 ∧ 132 * k ≤ q ∧ q < 132 * k + 132) → ¬ (c = 59 ∧ q = k) → gs g3 59 k 1 c q = gs g1 10 k 1 c q := by
        intro c q x1 x2
        by_cases e : c = 59
        · subst e; rw [gs_ok (by omega), c2 _ (by omega)]
        · rw [gs_oc e]
          by_cases e2 : c = 58
          · subst e2; rw [c4 q (by omega)]
          · rw [c2 c e2]
      have F : ∀ c q, ¬ (c = 1 ∧ 17 + 4 * k ≤ q ∧ q < 21 + 4 * k) → ¬ (37 + 4 * k ≤ c ∧ c < 41 + 4 * k) → ¬ (c = 10 ∧ q = k) → ¬ (c = 58 ∧ 132 * k ≤ q ∧ q < 132 * k + 132) → ¬ (c = 59 ∧ q = k) → gs g3 59 k 1 c q = g c q := fun c q x1 x2 x3 x4 x5 => (F2 c q x4 x5).trans (F1 c q x1 x2 x3)
      have hvec1 : rVec (gs g1 10 k 1) := rVec_c R.vec (fun c q hc => F1 c q (by omega) (by omega) (by omega))
      have hvec : rVec (gs g3 59 k 1) := rVec_c R.vec (fun c q hc => F c q (by omega) (by omega) (by omega) (by omega) (by omega))
      have hR : Rel (gs g3 59 k 1) r rs := by
        refine ⟨rRow_c R.row (fun c k hc => F c k (by omega) (by omega) (by omega) (by omega) (by omega)), rTap_c R.tap (fun c k hc => F c k (by omega) (by omega) (by omega) (by omega) (by omega)), ⟨?_, ?_⟩, hvec, fun k' hk' => ?_, rCh_c R.ch (fun k => F _ k (by omega) (by omega) (by omega) (by omega) (by omega)), rTr_c R.tr (fun c k hc => F c k (by omega) (by omega) (by omega) (by omega) (by omega)), rRun_c R.run (fun c k hc => F c k (by omega) (by omega) (by omega) (by omega) (by omega)), rHis_c R.his (fun c k hc => F c k (by omega) (by omega) (by omega) (by omega) (by omega))⟩
        · rw [F 0 10 (by omega) (by omega) (by omega) (by omega) (by omega), F 66 7 (by omega) (by omega) (by omega) (by omega) (by omega)]
          exact R.fs.1
        · rw [F 0 11 (by omega) (by omega) (by omega) (by omega) (by omega), F 66 4 (by omega) (by omega) (by omega) (by omega) (by omega)]
          exact R.fs.2
        · by_cases e : k' = k
          · subst e
            refine Or.inr ⟨?_, gs_same, fun v hv => ?_⟩
            · rw [F2 _ _ (by omega) (by omega), gs_same]
            · obtain ⟨n, p, h1, h2⟩ := R.vec v hv
              refine ⟨n, p, vOK_eq (b2 v (by omega) hv n p h1) ?_ (fun b _ => ?_), mOK_eq h2 (fun t ht => ?_)⟩
              · rw [F2 _ _ (by omega) (by omega), gs_oc (by omega)]
              · rw [F2 _ _ (by omega) (by omega), gs_oc (by omega)]
              · have := c3 (33 * v + t) (by omega)
                rw [gs_oc (by omega), Nat.add_assoc, this, Nat.zero_add, F1 _ _ (by omega) (by omega) (by omega)]
          · rw [F 10 k' (by omega) (by omega) (by omega) (by omega) (by omega), F 59 k' (by omega) (by omega) (by omega) (by omega) (by omega)]
            rcases R.img k' hk' with a | ⟨a, b, c⟩
            · exact Or.inl a
            · refine Or.inr ⟨a, b, fun v hv => ?_⟩
              obtain ⟨n, p, h1, h2⟩ := c v hv
              exact ⟨n, p, vOK_eq h1 (F _ _ (by omega) (by omega) (by omega) (by omega) (by omega)) (fun b _ => F _ _ (by omega) (by omega) (by omega) (by omega) (by omega)), mOK_eq h2 (fun k hk => F _ _ (by omega) (by omega) (by omega) (by omega) (by omega))⟩
      obtain ⟨n0, p0, u0, m0⟩ := R.vec 0 (by omega)
      obtain ⟨n1, p1, u1, m1⟩ := R.vec 1 (by omega)
      obtain ⟨n2, p2, u2, m2⟩ := R.vec 2 (by omega)
      obtain ⟨n3, p3, u3, m3⟩ := R.vec 3 (by omega)
      have tu : ∀ v n p, v < 4 → vOK g (13 + v) n p → vOK (gs g1 10 k 1) (13 + v) n p := fun v n p hv h => vOK_eq h (F1 _ _ (by omega) (by omega) (by omega)) (fun b _ => F1 _ _ (by omega) (by omega) (by omega))
      have tm : ∀ v n p, v < 4 → mOK g 55 (33 * v) n p → mOK (gs g3 59 k 1) 55 (33 * v) n p := fun v n p hv h => mOK_eq h (fun k hk => F _ _ (by omega) (by omega) (by omega) (by omega) (by omega))
      have l1 : (1 : Int32) = nI 1 := rfl
      refine ⟨nI (fb_ct p0 n0 + fb_ct p1 n1 + fb_ct p2 n2 + fb_ct p3 n3), gs g1 10 k 1, r, rs, gs g3 59 k 1, ?_, ?_, hR, by omega, by omega⟩
      · unfold f_X11_image
        rw [if_neg (show ¬ nI k < 0 from q_pos (by omega)), if_pos (show nI k < 2 by rw [l_2, q_lt (by omega) (by omega)]; exact ek), l_0, b1, Option.bind_some]
        dsimp only
        rw [wr_3_3, Option.bind_some, wv_7' ek, Option.bind_some, wk_3, if_pos rfl, e_onesOfAll (tu 0 _ _ (by omega) u0) (tu 1 _ _ (by omega) u1) (tu 2 _ _ (by omega) u2) (tu 3 _ _ (by omega) u3), Option.bind_some]
      · have hin : f_X12_in (nI k) 0 1 (wH L xs (gs g1 10 k 1) r rs) = some (nI 1, wH L xs (gs g1 10 k 1) r rs) := by
          rw [l_0, l_1, in_n (by omega) (by omega), if_pos (by omega)]
        have e132 : (132 : Int32) * nI k = nI (132 * k) := by rw [l_132, q_mul]
        unfold f_X12_image
        rw [hin, ob_s, if_neg (show ¬ nI 1 = 0 by decide), wr_84_13, ob_s, wr_84_17, ob_s, e132, l_0, c1, ob_s, wr_84_18, ob_s, wv_94' ek, ob_s, wk_84, if_pos rfl, m_onesOfAll (tm 0 _ _ (by omega) m0) (tm 1 _ _ (by omega) m1) (tm 2 _ _ (by omega) m2) (tm 3 _ _ (by omega) m3), ob_s]
    · refine RO.op ?_ R
      unfold RO f_X11_image f_X12_image
      exact ⟨-1000001, by simp (disch := omega) only [q_pos, q_pos', q_lt, q_le, q_eq, q_add, q_sub, q_mul, ob_s, if_pos, if_neg, not_false_eq_true, q_m1', q_div, rm_N, l_0, l_1, l_2, l_3, l_4, l_5, l_6, l_7, l_8, l_10, l_11, l_12, l_13, l_14, l_15, l_16, l_18, l_20, l_21, l_22, l_23, l_24, l_32, l_33, l_40, l_44, l_48, l_57, l_59, l_60, l_63, l_64, l_97, l_98, l_99, l_100, l_111, l_116, l_122, l_132, l_200, l_240, l_255, l_480, l_1000, l_1452, if_true, if_false, true_or, or_true, in_neg, in_m1, in_n, V1, V2, R1, R2, B1, B2, eq_self, wk_3, wk_10, wk_37, wk_42, wr_3_0, wr_3_1, wr_3_2, wr_3_3, wr_3_4, wr_3_5, wr_3_6, wr_3_7, wr_3_8, wi_3_9, wi_3_10, wi_3_11, wp_3_9, wp_3_10, wp_3_11, wr_10_0, wr_10_1, wi_10_2, wi_10_3, wp_10_2, wp_10_3, wr_37_0, wr_37_1, wr_37_2, wi_37_3, wp_37_3, wi_37_4, wp_37_4, wi_37_5, wp_37_5, wi_37_6, wp_37_6, wi_37_7, wp_37_7, wi_37_8, wp_37_8, wr_42_0, wi_42_1, wp_42_1, wk_84, wr_84_0, wr_84_1, wr_84_2, wr_84_3, wr_84_5, wr_84_13, wr_84_14, wr_84_15, wr_84_17, wr_84_18, wr_84_20, wr_84_21, wr_84_23, wr_84_24, wr_84_25, wr_84_26, wi_84_4, wp_84_4, wi_84_6, wp_84_6, wi_84_7, wp_84_7, wi_84_8, wp_84_8, wi_84_9, wp_84_9, wi_84_10, wp_84_10, wi_84_11, wp_84_11, wi_84_12, wp_84_12, wi_84_16, wp_84_16, wi_84_19, wp_84_19, wi_84_22, wp_84_22, wi_84_27, wp_84_27, wq5v, wkv, wiv, wrv, wav'], by simp (disch := omega) only [q_pos, q_pos', q_lt, q_le, q_eq, q_add, q_sub, q_mul, ob_s, if_pos, if_neg, not_false_eq_true, q_m1', q_div, rm_N, l_0, l_1, l_2, l_3, l_4, l_5, l_6, l_7, l_8, l_10, l_11, l_12, l_13, l_14, l_15, l_16, l_18, l_20, l_21, l_22, l_23, l_24, l_32, l_33, l_40, l_44, l_48, l_57, l_59, l_60, l_63, l_64, l_97, l_98, l_99, l_100, l_111, l_116, l_122, l_132, l_200, l_240, l_255, l_480, l_1000, l_1452, if_true, if_false, true_or, or_true, in_neg, in_m1, in_n, V1, V2, R1, R2, B1, B2, eq_self, wk_3, wk_10, wk_37, wk_42, wr_3_0, wr_3_1, wr_3_2, wr_3_3, wr_3_4, wr_3_5, wr_3_6, wr_3_7, wr_3_8, wi_3_9, wi_3_10, wi_3_11, wp_3_9, wp_3_10, wp_3_11, wr_10_0, wr_10_1, wi_10_2, wi_10_3, wp_10_2, wp_10_3, wr_37_0, wr_37_1, wr_37_2, wi_37_3, wp_37_3, wi_37_4, wp_37_4, wi_37_5, wp_37_5, wi_37_6, wp_37_6, wi_37_7, wp_37_7, wi_37_8, wp_37_8, wr_42_0, wi_42_1, wp_42_1, wk_84, wr_84_0, wr_84_1, wr_84_2, wr_84_3, wr_84_5, wr_84_13, wr_84_14, wr_84_15, wr_84_17, wr_84_18, wr_84_20, wr_84_21, wr_84_23, wr_84_24, wr_84_25, wr_84_26, wi_84_4, wp_84_4, wi_84_6, wp_84_6, wi_84_7, wp_84_7, wi_84_8, wp_84_8, wi_84_9, wp_84_9, wi_84_10, wp_84_10, wi_84_11, wp_84_11, wi_84_12, wp_84_12, wi_84_16, wp_84_16, wi_84_19, wp_84_19, wi_84_22, wp_84_22, wi_84_27, wp_84_27, wq5v, wkv, wiv, wrv, wav']⟩
theorem rst_L {k : Nat} (hk : k < 2) : ∀ m i g, i ≤ 4 → 4 < i + m → (∀ v, v < 4 → ∃ n p, vOK g (17 + (4 * k + v)) n p) → ∃ g', f_X11_restore_L26 m 3 (nI k) (nI i) (wH L xs g r rs) = some (nI 4, wH L xs g' r rs) ∧ (∀ v, i ≤ v → v < 4 → ∀ n p, vOK g (17 + (4 * k + v)) n p → vOK g' (13 + v) n p) ∧ ∀ c q, ¬ (c = 1 ∧ 13 + i ≤ q ∧ q < 17) → ¬ (33 + i ≤ c ∧ c < 37) → g' c q = g c q := by
  intro m
  induction m with
  | zero => intro i g h1 h2; omega
  | succ m ih =>
    intro i g h1 h2 hv
    unfold f_X11_restore_L26
    by_cases hi : i = 4
    · subst hi
      exact ⟨g, by simp (disch := omega) only [q_pos, q_pos', q_lt, q_le, q_eq, q_add, q_sub, q_mul, ob_s, if_pos, if_neg, not_false_eq_true, q_m1', q_div, rm_N, l_0, l_1, l_2, l_3, l_4, l_5, l_6, l_7, l_8, l_10, l_11, l_12, l_13, l_14, l_15, l_16, l_18, l_20, l_21, l_22, l_23, l_24, l_32, l_33, l_40, l_44, l_48, l_57, l_59, l_60, l_63, l_64, l_97, l_98, l_99, l_100, l_111, l_116, l_122, l_132, l_200, l_240, l_255, l_480, l_1000, l_1452, if_true, if_false, true_or, or_true, in_neg, in_m1, in_n, V1, V2, R1, R2, B1, B2, eq_self], fun v h1 h2 => by omega, fun _ _ _ _ => rfl⟩
    · obtain ⟨n, p, hc⟩ := hv i (by omega)
      obtain ⟨g1, b1, b2, b3⟩ := e_copyFrom (L := L) (xs := xs) (r := r) (rs := rs) (show 13 + i < 25 by omega) (show 17 + (4 * k + i) < 25 by omega) hc
      have F1 := vFr_q b3
      have hv1 : ∀ v, v < 4 → ∀ n p, vOK g (17 + (4 * k + v)) n p → vOK g1 (17 + (4 * k + v)) n p := fun v hv n p h => vOK_eq h (F1 _ _ (by omega) (by omega)) (fun b _ => F1 _ _ (by omega) (by omega))
      obtain ⟨g', c1, c2, c3⟩ := ih (i + 1) g1 (by omega) (by omega) (fun v hv' => by
        obtain ⟨n, p, h⟩ := hv v hv'
        exact ⟨n, p, hv1 v hv' n p h⟩)
      refine ⟨g', ?_, fun v x1 x2 n' p' h => ?_, fun c q x1 x2 => ?_⟩
      · simp (disch := omega) only [q_pos, q_pos', q_lt, q_le, q_eq, q_add, q_sub, q_mul, ob_s, if_pos, if_neg, not_false_eq_true, q_m1', q_div, rm_N, l_0, l_1, l_2, l_3, l_4, l_5, l_6, l_7, l_8, l_10, l_11, l_12, l_13, l_14, l_15, l_16, l_18, l_20, l_21, l_22, l_23, l_24, l_32, l_33, l_40, l_44, l_48, l_57, l_59, l_60, l_63, l_64, l_97, l_98, l_99, l_100, l_111, l_116, l_122, l_132, l_200, l_240, l_255, l_480, l_1000, l_1452, if_true, if_false, true_or, or_true, in_neg, in_m1, in_n, V1, V2, R1, R2, B1, B2, eq_self, wk_3, wk_10, wk_37, wk_42, wr_3_0, wr_3_1, wr_3_2, wr_3_3, wr_3_4, wr_3_5, wr_3_6, wr_3_7, wr_3_8, wi_3_9, wi_3_10, wi_3_11, wp_3_9, wp_3_10, wp_3_11, wr_10_0, wr_10_1, wi_10_2, wi_10_3, wp_10_2, wp_10_3, wr_37_0, wr_37_1, wr_37_2, wi_37_3, wp_37_3, wi_37_4, wp_37_4, wi_37_5, wp_37_5, wi_37_6, wp_37_6, wi_37_7, wp_37_7, wi_37_8, wp_37_8, wr_42_0, wi_42_1, wp_42_1, wk_84, wr_84_0, wr_84_1, wr_84_2, wr_84_3, wr_84_5, wr_84_13, wr_84_14, wr_84_15, wr_84_17, wr_84_18, wr_84_20, wr_84_21, wr_84_23, wr_84_24, wr_84_25, wr_84_26, wi_84_4, wp_84_4, wi_84_6, wp_84_6, wi_84_7, wp_84_7, wi_84_8, wp_84_8, wi_84_9, wp_84_9, wi_84_10, wp_84_10, wi_84_11, wp_84_11, wi_84_12, wp_84_12, wi_84_16, wp_84_16, wi_84_19, wp_84_19, wi_84_22, wp_84_22, wi_84_27, wp_84_27, wq5v, wkv, wiv, wrv, wav', wq6v, b1]
        exact c1
      · by_cases e : v = i
        · subst e
          have hh : vOK g1 (13 + v) n' p' := by
            obtain ⟨y1, y2, y3, y4⟩ := h
            obtain ⟨z1, z2, z3, z4⟩ := hc
            obtain ⟨u1, u2, u3, u4⟩ := b2
            exact ⟨y1, by rw [u2, ← z2, y2], y3, fun b hb => by rw [u4 b hb, ← z4 b hb, y4 b hb]⟩
          exact vOK_eq hh (c3 _ _ (by omega) (by omega)) (fun b _ => c3 _ _ (by omega) (by omega))
        · exact c2 v (by omega) x2 n' p' (hv1 v x2 n' p' h)
      · rw [c3 c q (by omega) (by omega), F1 c q (by omega) (by omega)]
theorem o_restore (R : Rel g r rs) (x : Int32) : Op L xs g r rs (f_X11_restore 3 x) (f_X12_restore 84 x) := by
  rcases a_sp x with hx | ⟨k, hk, rfl⟩
  · refine RO.op ?_ R
    unfold RO f_X11_restore f_X12_restore
    exact ⟨-1000001, by simp (disch := omega) only [q_pos, q_pos', q_lt, q_le, q_eq, q_add, q_sub, q_mul, ob_s, if_pos, if_neg, not_false_eq_true, q_m1', q_div, rm_N, l_0, l_1, l_2, l_3, l_4, l_5, l_6, l_7, l_8, l_10, l_11, l_12, l_13, l_14, l_15, l_16, l_18, l_20, l_21, l_22, l_23, l_24, l_32, l_33, l_40, l_44, l_48, l_57, l_59, l_60, l_63, l_64, l_97, l_98, l_99, l_100, l_111, l_116, l_122, l_132, l_200, l_240, l_255, l_480, l_1000, l_1452, if_true, if_false, true_or, or_true, in_neg, in_m1, in_n, V1, V2, R1, R2, B1, B2, eq_self, wk_3, wk_10, wk_37, wk_42, wr_3_0, wr_3_1, wr_3_2, wr_3_3, wr_3_4, wr_3_5, wr_3_6, wr_3_7, wr_3_8, wi_3_9, wi_3_10, wi_3_11, wp_3_9, wp_3_10, wp_3_11, wr_10_0, wr_10_1, wi_10_2, wi_10_3, wp_10_2, wp_10_3, wr_37_0, wr_37_1, wr_37_2, wi_37_3, wp_37_3, wi_37_4, wp_37_4, wi_37_5, wp_37_5, wi_37_6, wp_37_6, wi_37_7, wp_37_7, wi_37_8, wp_37_8, wr_42_0, wi_42_1, wp_42_1, wk_84, wr_84_0, wr_84_1, wr_84_2, wr_84_3, wr_84_5, wr_84_13, wr_84_14, wr_84_15, wr_84_17, wr_84_18, wr_84_20, wr_84_21, wr_84_23, wr_84_24, wr_84_25, wr_84_26, wi_84_4, wp_84_4, wi_84_6, wp_84_6, wi_84_7, wp_84_7, wi_84_8, wp_84_8, wi_84_9, wp_84_9, wi_84_10, wp_84_10, wi_84_11, wp_84_11, wi_84_12, wp_84_12, wi_84_16, wp_84_16, wi_84_19, wp_84_19, wi_84_22, wp_84_22, wi_84_27, wp_84_27, wq5v, wkv, wiv, wrv, wav', ng1 hx], by simp (disch := omega) only [q_pos, q_pos', q_lt, q_le, q_eq, q_add, q_sub, q_mul, ob_s, if_pos, if_neg, not_false_eq_true, q_m1', q_div, rm_N, l_0, l_1, l_2, l_3, l_4, l_5, l_6, l_7, l_8, l_10, l_11, l_12, l_13, l_14, l_15, l_16, l_18, l_20, l_21, l_22, l_23, l_24, l_32, l_33, l_40, l_44, l_48, l_57, l_59, l_60, l_63, l_64, l_97, l_98, l_99, l_100, l_111, l_116, l_122, l_132, l_200, l_240, l_255, l_480, l_1000, l_1452, if_true, if_false, true_or, or_true, in_neg, in_m1, in_n, V1, V2, R1, R2, B1, B2, eq_self, wk_3, wk_10, wk_37, wk_42, wr_3_0, wr_3_1, wr_3_2, wr_3_3, wr_3_4, wr_3_5, wr_3_6, wr_3_7, wr_3_8, wi_3_9, wi_3_10, wi_3_11, wp_3_9, wp_3_10, wp_3_11, wr_10_0, wr_10_1, wi_10_2, wi_10_3, wp_10_2, wp_10_3, wr_37_0, wr_37_1, wr_37_2, wi_37_3, wp_37_3, wi_37_4, wp_37_4, wi_37_5, wp_37_5, wi_37_6, wp_37_6, wi_37_7, wp_37_7, wi_37_8, wp_37_8, wr_42_0, wi_42_1, wp_42_1, wk_84, wr_84_0, wr_84_1, wr_84_2, wr_84_3, wr_84_5, wr_84_13, wr_84_14, wr_84_15, wr_84_17, wr_84_18, wr_84_20, wr_84_21, wr_84_23, wr_84_24, wr_84_25, wr_84_26, wi_84_4, wp_84_4, wi_84_6, wp_84_6, wi_84_7, wp_84_7, wi_84_8, wp_84_8, wi_84_9, wp_84_9, wi_84_10, wp_84_10, wi_84_11, wp_84_11, wi_84_12, wp_84_12, wi_84_16, wp_84_16, wi_84_19, wp_84_19, wi_84_22, wp_84_22, wi_84_27, wp_84_27, wq5v, wkv, wiv, wrv, wav', in_neg hx]⟩
  · by_cases ek : k < 2
    · rcases R.img k ek with ⟨i1, i2⟩ | ⟨i1, i2, i3⟩
      · refine RO.op ?_ R
        unfold RO f_X11_restore f_X12_restore
        exact ⟨-1000002, by simp (disch := omega) only [q_pos, q_pos', q_lt, q_le, q_eq, q_add, q_sub, q_mul, ob_s, if_pos, if_neg, not_false_eq_true, q_m1', q_div, rm_N, l_0, l_1, l_2, l_3, l_4, l_5, l_6, l_7, l_8, l_10, l_11, l_12, l_13, l_14, l_15, l_16, l_18, l_20, l_21, l_22, l_23, l_24, l_32, l_33, l_40, l_44, l_48, l_57, l_59, l_60, l_63, l_64, l_97, l_98, l_99, l_100, l_111, l_116, l_122, l_132, l_200, l_240, l_255, l_480, l_1000, l_1452, if_true, if_false, true_or, or_true, in_neg, in_m1, in_n, V1, V2, R1, R2, B1, B2, eq_self, wk_3, wk_10, wk_37, wk_42, wr_3_0, wr_3_1, wr_3_2, wr_3_3, wr_3_4, wr_3_5, wr_3_6, wr_3_7, wr_3_8, wi_3_9, wi_3_10, wi_3_11, wp_3_9, wp_3_10, wp_3_11, wr_10_0, wr_10_1, wi_10_2, wi_10_3, wp_10_2, wp_10_3, wr_37_0, wr_37_1, wr_37_2, wi_37_3, wp_37_3, wi_37_4, wp_37_4, wi_37_5, wp_37_5, wi_37_6, wp_37_6, wi_37_7, wp_37_7, wi_37_8, wp_37_8, wr_42_0, wi_42_1, wp_42_1, wk_84, wr_84_0, wr_84_1, wr_84_2, wr_84_3, wr_84_5, wr_84_13, wr_84_14, wr_84_15, wr_84_17, wr_84_18, wr_84_20, wr_84_21, wr_84_23, wr_84_24, wr_84_25, wr_84_26, wi_84_4, wp_84_4, wi_84_6, wp_84_6, wi_84_7, wp_84_7, wi_84_8, wp_84_8, wi_84_9, wp_84_9, wi_84_10, wp_84_10, wi_84_11, wp_84_11, wi_84_12, wp_84_12, wi_84_16, wp_84_16, wi_84_19, wp_84_19, wi_84_22, wp_84_22, wi_84_27, wp_84_27, wq5v, wkv, wiv, wrv, wav', wz_7', i1], by simp (disch := omega) only [q_pos, q_pos', q_lt, q_le, q_eq, q_add, q_sub, q_mul, ob_s, if_pos, if_neg, not_false_eq_true, q_m1', q_div, rm_N, l_0, l_1, l_2, l_3, l_4, l_5, l_6, l_7, l_8, l_10, l_11, l_12, l_13, l_14, l_15, l_16, l_18, l_20, l_21, l_22, l_23, l_24, l_32, l_33, l_40, l_44, l_48, l_57, l_59, l_60, l_63, l_64, l_97, l_98, l_99, l_100, l_111, l_116, l_122, l_132, l_200, l_240, l_255, l_480, l_1000, l_1452, if_true, if_false, true_or, or_true, in_neg, in_m1, in_n, V1, V2, R1, R2, B1, B2, eq_self, wk_3, wk_10, wk_37, wk_42, wr_3_0, wr_3_1, wr_3_2, wr_3_3, wr_3_4, wr_3_5, wr_3_6, wr_3_7, wr_3_8, wi_3_9, wi_3_10, wi_3_11, wp_3_9, wp_3_10, wp_3_11, wr_10_0, wr_10_1, wi_10_2, wi_10_3, wp_10_2, wp_10_3, wr_37_0, wr_37_1, wr_37_2, wi_37_3, wp_37_3, wi_37_4, wp_37_4, wi_37_5, wp_37_5, wi_37_6, wp_37_6, wi_37_7, wp_37_7, wi_37_8, wp_37_8, wr_42_0, wi_42_1, wp_42_1, wk_84, wr_84_0, wr_84_1, wr_84_2, wr_84_3, wr_84_5, wr_84_13, wr_84_14, wr_84_15, wr_84_17, wr_84_18, wr_84_20, wr_84_21, wr_84_23, wr_84_24, wr_84_25, wr_84_26, wi_84_4, wp_84_4, wi_84_6, wp_84_6, wi_84_7, wp_84_7, wi_84_8, wp_84_8, wi_84_9, wp_84_9, wi_84_10, wp_84_10, wi_84_11, wp_84_11, wi_84_12, wp_84_12, wi_84_16, wp_84_16, wi_84_19, wp_84_19, wi_84_22, wp_84_22, wi_84_27, wp_84_27, wq5v, wkv, wiv, wrv, wav', wz_94', i2]⟩
      · obtain ⟨g1, b1, b2, b3⟩ := rst_L (L := L) (xs := xs) (r := r) (rs := rs) ek xN 0 g (by omega) (by unfold xN; omega) (fun v hv => by
          obtain ⟨n, p, h1, h2⟩ := i3 v hv
          exact ⟨n, p, h1⟩)
        have F1 : ∀ c q, ¬ (c = 1 ∧ 13 ≤ q ∧ q < 17) → ¬ (33 ≤ c ∧ c < 37) → ¬ (c = 47 ∧ q = 3) → gs g1 47 3 (nI 0) c q = g c q := by
          intro c q x1 x2 x3
          by_cases e : c = 47
          · subst e; rw [gs_ok (by omega), b3 _ _ (by omega) (by omega)]
          · rw [gs_oc e, b3 _ _ (by omega) (by omega)]
        obtain ⟨g3, c1, c2, c3, c4⟩ := m_copies (L := L) (xs := xs) (r := r) (rs := rs) (g := gs g1 47 3 (nI 0)) (pa := 93) (ca := 58) (NA := 264) (pb := 90) (cb := 55) (NB := 132) (A := 132 * k) (B := 0) (fun _ _ h => wa_93' h) (fun _ _ _ h => wu_90' h) (by omega) (by omega) (by omega)
        have F2 : ∀ c q, c ≠ 55 → ¬ (c = 66 ∧ q = 16) → gs g3 66 16 (nI 0) c q = gs g1 47 3 (nI 0) c q := by
          intro c q x1 x2
          by_cases e : c = 66
          · subst e; rw [gs_ok (by omega), c2 _ (by omega)]
          · rw [gs_oc e, c2 c x1]
        have F : ∀ c q, ¬ (c = 1 ∧ 13 ≤ q ∧ q < 17) → ¬ (33 ≤ c ∧ c < 37) → ¬ (c = 47 ∧ q = 3) → c ≠ 55 → ¬ (c = 66 ∧ q = 16) → gs g3 66 16 (nI 0) c q = g c q := fun c q x1 x2 x3 x4 x5 => (F2 c q x4 x5).trans (F1 c q x1 x2 x3)
        have F5 : ∀ t, t < 132 → gs g3 66 16 (nI 0) 55 t = g 58 (132 * k + t) := by
          intro t ht
          have := c3 t ht
          rw [Nat.zero_add] at this
          rw [gs_oc (by omega), this, F1 _ _ (by omega) (by omega) (by omega)]
        obtain ⟨o, h, hh⟩ := R.his
        have tu : ∀ v n p, v < 4 → vOK g (17 + (4 * k + v)) n p → vOK (gs g1 47 3 (nI 0)) (13 + v) n p := fun v n p hv h => vOK_eq (b2 v (by omega) hv n p h) (by rw [gs_oc (by omega)]) (fun b _ => by rw [gs_oc (by omega)])
        have tm : ∀ v n p, v < 4 → mOK g 58 (132 * k + 33 * v) n p → mOK (gs g3 66 16 (nI 0)) 55 (33 * v) n p := fun v n p hv h => mOK_eq h (fun t ht => by rw [F5 _ (by omega), Nat.add_assoc])
        have hR : Rel (gs g3 66 16 (nI 0)) r rs := by
          refine ⟨rRow_c R.row (fun c k hc => F c k (by omega) (by omega) (by omega) (by omega) (by omega)), rTap_c R.tap (fun c k hc => F c k (by omega) (by omega) (by omega) (by omega) (by omega)), ⟨?_, ?_⟩, fun v hv => ?_, rImg_c R.img (fun c k hc => F c k (by omega) (by omega) (by omega) (by omega) (by omega)), rCh_c R.ch (fun k => F _ k (by omega) (by omega) (by omega) (by omega) (by omega)), rTr_c R.tr (fun c k hc => F c k (by omega) (by omega) (by omega) (by omega) (by omega)), rRun_c R.run (fun c k hc => F c k (by omega) (by omega) (by omega) (by omega) (by omega)), ⟨o, 0, hh.1, by omega, ?_, ?_, gs_same, fun t ht => by omega⟩⟩
          · rw [F 0 10 (by omega) (by omega) (by omega) (by omega) (by omega), F 66 7 (by omega) (by omega) (by omega) (by omega) (by omega)]
            exact R.fs.1
          · rw [F 0 11 (by omega) (by omega) (by omega) (by omega) (by omega), F 66 4 (by omega) (by omega) (by omega) (by omega) (by omega)]
            exact R.fs.2
          · obtain ⟨n, p, h1, h2⟩ := i3 v hv
            exact ⟨n, p, vOK_eq (tu v n p hv h1) (F2 _ _ (by omega) (by omega)) (fun b _ => F2 _ _ (by omega) (by omega)), tm v n p hv h2⟩
          · rw [F 47 2 (by omega) (by omega) (by omega) (by omega) (by omega)]; exact hh.2.2.1
          · rw [F2 47 3 (by omega) (by omega), gs_same]
        obtain ⟨n0, p0, u0, m0⟩ := i3 0 (by omega)
        obtain ⟨n1, p1, u1, m1⟩ := i3 1 (by omega)
        obtain ⟨n2, p2, u2, m2⟩ := i3 2 (by omega)
        obtain ⟨n3, p3, u3, m3⟩ := i3 3 (by omega)
        have kk : gs g1 47 3 (nI 0) 59 k = 1 := by rw [F1 _ _ (by omega) (by omega) (by omega)]; exact i2
        refine ⟨nI (fb_ct p0 n0 + fb_ct p1 n1 + fb_ct p2 n2 + fb_ct p3 n3), gs g1 47 3 (nI 0), r, rs, gs g3 66 16 (nI 0), ?_, ?_, hR, by omega, by omega⟩
        · unfold f_X11_restore f_X3_forgetAll
          rw [if_neg (show ¬ nI k < 0 from q_pos (by omega)), if_pos (show nI k < 2 by rw [l_2, q_lt (by omega) (by omega)]; exact ek), wr_3_3, Option.bind_some, wz_7' ek, Option.bind_some, i1, if_neg (by decide), l_0, b1, Option.bind_some]
          dsimp only
          rw [wr_3_5, Option.bind_some, wk_10, if_pos rfl, wp_10_3, Option.bind_some, Option.bind_some, wk_3, if_pos rfl, e_onesOfAll (tu 0 _ _ (by omega) u0) (tu 1 _ _ (by omega) u1) (tu 2 _ _ (by omega) u2) (tu 3 _ _ (by omega) u3), Option.bind_some]
        · unfold f_X12_restore
          simp (disch := omega) only [q_pos, q_pos', q_lt, q_le, q_eq, q_add, q_sub, q_mul, ob_s, if_pos, if_neg, not_false_eq_true, q_m1', q_div, rm_N, l_0, l_1, l_2, l_3, l_4, l_5, l_6, l_7, l_8, l_10, l_11, l_12, l_13, l_14, l_15, l_16, l_18, l_20, l_21, l_22, l_23, l_24, l_32, l_33, l_40, l_44, l_48, l_57, l_59, l_60, l_63, l_64, l_97, l_98, l_99, l_100, l_111, l_116, l_122, l_132, l_200, l_240, l_255, l_480, l_1000, l_1452, if_true, if_false, true_or, or_true, in_neg, in_m1, in_n, V1, V2, R1, R2, B1, B2, eq_self, wk_84, wr_84_0, wr_84_1, wr_84_2, wr_84_3, wr_84_5, wr_84_13, wr_84_14, wr_84_15, wr_84_17, wr_84_18, wr_84_20, wr_84_21, wr_84_23, wr_84_24, wr_84_25, wr_84_26, wi_84_4, wp_84_4, wi_84_6, wp_84_6, wi_84_7, wp_84_7, wi_84_8, wp_84_8, wi_84_9, wp_84_9, wi_84_10, wp_84_10, wi_84_11, wp_84_11, wi_84_12, wp_84_12, wi_84_16, wp_84_16, wi_84_19, wp_84_19, wi_84_22, wp_84_22, wi_84_27, wp_84_27, wz_94', kk, c1]
          simp (disch := omega) only [wk_84, wr_84_0, wr_84_1, wr_84_2, wr_84_3, wr_84_5, wr_84_13, wr_84_14, wr_84_15, wr_84_17, wr_84_18, wr_84_20, wr_84_21, wr_84_23, wr_84_24, wr_84_25, wr_84_26, wi_84_4, wp_84_4, wi_84_6, wp_84_6, wi_84_7, wp_84_7, wi_84_8, wp_84_8, wi_84_9, wp_84_9, wi_84_10, wp_84_10, wi_84_11, wp_84_11, wi_84_12, wp_84_12, wi_84_16, wp_84_16, wi_84_19, wp_84_19, wi_84_22, wp_84_22, wi_84_27, wp_84_27, if_true, m_onesOfAll (tm 0 _ _ (by omega) m0) (tm 1 _ _ (by omega) m1) (tm 2 _ _ (by omega) m2) (tm 3 _ _ (by omega) m3), Option.bind_some]
    · refine RO.op ?_ R
      unfold RO f_X11_restore f_X12_restore
      exact ⟨-1000001, by simp (disch := omega) only [q_pos, q_pos', q_lt, q_le, q_eq, q_add, q_sub, q_mul, ob_s, if_pos, if_neg, not_false_eq_true, q_m1', q_div, rm_N, l_0, l_1, l_2, l_3, l_4, l_5, l_6, l_7, l_8, l_10, l_11, l_12, l_13, l_14, l_15, l_16, l_18, l_20, l_21, l_22, l_23, l_24, l_32, l_33, l_40, l_44, l_48, l_57, l_59, l_60, l_63, l_64, l_97, l_98, l_99, l_100, l_111, l_116, l_122, l_132, l_200, l_240, l_255, l_480, l_1000, l_1452, if_true, if_false, true_or, or_true, in_neg, in_m1, in_n, V1, V2, R1, R2, B1, B2, eq_self, wk_3, wk_10, wk_37, wk_42, wr_3_0, wr_3_1, wr_3_2, wr_3_3, wr_3_4, wr_3_5, wr_3_6, wr_3_7, wr_3_8, wi_3_9, wi_3_10, wi_3_11, wp_3_9, wp_3_10, wp_3_11, wr_10_0, wr_10_1, wi_10_2, wi_10_3, wp_10_2, wp_10_3, wr_37_0, wr_37_1, wr_37_2, wi_37_3, wp_37_3, wi_37_4, wp_37_4, wi_37_5, wp_37_5, wi_37_6, wp_37_6, wi_37_7, wp_37_7, wi_37_8, wp_37_8, wr_42_0, wi_42_1, wp_42_1, wk_84, wr_84_0, wr_84_1, wr_84_2, wr_84_3, wr_84_5, wr_84_13, wr_84_14, wr_84_15, wr_84_17, wr_84_18, wr_84_20, wr_84_21, wr_84_23, wr_84_24, wr_84_25, wr_84_26, wi_84_4, wp_84_4, wi_84_6, wp_84_6, wi_84_7, wp_84_7, wi_84_8, wp_84_8, wi_84_9, wp_84_9, wi_84_10, wp_84_10, wi_84_11, wp_84_11, wi_84_12, wp_84_12, wi_84_16, wp_84_16, wi_84_19, wp_84_19, wi_84_22, wp_84_22, wi_84_27, wp_84_27, wq5v, wkv, wiv, wrv, wav'], by simp (disch := omega) only [q_pos, q_pos', q_lt, q_le, q_eq, q_add, q_sub, q_mul, ob_s, if_pos, if_neg, not_false_eq_true, q_m1', q_div, rm_N, l_0, l_1, l_2, l_3, l_4, l_5, l_6, l_7, l_8, l_10, l_11, l_12, l_13, l_14, l_15, l_16, l_18, l_20, l_21, l_22, l_23, l_24, l_32, l_33, l_40, l_44, l_48, l_57, l_59, l_60, l_63, l_64, l_97, l_98, l_99, l_100, l_111, l_116, l_122, l_132, l_200, l_240, l_255, l_480, l_1000, l_1452, if_true, if_false, true_or, or_true, in_neg, in_m1, in_n, V1, V2, R1, R2, B1, B2, eq_self, wk_3, wk_10, wk_37, wk_42, wr_3_0, wr_3_1, wr_3_2, wr_3_3, wr_3_4, wr_3_5, wr_3_6, wr_3_7, wr_3_8, wi_3_9, wi_3_10, wi_3_11, wp_3_9, wp_3_10, wp_3_11, wr_10_0, wr_10_1, wi_10_2, wi_10_3, wp_10_2, wp_10_3, wr_37_0, wr_37_1, wr_37_2, wi_37_3, wp_37_3, wi_37_4, wp_37_4, wi_37_5, wp_37_5, wi_37_6, wp_37_6, wi_37_7, wp_37_7, wi_37_8, wp_37_8, wr_42_0, wi_42_1, wp_42_1, wk_84, wr_84_0, wr_84_1, wr_84_2, wr_84_3, wr_84_5, wr_84_13, wr_84_14, wr_84_15, wr_84_17, wr_84_18, wr_84_20, wr_84_21, wr_84_23, wr_84_24, wr_84_25, wr_84_26, wi_84_4, wp_84_4, wi_84_6, wp_84_6, wi_84_7, wp_84_7, wi_84_8, wp_84_8, wi_84_9, wp_84_9, wi_84_10, wp_84_10, wi_84_11, wp_84_11, wi_84_12, wp_84_12, wi_84_16, wp_84_16, wi_84_19, wp_84_19, wi_84_22, wp_84_22, wi_84_27, wp_84_27, wq5v, wkv, wiv, wrv, wav']⟩
end ACT4
