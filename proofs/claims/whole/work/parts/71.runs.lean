theorem kq_1_1 : (nI 1 = (1 : Int32)) = True := eq_true rfl
theorem kq_1_2 : (nI 1 = (2 : Int32)) = False := eq_false (by decide)
theorem kq_1_3 : (nI 1 = (3 : Int32)) = False := eq_false (by decide)
theorem kq_1_4 : (nI 1 = (4 : Int32)) = False := eq_false (by decide)
theorem kq_1_5 : (nI 1 = (5 : Int32)) = False := eq_false (by decide)
theorem kl_1 : (nI 1 < (4 : Int32)) = True := eq_true (by decide)
theorem kq_2_1 : (nI 2 = (1 : Int32)) = False := eq_false (by decide)
theorem kq_2_2 : (nI 2 = (2 : Int32)) = True := eq_true rfl
theorem kq_2_3 : (nI 2 = (3 : Int32)) = False := eq_false (by decide)
theorem kq_2_4 : (nI 2 = (4 : Int32)) = False := eq_false (by decide)
theorem kq_2_5 : (nI 2 = (5 : Int32)) = False := eq_false (by decide)
theorem kl_2 : (nI 2 < (4 : Int32)) = True := eq_true (by decide)
theorem kq_3_1 : (nI 3 = (1 : Int32)) = False := eq_false (by decide)
theorem kq_3_2 : (nI 3 = (2 : Int32)) = False := eq_false (by decide)
theorem kq_3_3 : (nI 3 = (3 : Int32)) = True := eq_true rfl
theorem kq_3_4 : (nI 3 = (4 : Int32)) = False := eq_false (by decide)
theorem kq_3_5 : (nI 3 = (5 : Int32)) = False := eq_false (by decide)
theorem kl_3 : (nI 3 < (4 : Int32)) = True := eq_true (by decide)
theorem kq_4_1 : (nI 4 = (1 : Int32)) = False := eq_false (by decide)
theorem kq_4_2 : (nI 4 = (2 : Int32)) = False := eq_false (by decide)
theorem kq_4_3 : (nI 4 = (3 : Int32)) = False := eq_false (by decide)
theorem kq_4_4 : (nI 4 = (4 : Int32)) = True := eq_true rfl
theorem kq_4_5 : (nI 4 = (5 : Int32)) = False := eq_false (by decide)
theorem kl_4 : (nI 4 < (4 : Int32)) = False := eq_false (by decide)
theorem kq_5_1 : (nI 5 = (1 : Int32)) = False := eq_false (by decide)
theorem kq_5_2 : (nI 5 = (2 : Int32)) = False := eq_false (by decide)
theorem kq_5_3 : (nI 5 = (3 : Int32)) = False := eq_false (by decide)
theorem kq_5_4 : (nI 5 = (4 : Int32)) = False := eq_false (by decide)
theorem kq_5_5 : (nI 5 = (5 : Int32)) = True := eq_true rfl
theorem kl_5 : (nI 5 < (4 : Int32)) = False := eq_false (by decide)
theorem k_10 : ((1 : Int32) = 0) = False := eq_false (by decide)
/-- bit j of a run of a kind -/
def bR (K j : Nat) : Bool := if K = 1 then false else if K = 2 then true else if K = 3 then decide (j % 3 = 0) else if K = 4 then decide (j % 2 = 0) else decide (j / 4 % 2 = 0)
theorem K5 {K : Nat} (h1 : 1 ≤ K) (h2 : K ≤ 5) : K = 1 ∨ K = 2 ∨ K = 3 ∨ K = 4 ∨ K = 5 := by omega
theorem i_z0 {n : Nat} (h : n < 2147483648) (e : n = 0) : nI n = (0 : Int32) := by subst e; rfl
theorem i_nz {n : Nat} (h : n < 2147483648) (e : n ≠ 0) : ¬ nI n = (0 : Int32) := fun z => e (by rw [l_0, q_eq h (by omega)] at z; exact z)
theorem rem_2 {j : Nat} (hj : j < 2147483648) : nI j - nI j / (2 : Int32) * (2 : Int32) = nI (j % 2) := q_rem (d := 2) hj (by omega) (by omega)
theorem rem_3 {j : Nat} (hj : j < 2147483648) : nI j - nI j / (3 : Int32) * (3 : Int32) = nI (j % 3) := q_rem (d := 3) hj (by omega) (by omega)
theorem div_4 {j : Nat} (hj : j < 2147483648) : nI j / (4 : Int32) = nI (j / 4) := q_div (d := 4) hj (by omega) (by omega)
theorem e0_bit {j q : Nat} {h : xH} (hj : j < 2147483648) : f_X0_bitOf q (nI j) h = some (nI (decide (j % 2 = 0)).toNat, h) := by
  unfold f_X0_bitOf
  rw [rem_2 hj]
  by_cases e : j % 2 = 0
  · rw [if_pos (i_z0 (by omega) e), decide_eq_true e]; rfl
  · rw [if_neg (i_nz (by omega) e), decide_eq_false e]; rfl
theorem e8_bit {j q : Nat} {h : xH} (hj : j < 2147483648) : f_X8_bitOf q (nI j) h = some (nI (decide (j % 3 = 0)).toNat, h) := by
  unfold f_X8_bitOf
  rw [rem_3 hj]
  by_cases e : j % 3 = 0
  · rw [if_pos (i_z0 (by omega) e), decide_eq_true e]; rfl
  · rw [if_neg (i_nz (by omega) e), decide_eq_false e]; rfl
theorem e_rbit {K j q : Nat} {h : xH} (h1 : 1 ≤ K) (h2 : K ≤ 5) (hk : xk h q = some (kC K)) (hj : j < 2147483648) : (if xk h q = some 0 then f_X0_bitOf q (nI j) h else if xk h q = some 2 then f_X2_bitOf q (nI j) h else if xk h q = some 4 then f_X4_bitOf q (nI j) h else if xk h q = some 7 then f_X8_bitOf q (nI j) h else if xk h q = some 9 then f_X10_bitOf q (nI j) h else none) = some (nI (bR K j).toNat, h) := by
  rcases K5 h1 h2 with e | e | e | e | e
  · subst e; rw [hk]; rfl
  · subst e; rw [hk]; rfl
  · subst e; rw [hk]; exact e8_bit (q := q) hj
  · subst e; rw [hk]; exact e0_bit (q := q) hj
  · subst e
    have e2 : f_X2_bitOf q (nI j) h = some (nI (bR 5 j).toNat, h) := by
      unfold f_X2_bitOf
      rw [if_pos (show xk h q = some 2 from hk), div_4 hj, e0_bit (by omega)]
      rfl
    rw [← e2, hk]
    rfl
theorem m_rbit {K j : Nat} {h : xH} (h1 : 1 ≤ K) (h2 : K ≤ 5) (hj : j < 2147483648) : f_X12_bitOf (nI K) (nI j) h = some (nI (bR K j).toNat, h) := by
  have s1 : ∀ t, t < 2 → (1 : Int32) - nI t = nI (decide (t = 0)).toNat := by decide
  unfold f_X12_bitOf
  rcases K5 h1 h2 with e | e | e | e | e
  · subst e; rfl
  · subst e; rfl
  · subst e
    simp only [kq_1_1, kq_1_2, kq_1_3, kq_1_4, kq_1_5, kq_2_1, kq_2_2, kq_2_3, kq_2_4, kq_2_5, kq_3_1, kq_3_2, kq_3_3, kq_3_4, kq_3_5, kq_4_1, kq_4_2, kq_4_3, kq_4_4, kq_4_5, kq_5_1, kq_5_2, kq_5_3, kq_5_4, kq_5_5, kl_1, kl_2, kl_3, kl_4, kl_5, k_10, if_true, if_false, rem_3 hj]
    by_cases e : j % 3 = 0
    · rw [if_pos (i_z0 (by omega) e)]
      show _ = some (nI (decide (j % 3 = 0)).toNat, h)
      rw [decide_eq_true e]; rfl
    · rw [if_neg (i_nz (by omega) e)]
      show _ = some (nI (decide (j % 3 = 0)).toNat, h)
      rw [decide_eq_false e]; rfl
  · subst e
    simp only [kq_1_1, kq_1_2, kq_1_3, kq_1_4, kq_1_5, kq_2_1, kq_2_2, kq_2_3, kq_2_4, kq_2_5, kq_3_1, kq_3_2, kq_3_3, kq_3_4, kq_3_5, kq_4_1, kq_4_2, kq_4_3, kq_4_4, kq_4_5, kq_5_1, kq_5_2, kq_5_3, kq_5_4, kq_5_5, kl_1, kl_2, kl_3, kl_4, kl_5, k_10, if_true, if_false, rem_2 hj, s1 _ (Nat.mod_lt j (by decide : 0 < 2))]
    rfl
  · subst e
    simp only [kq_1_1, kq_1_2, kq_1_3, kq_1_4, kq_1_5, kq_2_1, kq_2_2, kq_2_3, kq_2_4, kq_2_5, kq_3_1, kq_3_2, kq_3_3, kq_3_4, kq_3_5, kq_4_1, kq_4_2, kq_4_3, kq_4_4, kq_4_5, kq_5_1, kq_5_2, kq_5_3, kq_5_4, kq_5_5, kl_1, kl_2, kl_3, kl_4, kl_5, k_10, if_false, div_4 hj]
    rw [rem_2 (by omega), s1 _ (Nat.mod_lt _ (by decide : 0 < 2))]
    rfl
section RUNS
variable {L : Nat} {xs : Nat → Int32} {g : xS} {r : Nat → Option Nat} {rs : xH} {a K i len : Nat}
theorem xk_ru {c : Nat} {fs : List Value} (h : rs[a]? = some (.inr (c, fs))) : xk (wH L xs g r rs) (101 + a) = some c := by
  unfold xk
  rw [wH_hi, h]
theorem xg0_ru (h1 : 1 ≤ K) (h2 : K ≤ 5) {x y : Int32} (h : rs[a]? = some (.inr (kC K, [.int x, .int y]))) : xgI [0, 2, 4, 7, 9] (wH L xs g r rs) (101 + a) 0 = some x := by
  unfold xgI
  rw [wH_hi, h]
  rcases K5 h1 h2 with e | e | e | e | e <;> subst e <;> rfl
theorem xg1_ru (h1 : 1 ≤ K) (h2 : K ≤ 5) {x y : Int32} (h : rs[a]? = some (.inr (kC K, [.int x, .int y]))) : xgI [0, 2, 4, 7, 9] (wH L xs g r rs) (101 + a) 1 = some y := by
  unfold xgI
  rw [wH_hi, h]
  rcases K5 h1 h2 with e | e | e | e | e <;> subst e <;> rfl
theorem xaR_ru {q : Nat} (hi : i < 12) (h : r i = some q) : xaR 4 (wH L xs g r rs) 41 (nI i) = some q := by
  unfold xaR
  rw [wq_41' hi, ob_s, h]
  rfl
theorem e_isRun {m q : Nat} (hm : m ≤ 12) (hi : i < m) (h9 : g 0 9 = nI m) (hr : r i = some q) : f_X11_isRun 3 (nI i) (wH L xs g r rs) = some (nI 1, wH L xs g r rs) := by
  unfold f_X11_isRun
  simp (disch := omega) only [q_pos, q_pos', q_lt, q_le, q_eq, q_add, q_sub, q_mul, ob_s, if_pos, if_neg, not_false_eq_true, q_m1', q_div, rm_N, l_0, l_1, l_2, l_3, l_4, l_5, l_6, l_7, l_8, l_10, l_11, l_12, l_13, l_14, l_15, l_16, l_18, l_20, l_21, l_22, l_23, l_24, l_32, l_33, l_40, l_44, l_48, l_57, l_59, l_60, l_63, l_64, l_97, l_98, l_99, l_100, l_111, l_116, l_122, l_132, l_200, l_240, l_255, l_480, l_1000, l_1452, if_true, if_false, true_or, or_true, in_neg, in_m1, in_n, V1, V2, R1, R2, B1, B2, eq_self, wk_3, wk_10, wk_37, wk_42, wr_3_0, wr_3_1, wr_3_2, wr_3_3, wr_3_4, wr_3_5, wr_3_6, wr_3_7, wr_3_8, wi_3_9, wi_3_10, wi_3_11, wp_3_9, wp_3_10, wp_3_11, wr_10_0, wr_10_1, wi_10_2, wi_10_3, wp_10_2, wp_10_3, wr_37_0, wr_37_1, wr_37_2, wi_37_3, wp_37_3, wi_37_4, wp_37_4, wi_37_5, wp_37_5, wi_37_6, wp_37_6, wi_37_7, wp_37_7, wi_37_8, wp_37_8, wr_42_0, wi_42_1, wp_42_1, h9, wq_41', hr]
theorem m_isRun {m : Nat} (hm : m ≤ 12) (hi : i < m) (h9 : g 66 19 = nI m) : f_X12_isRun 84 (nI i) (wH L xs g r rs) = some (nI 1, wH L xs g r rs) := by
  unfold f_X12_isRun
  simp (disch := omega) only [q_pos, q_pos', q_lt, q_le, q_eq, q_add, q_sub, q_mul, ob_s, if_pos, if_neg, not_false_eq_true, q_m1', q_div, rm_N, l_0, l_1, l_2, l_3, l_4, l_5, l_6, l_7, l_8, l_10, l_11, l_12, l_13, l_14, l_15, l_16, l_18, l_20, l_21, l_22, l_23, l_24, l_32, l_33, l_40, l_44, l_48, l_57, l_59, l_60, l_63, l_64, l_97, l_98, l_99, l_100, l_111, l_116, l_122, l_132, l_200, l_240, l_255, l_480, l_1000, l_1452, if_true, if_false, true_or, or_true, in_neg, in_m1, in_n, V1, V2, R1, R2, B1, B2, eq_self, wk_84, wr_84_0, wr_84_1, wr_84_2, wr_84_3, wr_84_5, wr_84_13, wr_84_14, wr_84_15, wr_84_17, wr_84_18, wr_84_20, wr_84_21, wr_84_23, wr_84_24, wr_84_25, wr_84_26, wi_84_4, wp_84_4, wi_84_6, wp_84_6, wi_84_7, wp_84_7, wi_84_8, wp_84_8, wi_84_9, wp_84_9, wi_84_10, wp_84_10, wi_84_11, wp_84_11, wi_84_12, wp_84_12, wi_84_16, wp_84_16, wi_84_19, wp_84_19, wi_84_22, wp_84_22, wi_84_27, wp_84_27, h9]
theorem e_isRun0 {m : Nat} {x : Int32} (hm : m ≤ 12) (hx : x < nI 0 ∨ ∃ j, j < 2147483648 ∧ x = nI j ∧ m ≤ j) (h9 : g 0 9 = nI m) : f_X11_isRun 3 x (wH L xs g r rs) = some (nI 0, wH L xs g r rs) := by
  unfold f_X11_isRun
  rcases hx with hx | ⟨j, hj, rfl, hmj⟩
  · simp (disch := omega) only [q_pos, q_pos', q_lt, q_le, q_eq, q_add, q_sub, q_mul, ob_s, if_pos, if_neg, not_false_eq_true, q_m1', q_div, rm_N, l_0, l_1, l_2, l_3, l_4, l_5, l_6, l_7, l_8, l_10, l_11, l_12, l_13, l_14, l_15, l_16, l_18, l_20, l_21, l_22, l_23, l_24, l_32, l_33, l_40, l_44, l_48, l_57, l_59, l_60, l_63, l_64, l_97, l_98, l_99, l_100, l_111, l_116, l_122, l_132, l_200, l_240, l_255, l_480, l_1000, l_1452, if_true, if_false, true_or, or_true, in_neg, in_m1, in_n, V1, V2, R1, R2, B1, B2, eq_self, ng1 hx]
  · simp (disch := omega) only [q_pos, q_pos', q_lt, q_le, q_eq, q_add, q_sub, q_mul, ob_s, if_pos, if_neg, not_false_eq_true, q_m1', q_div, rm_N, l_0, l_1, l_2, l_3, l_4, l_5, l_6, l_7, l_8, l_10, l_11, l_12, l_13, l_14, l_15, l_16, l_18, l_20, l_21, l_22, l_23, l_24, l_32, l_33, l_40, l_44, l_48, l_57, l_59, l_60, l_63, l_64, l_97, l_98, l_99, l_100, l_111, l_116, l_122, l_132, l_200, l_240, l_255, l_480, l_1000, l_1452, if_true, if_false, true_or, or_true, in_neg, in_m1, in_n, V1, V2, R1, R2, B1, B2, eq_self, wk_3, wk_10, wk_37, wk_42, wr_3_0, wr_3_1, wr_3_2, wr_3_3, wr_3_4, wr_3_5, wr_3_6, wr_3_7, wr_3_8, wi_3_9, wi_3_10, wi_3_11, wp_3_9, wp_3_10, wp_3_11, wr_10_0, wr_10_1, wi_10_2, wi_10_3, wp_10_2, wp_10_3, wr_37_0, wr_37_1, wr_37_2, wi_37_3, wp_37_3, wi_37_4, wp_37_4, wi_37_5, wp_37_5, wi_37_6, wp_37_6, wi_37_7, wp_37_7, wi_37_8, wp_37_8, wr_42_0, wi_42_1, wp_42_1, h9]
theorem m_isRun0 {m : Nat} {x : Int32} (hm : m ≤ 12) (hx : x < nI 0 ∨ ∃ j, j < 2147483648 ∧ x = nI j ∧ m ≤ j) (h9 : g 66 19 = nI m) : f_X12_isRun 84 x (wH L xs g r rs) = some (nI 0, wH L xs g r rs) := by
  unfold f_X12_isRun
  rcases hx with hx | ⟨j, hj, rfl, hmj⟩
  · simp (disch := omega) only [q_pos, q_pos', q_lt, q_le, q_eq, q_add, q_sub, q_mul, ob_s, if_pos, if_neg, not_false_eq_true, q_m1', q_div, rm_N, l_0, l_1, l_2, l_3, l_4, l_5, l_6, l_7, l_8, l_10, l_11, l_12, l_13, l_14, l_15, l_16, l_18, l_20, l_21, l_22, l_23, l_24, l_32, l_33, l_40, l_44, l_48, l_57, l_59, l_60, l_63, l_64, l_97, l_98, l_99, l_100, l_111, l_116, l_122, l_132, l_200, l_240, l_255, l_480, l_1000, l_1452, if_true, if_false, true_or, or_true, in_neg, in_m1, in_n, V1, V2, R1, R2, B1, B2, eq_self, wk_84, wr_84_0, wr_84_1, wr_84_2, wr_84_3, wr_84_5, wr_84_13, wr_84_14, wr_84_15, wr_84_17, wr_84_18, wr_84_20, wr_84_21, wr_84_23, wr_84_24, wr_84_25, wr_84_26, wi_84_4, wp_84_4, wi_84_6, wp_84_6, wi_84_7, wp_84_7, wi_84_8, wp_84_8, wi_84_9, wp_84_9, wi_84_10, wp_84_10, wi_84_11, wp_84_11, wi_84_12, wp_84_12, wi_84_16, wp_84_16, wi_84_19, wp_84_19, wi_84_22, wp_84_22, wi_84_27, wp_84_27, h9, in_neg hx]
  · simp (disch := omega) only [q_pos, q_pos', q_lt, q_le, q_eq, q_add, q_sub, q_mul, ob_s, if_pos, if_neg, not_false_eq_true, q_m1', q_div, rm_N, l_0, l_1, l_2, l_3, l_4, l_5, l_6, l_7, l_8, l_10, l_11, l_12, l_13, l_14, l_15, l_16, l_18, l_20, l_21, l_22, l_23, l_24, l_32, l_33, l_40, l_44, l_48, l_57, l_59, l_60, l_63, l_64, l_97, l_98, l_99, l_100, l_111, l_116, l_122, l_132, l_200, l_240, l_255, l_480, l_1000, l_1452, if_true, if_false, true_or, or_true, in_neg, in_m1, in_n, V1, V2, R1, R2, B1, B2, eq_self, wk_84, wr_84_0, wr_84_1, wr_84_2, wr_84_3, wr_84_5, wr_84_13, wr_84_14, wr_84_15, wr_84_17, wr_84_18, wr_84_20, wr_84_21, wr_84_23, wr_84_24, wr_84_25, wr_84_26, wi_84_4, wp_84_4, wi_84_6, wp_84_6, wi_84_7, wp_84_7, wi_84_8, wp_84_8, wi_84_9, wp_84_9, wi_84_10, wp_84_10, wi_84_11, wp_84_11, wi_84_12, wp_84_12, wi_84_16, wp_84_16, wi_84_19, wp_84_19, wi_84_22, wp_84_22, wi_84_27, wp_84_27, h9]
theorem m_kindIn (hi : i < 12) (h : g 60 i = nI K) : f_X12_kindIn 84 (nI i) (wH L xs g r rs) = some (nI K, wH L xs g r rs) := by
  unfold f_X12_kindIn
  simp (disch := omega) only [q_pos, q_pos', q_lt, q_le, q_eq, q_add, q_sub, q_mul, ob_s, if_pos, if_neg, not_false_eq_true, q_m1', q_div, rm_N, l_0, l_1, l_2, l_3, l_4, l_5, l_6, l_7, l_8, l_10, l_11, l_12, l_13, l_14, l_15, l_16, l_18, l_20, l_21, l_22, l_23, l_24, l_32, l_33, l_40, l_44, l_48, l_57, l_59, l_60, l_63, l_64, l_97, l_98, l_99, l_100, l_111, l_116, l_122, l_132, l_200, l_240, l_255, l_480, l_1000, l_1452, if_true, if_false, true_or, or_true, in_neg, in_m1, in_n, V1, V2, R1, R2, B1, B2, eq_self, wk_84, wr_84_0, wr_84_1, wr_84_2, wr_84_3, wr_84_5, wr_84_13, wr_84_14, wr_84_15, wr_84_17, wr_84_18, wr_84_20, wr_84_21, wr_84_23, wr_84_24, wr_84_25, wr_84_26, wi_84_4, wp_84_4, wi_84_6, wp_84_6, wi_84_7, wp_84_7, wi_84_8, wp_84_8, wi_84_9, wp_84_9, wi_84_10, wp_84_10, wi_84_11, wp_84_11, wi_84_12, wp_84_12, wi_84_16, wp_84_16, wi_84_19, wp_84_19, wi_84_22, wp_84_22, wi_84_27, wp_84_27, wa_95', h]
/-- a number that is a run's, or none's -/
theorem sRn (R : rRun g r rs) (x : Int32) : (∃ m i a K len, m ≤ 12 ∧ i < m ∧ x = nI i ∧ g 0 9 = nI m ∧ g 66 19 = nI m ∧ r i = some (101 + a) ∧ 1 ≤ K ∧ K ≤ 5 ∧ len ≤ 99 ∧ rs[a]? = some (.inr (kC K, [.int (nI i), .int (nI len)])) ∧ g 60 i = nI K ∧ g 61 i = nI len) ∨ ∃ m, m ≤ 12 ∧ g 0 9 = nI m ∧ g 66 19 = nI m ∧ (x < nI 0 ∨ ∃ j, j < 2147483648 ∧ x = nI j ∧ m ≤ j) := by
  obtain ⟨m, h1, h2, h3, h4⟩ := R
  rcases a_sp x with hx | ⟨i, hi, rfl⟩
  · exact Or.inr ⟨m, h1, h2, h3, Or.inl hx⟩
  · by_cases e : i < m
    · obtain ⟨a, K, len, a1, a2, a3, a4, a5, a6, a7⟩ := h4 i e
      exact Or.inl ⟨m, i, a, K, len, h1, e, rfl, h2, h3, a1, a2, a3, a4, a5, a6, a7⟩
    · exact Or.inr ⟨m, h1, h2, h3, Or.inr ⟨i, hi, rfl, by omega⟩⟩
theorem o_kind (R : Rel g r rs) (x : Int32) : RO L xs g r rs (f_X11_kind 3 x) (f_X12_kind 84 x) := by
  unfold RO f_X11_kind f_X12_kind
  rcases sRn R.run x with ⟨m, i, a, K, len, hm, hi, rfl, h9, h19, hr, k1, k2, hl, ho, h60, h61⟩ | ⟨m, hm, h9, h19, hx⟩
  · refine ⟨nI K, ?_, ?_⟩
    · rw [wk_3, if_pos rfl, e_isRun hm hi h9 hr, ob_s]
      rw [if_neg (show ¬ nI 1 = (0 : Int32) by decide), wr_3_7, ob_s, xaR_ru (by omega) hr, ob_s, xk_ru ho]
      rcases K5 k1 k2 with e | e | e | e | e <;> subst e <;> rfl
    · rw [wk_84, if_pos rfl, m_isRun hm hi h19, ob_s]
      rw [if_neg (show ¬ nI 1 = (0 : Int32) by decide), wk_84, if_pos rfl, m_kindIn (by omega) h60, ob_s]
  · refine ⟨-1000001, ?_, ?_⟩
    · rw [wk_3, if_pos rfl, e_isRun0 hm hx h9, ob_s]; rfl
    · rw [wk_84, if_pos rfl, m_isRun0 hm hx h19, ob_s]; rfl
def isK (t K : Nat) : Bool := decide (t = 0) || decide (t = K) || (decide (t = 1) && decide (K < 4)) || (decide (t = 4) && decide (K = 5))
theorem e_isOf {q t : Nat} {h : xH} (h1 : 1 ≤ K) (h2 : K ≤ 5) (hk : xk h q = some (kC K)) (ht : t ≤ 5) : f_X11_isOfKind q (nI t) h = some (nI (isK t K).toNat, h) := by
  unfold f_X11_isOfKind xio
  rw [hk]
  rcases (show t = 0 ∨ t = 1 ∨ t = 2 ∨ t = 3 ∨ t = 4 ∨ t = 5 by omega) with e | e | e | e | e | e <;> subst e <;> rcases K5 h1 h2 with e | e | e | e | e <;> subst e <;> rfl
theorem m_isOf : ∀ t, t < 6 → ∀ K, K < 6 → 1 ≤ K → (if nI t = 0 then (1 : Int32) else (if nI t = nI K then (1 : Int32) else (if nI t = (1 : Int32) then (if nI K < (4 : Int32) then (1 : Int32) else (if nI t = (4 : Int32) then (if nI K = (5 : Int32) then (1 : Int32) else (0 : Int32)) else (0 : Int32))) else (if nI t = (4 : Int32) then (if nI K = (5 : Int32) then (1 : Int32) else (0 : Int32)) else (0 : Int32))))) = nI (isK t K).toNat := by decide
theorem o_as (R : Rel g r rs) (x y : Int32) : Op L xs g r rs (f_X11_as 3 x y) (f_X12_as 84 x y) := by
  rcases sRn R.run x with ⟨m, i, a, K, len, hm, hi, rfl, h9, h19, hr, k1, k2, hl, ho, h60, h61⟩ | ⟨m, hm, h9, h19, hx⟩
  · have n1 : ¬ nI 1 = (0 : Int32) := by decide
    rcases a_sp y with hy | ⟨t, ht, rfl⟩
    · refine RO.op ?_ R
      unfold RO f_X11_as f_X12_as
      refine ⟨-1000001, ?_, ?_⟩
      · rw [wk_3, if_pos rfl, e_isRun hm hi h9 hr, ob_s, if_neg n1, if_pos (show y < 0 from hy)]
      · rw [wk_84, if_pos rfl, m_isRun hm hi h19, ob_s, if_neg n1, l_0, in_neg hy, ob_s]; rfl
    · by_cases e : t ≤ 5
      · have f9 : ∀ f, gs g 0 11 f 66 19 = nI m := fun f => by rw [gs_n (by omega)]; exact h19
        have f60 : ∀ f, gs g 0 11 f 60 i = nI K := fun f => by rw [gs_n (by omega)]; exact h60
        have c1 : ∀ (g' : xS), f_X11_as 3 (nI i) (nI t) (wH L xs g r rs) = if nI (isK t K).toNat = 0 then f_X11_found 3 (nI 3) (wH L xs g r rs) else f_X11_fine 3 (nI i) (wH L xs g r rs) := by
          intro g'
          unfold f_X11_as
          rw [wk_3, if_pos rfl, e_isRun hm hi h9 hr, ob_s, if_neg n1, if_neg (q_pos ht), if_pos (show nI t ≤ (5 : Int32) by rw [l_5, q_le ht (by omega)]; exact e), wr_3_7, ob_s, xaR_ru (by omega) hr, ob_s, e_isOf k1 k2 (xk_ru ho) e, ob_s]
          dsimp only
          rw [wk_3, if_pos rfl, wr_3_7, ob_s, xaR_ru (by omega) hr, ob_s, xg0_ru k1 k2 ho, ob_s, if_pos rfl]
          rw [show (3 : Int32) = nI 3 from rfl, e_found, e_fine, ob_s, ob_s]
        have c2 : ∀ f, f_X12_as 84 (nI i) (nI t) (wH L xs (gs g 0 11 f) r rs) = if nI (isK t K).toNat = 0 then f_X12_found 84 (nI 3) (wH L xs (gs g 0 11 f) r rs) else f_X12_well 84 (nI i) (wH L xs (gs g 0 11 f) r rs) := by
          intro f
          unfold f_X12_as
          rw [wk_84, if_pos rfl, m_isRun hm hi (f9 f), ob_s, if_neg n1, l_0, l_5, in_n ht (by omega), if_pos e, ob_s]
          dsimp only
          rw [if_neg (show ¬ nI 1 = nI 0 by decide), wk_84, if_pos rfl, m_kindIn (by omega) (f60 f), ob_s]
          dsimp only
          have mm := m_isOf t (by omega) K (by omega) k1
          rw [l_0, l_5] at mm
          rw [mm, wk_84, if_pos rfl, if_pos rfl]
          rw [show (3 : Int32) = nI 3 from rfl, m_found, m_well, ob_s, ob_s]
        cases hb : isK t K with
        | false =>
          refine fnd_n (f := 3) _ _ R ?_ ?_
          · rw [c1 g, hb, if_pos (by decide), e_found]
          · rw [c2, hb, if_pos (by decide), m_found]
        | true =>
          refine ⟨nI i, gs g 0 11 (nI 0), r, rs, gs (gs g 0 11 (nI 0)) 66 4 (nI 0), ?_, ?_, st_rel R (nI 0), by omega, by omega⟩
          · rw [c1 g, hb, if_neg (show ¬ nI true.toNat = 0 by decide), e_fine]
          · rw [c2, hb, if_neg (show ¬ nI true.toNat = 0 by decide), m_well]
      · refine RO.op ?_ R
        unfold RO f_X11_as f_X12_as
        refine ⟨-1000001, ?_, ?_⟩
        · rw [wk_3, if_pos rfl, e_isRun hm hi h9 hr, ob_s, if_neg n1, if_neg (q_pos ht), if_neg (show ¬ nI t ≤ (5 : Int32) by rw [l_5, q_le ht (by omega)]; exact e)]
        · rw [wk_84, if_pos rfl, m_isRun hm hi h19, ob_s, if_neg n1, l_0, l_5, in_n ht (by omega), if_neg e, ob_s]; rfl
  · refine RO.op ?_ R
    unfold RO f_X11_as f_X12_as
    refine ⟨-1000001, ?_, ?_⟩
    · rw [wk_3, if_pos rfl, e_isRun0 hm hx h9, ob_s]; rfl
    · rw [wk_84, if_pos rfl, m_isRun0 hm hx h19, ob_s]; rfl
end RUNS
