def drX (X : Nat) : Nat := X * 16807 % 2147483647
/-- the bits after t draws -/
def drQ (n : Nat) : Nat → Nat → (Nat → Bool) → Nat → Bool
  | 0, _, q => q
  | t + 1, X, q => drQ n t (drX X) (fun k => if k = drX X % n then !q (drX X % n) else q k)
theorem drX_lt (X : Nat) : drX X < 2147483647 := Nat.mod_lt _ (by decide)
theorem dr_x {X : Nat} (h : X < 2147483648) : (lN X * (16807 : Int64)) - (lN X * (16807 : Int64)) / (2147483647 : Int64) * (2147483647 : Int64) = lN (drX X) := by
  rw [show (16807 : Int64) = lN 16807 from rfl, lN_mul, show (2147483647 : Int64) = lN 2147483647 from rfl, pk_lRem (by omega) (by omega) (by omega)]
  rfl
theorem dr_p {Y n : Nat} (h : Y < 2147483648) (h0 : 0 < n) (hn : n ≤ 480) : ((lN Y) - (lN Y) / (nI n).toInt64 * (nI n).toInt64).toInt32 = nI (Y % n) := by
  rw [nI_l (by omega), pk_lRem (by omega) h0 (by omega), lN_i]
theorem dr_z {n : Nat} (h0 : 0 < n) (hn : n ≤ 480) : ¬ (nI n).toInt64 = 0 := by
  rw [nI_l (by omega), show (0 : Int64) = lN 0 from rfl, pk_lEQ (by omega) (by omega)]
  omega
theorem b_flip (b : Bool) : (1 : Int32) - nI b.toNat = nI (!b).toNat := by cases b <;> decide
section DRAWN
variable {L : Nat} {xs : Nat → Int32} {g : xS} {r : Nat → Option Nat} {rs : xH} {v n : Nat} {p : Nat → Bool}
theorem wi8 : xgI [1] (wH L xs g r rs) 8 1 = some (g 1 0) := rfl
theorem edr_L (h0 : 0 < n) (z : Int32) {N : Nat} (hN : N ≤ 200) : ∀ t m k X g q, k + t = N → t < m → X < 2147483648 → vOK g 0 n q → ∃ g' y, f_X11_drawn_L63 m 3 (nI N) z (lN X) (nI k) (wH L xs g r rs) = some (y, nI N, wH L xs g' r rs) ∧ vOK g' 0 n (drQ n t X q) ∧ vFr 0 g g' := by
  intro t
  induction t with
  | zero =>
    intro m k X g q h1 h2 h3 hq
    obtain ⟨m, rfl⟩ : ∃ j, m = j + 1 := ⟨m - 1, by omega⟩
    have : k = N := by omega
    subst this
    refine ⟨g, lN X, ?_, hq, vFr.rfl'⟩
    unfold f_X11_drawn_L63
    rw [if_pos (Int32.le_refl _)]
  | succ t ih =>
    intro m k X g q h1 h2 h3 hq
    obtain ⟨m, rfl⟩ : ∃ j, m = j + 1 := ⟨m - 1, by omega⟩
    have hn := hq.1
    have hP := Nat.mod_lt (drX X) h0
    have hX := drX_lt X
    obtain ⟨g1, a1, a2, a3⟩ := e_write (L := L) (xs := xs) (r := r) (rs := rs) (j := 0) (by omega) hq hP (!q (drX X % n))
    obtain ⟨g', y, b1, b2, b3⟩ := ih m (k + 1) (drX X) g1 _ (by omega) (by omega) (by omega) a2
    refine ⟨g', y, ?_, b2, a3.trans b3⟩
    have a1' : f_X1_write 8 (nI (drX X % n)) (nI (!q (drX X % n)).toNat) (wH L xs g r rs) = some (wH L xs g1 r rs) := a1
    have bt : f_X1_bitAt 8 (nI (drX X % n)) (wH L xs g r rs) = some (nI (q (drX X % n)).toNat, wH L xs g r rs) := e_bitAt (j := 0) (by omega) hq hP
    have h8 : ¬ nI n ≤ (0 : Int32) := by rw [l_0, q_le (by omega) (by omega)]; omega
    unfold f_X11_drawn_L63
    rw [if_neg (show ¬ nI N ≤ nI k by rw [q_le (by omega) (by omega)]; omega), wr_3_4, ob_s, wi8, ob_s, hq.2.1, if_neg h8, ob_s, wi8, ob_s, hq.2.1, if_neg (dr_z h0 hn), ob_s, ob_s, wk8, if_pos rfl, dr_x h3, dr_p (by omega) h0 hn, bt, ob_s]
    dsimp only
    rw [wk8, if_pos rfl, b_flip, a1', ob_s, l_1, q_add, b1]
theorem mdr_L (hv : v < 4) (hn : n ≤ 480) (h0 : 0 < n) (z : Int32) {N : Nat} (hN : N ≤ 200) : ∀ t m k X g q, k + t = N → t < m → X < 2147483648 → mM g 56 (33 * v) q → ∃ g' y, f_X12_drawn_L68 m 84 (nI v) (nI N) z (nI n) (lN X) (nI k) (wH L xs g r rs) = some (y, nI N, wH L xs g' r rs) ∧ mM g' 56 (33 * v) (drQ n t X q) ∧ mFr 56 (33 * v + 1) (33 * v + 33) g g' := by
  intro t
  induction t with
  | zero =>
    intro m k X g q h1 h2 h3 hq
    obtain ⟨m, rfl⟩ : ∃ j, m = j + 1 := ⟨m - 1, by omega⟩
    have : k = N := by omega
    subst this
    refine ⟨g, lN X, ?_, hq, mFr.rfl'⟩
    unfold f_X12_drawn_L68
    rw [if_pos (Int32.le_refl _)]
  | succ t ih =>
    intro m k X g q h1 h2 h3 hq
    obtain ⟨m, rfl⟩ : ∃ j, m = j + 1 := ⟨m - 1, by omega⟩
    have hP := Nat.mod_lt (drX X) h0
    have hX := drX_lt X
    obtain ⟨g1, a1, a2, a3⟩ := m_puts (L := L) (xs := xs) (r := r) (rs := rs) hr91 hw91 hv hq (show drX X % n < 480 by omega) (!q (drX X % n))
    obtain ⟨g', y, b1, b2, b3⟩ := ih m (k + 1) (drX X) g1 _ (by omega) (by omega) (by omega) a2
    refine ⟨g', y, ?_, b2, a3.trans b3⟩
    have h8 : ¬ nI n ≤ (0 : Int32) := by rw [l_0, q_le (by omega) (by omega)]; omega
    unfold f_X12_drawn_L68
    rw [if_neg (show ¬ nI N ≤ nI k by rw [q_le (by omega) (by omega)]; omega), if_neg h8, if_neg (dr_z h0 hn), wr_84_14, ob_s, ob_s, dr_x h3, dr_p (by omega) h0 hn, m_bit hr91 hv hq (by omega), ob_s]
    dsimp only
    rw [b_flip, a1, ob_s, l_1, q_add, b1]
/-- no bits: nothing is drawn -/
theorem edr_0 (m : Nat) (z : Int32) (X : Int64) {N : Nat} (hN : N ≤ 200) (h : g 1 0 = nI 0) : f_X11_drawn_L63 (m + 1) 3 (nI N) z X (nI 0) (wH L xs g r rs) = some (X, nI 0, wH L xs g r rs) := by
  unfold f_X11_drawn_L63
  by_cases e : N = 0
  · subst e
    rw [if_pos (Int32.le_refl _)]
  · rw [if_neg (show ¬ nI N ≤ nI 0 by rw [q_le (by omega) (by omega)]; omega), wr_3_4, ob_s, wi8, ob_s, h, if_pos (by decide)]
theorem mdr_0 (m : Nat) (z : Int32) (X : Int64) {N : Nat} (hN : N ≤ 200) (x : Int32) : f_X12_drawn_L68 (m + 1) 84 x (nI N) z (nI 0) X (nI 0) (wH L xs g r rs) = some (X, nI 0, wH L xs g r rs) := by
  unfold f_X12_drawn_L68
  by_cases e : N = 0
  · subst e
    rw [if_pos (Int32.le_refl _)]
  · rw [if_neg (show ¬ nI N ≤ nI 0 by rw [q_le (by omega) (by omega)]; omega), if_pos (by decide)]
/-- both, whatever there is to draw from -/
theorem edr (z : Int32) {N X : Nat} (hN : N ≤ 200) (hX : X < 2147483648) (hq : vOK g 0 n p) : ∃ g' y u, f_X11_drawn_L63 xN 3 (nI N) z (lN X) (nI 0) (wH L xs g r rs) = some (y, u, wH L xs g' r rs) ∧ vOK g' 0 n (if n = 0 then p else drQ n N X p) ∧ vFr 0 g g' := by
  by_cases e : n = 0
  · subst e
    exact ⟨g, _, _, edr_0 1999 z _ hN hq.2.1, by rw [if_pos rfl]; exact hq, vFr.rfl'⟩
  · obtain ⟨g', y, a1, a2, a3⟩ := edr_L (L := L) (xs := xs) (r := r) (rs := rs) (show 0 < n by omega) z hN N xN 0 X g p (by omega) (by unfold xN; omega) hX hq
    exact ⟨g', y, _, a1, by rw [if_neg e]; exact a2, a3⟩
theorem mdr (hv : v < 4) (hn : n ≤ 480) (z : Int32) {N X : Nat} (hN : N ≤ 200) (hX : X < 2147483648) (hq : mM g 56 (33 * v) p) : ∃ g' y u, f_X12_drawn_L68 xN 84 (nI v) (nI N) z (nI n) (lN X) (nI 0) (wH L xs g r rs) = some (y, u, wH L xs g' r rs) ∧ mM g' 56 (33 * v) (if n = 0 then p else drQ n N X p) ∧ mFr 56 (33 * v + 1) (33 * v + 33) g g' := by
  by_cases e : n = 0
  · subst e
    exact ⟨g, _, _, mdr_0 1999 z _ hN _, by rw [if_pos rfl]; exact hq, mFr.rfl'⟩
  · obtain ⟨g', y, a1, a2, a3⟩ := mdr_L (L := L) (xs := xs) (r := r) (rs := rs) hv hn (show 0 < n by omega) z hN N xN 0 X g p (by omega) (by unfold xN; omega) hX hq
    exact ⟨g', y, _, a1, by rw [if_neg e]; exact a2, a3⟩
theorem o_drawn (R : Rel g r rs) (x y z u : Int32) : Op L xs g r rs (f_X11_drawn 3 x y z u) (f_X12_drawn 84 x y z u) := by
  have n1 : ¬ nI 1 = (0 : Int32) := by decide
  have l_m : (999999 : Int32) = nI 999999 := rfl
  rcases sV x with ⟨v, hv, rfl⟩ | ⟨h1, h2⟩
  · obtain ⟨n, p, hc, hm⟩ := R.vec v hv
    have hn := hc.1
    rcases a_sp y with hy | ⟨N, hN, rfl⟩
    · refine RO.op ?_ R
      unfold RO f_X11_drawn f_X12_drawn
      exact ⟨-1000001, by simp (disch := omega) only [q_pos, q_pos', q_lt, q_le, q_eq, q_add, q_sub, q_mul, ob_s, if_pos, if_neg, not_false_eq_true, q_m1', q_div, rm_N, l_0, l_1, l_2, l_3, l_4, l_5, l_6, l_7, l_8, l_10, l_11, l_12, l_13, l_14, l_15, l_16, l_18, l_20, l_21, l_22, l_23, l_24, l_32, l_33, l_40, l_44, l_48, l_57, l_59, l_60, l_63, l_64, l_97, l_98, l_99, l_100, l_111, l_116, l_122, l_132, l_200, l_240, l_255, l_480, l_1000, l_1452, if_true, if_false, true_or, or_true, in_neg, in_m1, in_n, V1, V2, R1, R2, B1, B2, eq_self, wk_3, wk_10, wk_37, wk_42, wr_3_0, wr_3_1, wr_3_2, wr_3_3, wr_3_4, wr_3_5, wr_3_6, wr_3_7, wr_3_8, wi_3_9, wi_3_10, wi_3_11, wp_3_9, wp_3_10, wp_3_11, wr_10_0, wr_10_1, wi_10_2, wi_10_3, wp_10_2, wp_10_3, wr_37_0, wr_37_1, wr_37_2, wi_37_3, wp_37_3, wi_37_4, wp_37_4, wi_37_5, wp_37_5, wi_37_6, wp_37_6, wi_37_7, wp_37_7, wi_37_8, wp_37_8, wr_42_0, wi_42_1, wp_42_1, wk_84, wr_84_0, wr_84_1, wr_84_2, wr_84_3, wr_84_5, wr_84_13, wr_84_14, wr_84_15, wr_84_17, wr_84_18, wr_84_20, wr_84_21, wr_84_23, wr_84_24, wr_84_25, wr_84_26, wi_84_4, wp_84_4, wi_84_6, wp_84_6, wi_84_7, wp_84_7, wi_84_8, wp_84_8, wi_84_9, wp_84_9, wi_84_10, wp_84_10, wi_84_11, wp_84_11, wi_84_12, wp_84_12, wi_84_16, wp_84_16, wi_84_19, wp_84_19, wi_84_22, wp_84_22, wi_84_27, wp_84_27, wq5v, wkv, wiv, wrv, wav', ng1 hy], by simp (disch := omega) only [q_pos, q_pos', q_lt, q_le, q_eq, q_add, q_sub, q_mul, ob_s, if_pos, if_neg, not_false_eq_true, q_m1', q_div, rm_N, l_0, l_1, l_2, l_3, l_4, l_5, l_6, l_7, l_8, l_10, l_11, l_12, l_13, l_14, l_15, l_16, l_18, l_20, l_21, l_22, l_23, l_24, l_32, l_33, l_40, l_44, l_48, l_57, l_59, l_60, l_63, l_64, l_97, l_98, l_99, l_100, l_111, l_116, l_122, l_132, l_200, l_240, l_255, l_480, l_1000, l_1452, if_true, if_false, true_or, or_true, in_neg, in_m1, in_n, V1, V2, R1, R2, B1, B2, eq_self, wk_3, wk_10, wk_37, wk_42, wr_3_0, wr_3_1, wr_3_2, wr_3_3, wr_3_4, wr_3_5, wr_3_6, wr_3_7, wr_3_8, wi_3_9, wi_3_10, wi_3_11, wp_3_9, wp_3_10, wp_3_11, wr_10_0, wr_10_1, wi_10_2, wi_10_3, wp_10_2, wp_10_3, wr_37_0, wr_37_1, wr_37_2, wi_37_3, wp_37_3, wi_37_4, wp_37_4, wi_37_5, wp_37_5, wi_37_6, wp_37_6, wi_37_7, wp_37_7, wi_37_8, wp_37_8, wr_42_0, wi_42_1, wp_42_1, wk_84, wr_84_0, wr_84_1, wr_84_2, wr_84_3, wr_84_5, wr_84_13, wr_84_14, wr_84_15, wr_84_17, wr_84_18, wr_84_20, wr_84_21, wr_84_23, wr_84_24, wr_84_25, wr_84_26, wi_84_4, wp_84_4, wi_84_6, wp_84_6, wi_84_7, wp_84_7, wi_84_8, wp_84_8, wi_84_9, wp_84_9, wi_84_10, wp_84_10, wi_84_11, wp_84_11, wi_84_12, wp_84_12, wi_84_16, wp_84_16, wi_84_19, wp_84_19, wi_84_22, wp_84_22, wi_84_27, wp_84_27, wq5v, wkv, wiv, wrv, wav', in_neg hy]⟩
    · by_cases e1 : N ≤ 200
      · rcases a_sp z with hz | ⟨X, hX, rfl⟩
        · refine RO.op ?_ R
          unfold RO f_X11_drawn f_X12_drawn
          exact ⟨-1000001, by simp (disch := omega) only [q_pos, q_pos', q_lt, q_le, q_eq, q_add, q_sub, q_mul, ob_s, if_pos, if_neg, not_false_eq_true, q_m1', q_div, rm_N, l_0, l_1, l_2, l_3, l_4, l_5, l_6, l_7, l_8, l_10, l_11, l_12, l_13, l_14, l_15, l_16, l_18, l_20, l_21, l_22, l_23, l_24, l_32, l_33, l_40, l_44, l_48, l_57, l_59, l_60, l_63, l_64, l_97, l_98, l_99, l_100, l_111, l_116, l_122, l_132, l_200, l_240, l_255, l_480, l_1000, l_1452, if_true, if_false, true_or, or_true, in_neg, in_m1, in_n, V1, V2, R1, R2, B1, B2, eq_self, wk_3, wk_10, wk_37, wk_42, wr_3_0, wr_3_1, wr_3_2, wr_3_3, wr_3_4, wr_3_5, wr_3_6, wr_3_7, wr_3_8, wi_3_9, wi_3_10, wi_3_11, wp_3_9, wp_3_10, wp_3_11, wr_10_0, wr_10_1, wi_10_2, wi_10_3, wp_10_2, wp_10_3, wr_37_0, wr_37_1, wr_37_2, wi_37_3, wp_37_3, wi_37_4, wp_37_4, wi_37_5, wp_37_5, wi_37_6, wp_37_6, wi_37_7, wp_37_7, wi_37_8, wp_37_8, wr_42_0, wi_42_1, wp_42_1, wk_84, wr_84_0, wr_84_1, wr_84_2, wr_84_3, wr_84_5, wr_84_13, wr_84_14, wr_84_15, wr_84_17, wr_84_18, wr_84_20, wr_84_21, wr_84_23, wr_84_24, wr_84_25, wr_84_26, wi_84_4, wp_84_4, wi_84_6, wp_84_6, wi_84_7, wp_84_7, wi_84_8, wp_84_8, wi_84_9, wp_84_9, wi_84_10, wp_84_10, wi_84_11, wp_84_11, wi_84_12, wp_84_12, wi_84_16, wp_84_16, wi_84_19, wp_84_19, wi_84_22, wp_84_22, wi_84_27, wp_84_27, wq5v, wkv, wiv, wrv, wav', ng1 hz], by simp (disch := omega) only [q_pos, q_pos', q_lt, q_le, q_eq, q_add, q_sub, q_mul, ob_s, if_pos, if_neg, not_false_eq_true, q_m1', q_div, rm_N, l_0, l_1, l_2, l_3, l_4, l_5, l_6, l_7, l_8, l_10, l_11, l_12, l_13, l_14, l_15, l_16, l_18, l_20, l_21, l_22, l_23, l_24, l_32, l_33, l_40, l_44, l_48, l_57, l_59, l_60, l_63, l_64, l_97, l_98, l_99, l_100, l_111, l_116, l_122, l_132, l_200, l_240, l_255, l_480, l_1000, l_1452, if_true, if_false, true_or, or_true, in_neg, in_m1, in_n, V1, V2, R1, R2, B1, B2, eq_self, wk_3, wk_10, wk_37, wk_42, wr_3_0, wr_3_1, wr_3_2, wr_3_3, wr_3_4, wr_3_5, wr_3_6, wr_3_7, wr_3_8, wi_3_9, wi_3_10, wi_3_11, wp_3_9, wp_3_10, wp_3_11, wr_10_0, wr_10_1, wi_10_2, wi_10_3, wp_10_2, wp_10_3, wr_37_0, wr_37_1, wr_37_2, wi_37_3, wp_37_3, wi_37_4, wp_37_4, wi_37_5, wp_37_5, wi_37_6, wp_37_6, wi_37_7, wp_37_7, wi_37_8, wp_37_8, wr_42_0, wi_42_1, wp_42_1, wk_84, wr_84_0, wr_84_1, wr_84_2, wr_84_3, wr_84_5, wr_84_13, wr_84_14, wr_84_15, wr_84_17, wr_84_18, wr_84_20, wr_84_21, wr_84_23, wr_84_24, wr_84_25, wr_84_26, wi_84_4, wp_84_4, wi_84_6, wp_84_6, wi_84_7, wp_84_7, wi_84_8, wp_84_8, wi_84_9, wp_84_9, wi_84_10, wp_84_10, wi_84_11, wp_84_11, wi_84_12, wp_84_12, wi_84_16, wp_84_16, wi_84_19, wp_84_19, wi_84_22, wp_84_22, wi_84_27, wp_84_27, wq5v, wkv, wiv, wrv, wav', in_neg1 hz]⟩
        · by_cases e2 : 1 ≤ X ∧ X ≤ 999999
          · rcases a_sp u with hu | ⟨t, ht, rfl⟩
            · refine RO.op ?_ R
              unfold RO f_X11_drawn f_X12_drawn
              exact ⟨-1000001, by simp (disch := omega) only [q_pos, q_pos', q_lt, q_le, q_eq, q_add, q_sub, q_mul, ob_s, if_pos, if_neg, not_false_eq_true, q_m1', q_div, rm_N, l_0, l_1, l_2, l_3, l_4, l_5, l_6, l_7, l_8, l_10, l_11, l_12, l_13, l_14, l_15, l_16, l_18, l_20, l_21, l_22, l_23, l_24, l_32, l_33, l_40, l_44, l_48, l_57, l_59, l_60, l_63, l_64, l_97, l_98, l_99, l_100, l_111, l_116, l_122, l_132, l_200, l_240, l_255, l_480, l_1000, l_1452, if_true, if_false, true_or, or_true, in_neg, in_m1, in_n, V1, V2, R1, R2, B1, B2, eq_self, wk_3, wk_10, wk_37, wk_42, wr_3_0, wr_3_1, wr_3_2, wr_3_3, wr_3_4, wr_3_5, wr_3_6, wr_3_7, wr_3_8, wi_3_9, wi_3_10, wi_3_11, wp_3_9, wp_3_10, wp_3_11, wr_10_0, wr_10_1, wi_10_2, wi_10_3, wp_10_2, wp_10_3, wr_37_0, wr_37_1, wr_37_2, wi_37_3, wp_37_3, wi_37_4, wp_37_4, wi_37_5, wp_37_5, wi_37_6, wp_37_6, wi_37_7, wp_37_7, wi_37_8, wp_37_8, wr_42_0, wi_42_1, wp_42_1, wk_84, wr_84_0, wr_84_1, wr_84_2, wr_84_3, wr_84_5, wr_84_13, wr_84_14, wr_84_15, wr_84_17, wr_84_18, wr_84_20, wr_84_21, wr_84_23, wr_84_24, wr_84_25, wr_84_26, wi_84_4, wp_84_4, wi_84_6, wp_84_6, wi_84_7, wp_84_7, wi_84_8, wp_84_8, wi_84_9, wp_84_9, wi_84_10, wp_84_10, wi_84_11, wp_84_11, wi_84_12, wp_84_12, wi_84_16, wp_84_16, wi_84_19, wp_84_19, wi_84_22, wp_84_22, wi_84_27, wp_84_27, wq5v, wkv, wiv, wrv, wav', l_m, in_1, ng1 hu], by simp (disch := omega) only [q_pos, q_pos', q_lt, q_le, q_eq, q_add, q_sub, q_mul, ob_s, if_pos, if_neg, not_false_eq_true, q_m1', q_div, rm_N, l_0, l_1, l_2, l_3, l_4, l_5, l_6, l_7, l_8, l_10, l_11, l_12, l_13, l_14, l_15, l_16, l_18, l_20, l_21, l_22, l_23, l_24, l_32, l_33, l_40, l_44, l_48, l_57, l_59, l_60, l_63, l_64, l_97, l_98, l_99, l_100, l_111, l_116, l_122, l_132, l_200, l_240, l_255, l_480, l_1000, l_1452, if_true, if_false, true_or, or_true, in_neg, in_m1, in_n, V1, V2, R1, R2, B1, B2, eq_self, wk_3, wk_10, wk_37, wk_42, wr_3_0, wr_3_1, wr_3_2, wr_3_3, wr_3_4, wr_3_5, wr_3_6, wr_3_7, wr_3_8, wi_3_9, wi_3_10, wi_3_11, wp_3_9, wp_3_10, wp_3_11, wr_10_0, wr_10_1, wi_10_2, wi_10_3, wp_10_2, wp_10_3, wr_37_0, wr_37_1, wr_37_2, wi_37_3, wp_37_3, wi_37_4, wp_37_4, wi_37_5, wp_37_5, wi_37_6, wp_37_6, wi_37_7, wp_37_7, wi_37_8, wp_37_8, wr_42_0, wi_42_1, wp_42_1, wk_84, wr_84_0, wr_84_1, wr_84_2, wr_84_3, wr_84_5, wr_84_13, wr_84_14, wr_84_15, wr_84_17, wr_84_18, wr_84_20, wr_84_21, wr_84_23, wr_84_24, wr_84_25, wr_84_26, wi_84_4, wp_84_4, wi_84_6, wp_84_6, wi_84_7, wp_84_7, wi_84_8, wp_84_8, wi_84_9, wp_84_9, wi_84_10, wp_84_10, wi_84_11, wp_84_11, wi_84_12, wp_84_12, wi_84_16, wp_84_16, wi_84_19, wp_84_19, wi_84_22, wp_84_22, wi_84_27, wp_84_27, wq5v, wkv, wiv, wrv, wav', l_m, in_1, in_neg hu]⟩
            · by_cases e3 : t ≤ 1
              · obtain ⟨g1, a1, a2, a3⟩ := e_copyFrom (L := L) (xs := xs) (r := r) (rs := rs) (j := 0) (by omega) (show 13 + v < 25 by omega) hc
                obtain ⟨g2, y2, u2, b1, b2, b3⟩ := edr (L := L) (xs := xs) (r := r) (rs := rs) (nI t) e1 hX a2
                have F := vFr_q (vFr.trans a3 b3)
                obtain ⟨g3, c1, c2, c3, c4⟩ := m_copies (L := L) (xs := xs) (r := r) (rs := rs) (g := g2) (pa := 90) (ca := 55) (NA := 132) (pb := 91) (cb := 56) (NB := 132) (A := 0) (B := 0) (fun _ _ h => wa_90' h) (fun _ _ _ h => wu_91' h) (by omega) (by omega) (by omega)
                have hm2 : mOK g2 55 (33 * v) n p := mOK_eq hm (fun k hk => F _ _ (by omega) (by omega))
                have hm3 : mOK g3 55 (33 * v) n p := mOK_eq hm2 (fun k hk => by rw [c2 55 (by omega)])
                have hm3' : mOK g3 56 (33 * v) n p := mOK_eq hm2 (fun k hk => by
                  have := c3 (33 * v + k) (by omega)
                  rw [Nat.zero_add] at this
                  exact this)
                obtain ⟨g4, y4, u4, d1, d2, d3⟩ := mdr (L := L) (xs := xs) (r := r) (rs := rs) hv hn (nI t) e1 hX hm3'.2.2.2
                have hm4 : mOK g4 56 (33 * v) n (if n = 0 then p else drQ n N X p) := ⟨hn, by rw [d3.2 _ (by omega)]; exact hm3'.2.1, b2.2.2.1, d2⟩
                have ch4 : ∀ k, k < 256 → g4 64 k = CHf k := fun k hk => by
                  rw [d3.1 64 (by omega), c2 64 (by omega), F 64 k (by omega) (by omega)]
                  exact R.ch k hk
                have RR : Rel g4 r rs := rel_scr R (fun c k x1 x2 x3 => by rw [d3.1 c x3, c2 c x3, F c k x1 (by omega)])
                have eX : (nI X).toInt64 = lN X := nI_l (by omega)
                have a1' : f_X1_copyFrom 8 (vO (13 + v)) (wH L xs g r rs) = some (wH L xs g1 r rs) := a1
                have hv0 : f_X1_countOnes 8 (wH L xs g2 r rs) = some (nI (fb_ct (if n = 0 then p else drQ n N X p) n), wH L xs g2 r rs) := e_countOnes (j := 0) (by omega) b2
                have hv1 : f_X1_payloadBits 8 (wH L xs g2 r rs) = some (nI (bgN (if n = 0 then p else drQ n N X p) ((n + 14) / 15)), wH L xs g2 r rs) := e_payloadBits (j := 0) (by omega) b2
                have hA : f_X11_drawn 3 (nI v) (nI N) (nI X) (nI t) (wH L xs g r rs) = some ((if t = 0 then nI (fb_ct (if n = 0 then p else drQ n N X p) n) else nI (bgN (if n = 0 then p else drQ n N X p) ((n + 14) / 15))), wH L xs g2 r rs) := by
                  unfold f_X11_drawn
                  rw [V1 hv, ob_s, if_neg n1, if_neg (q_pos hN), if_neg (show ¬ (200 : Int32) < nI N by rw [l_200, q_lt (by omega) (by omega)]; omega), if_neg (show ¬ nI X < (1 : Int32) by rw [l_1, q_lt (by omega) (by omega)]; omega), if_neg (show ¬ (999999 : Int32) < nI X by rw [l_m, q_lt (by omega) (by omega)]; omega), if_neg (q_pos ht), if_pos (show nI t ≤ (1 : Int32) by rw [l_1, q_le ht (by omega)]; exact e3), wr_3_4, ob_s, wr_3_1, ob_s, wq5v hv, ob_s, wk8, if_pos rfl, a1', ob_s, eX, show (0 : Int32) = nI 0 from rfl, b1, ob_s]
                  dsimp only
                  rw [wr_3_4, ob_s, ob_s, wk8, if_pos rfl, if_pos rfl, hv0, hv1, ob_s, ob_s]
                  rcases (show t = 0 ∨ t = 1 by omega) with e0 | e0 <;> subst e0 <;> rfl
                have hB : f_X12_drawn 84 (nI v) (nI N) (nI X) (nI t) (wH L xs g2 r rs) = some ((if t = 0 then nI (fb_ct (if n = 0 then p else drQ n N X p) n) else nI (bgN (if n = 0 then p else drQ n N X p) ((n + 14) / 15))), wH L xs g4 r rs) := by
                  unfold f_X12_drawn
                  rw [V2 hv, ob_s, if_neg n1, show (0 : Int32) = nI 0 from rfl, l_200, in_n hN (by omega), if_pos e1, ob_s, if_neg (show ¬ nI 1 = nI 0 by decide), l_1, l_m, in_1 hX (by omega), if_pos e2, ob_s, if_neg (show ¬ nI 1 = nI 0 by decide), in_n ht (by omega), if_pos e3, ob_s, if_neg (show ¬ nI 1 = nI 0 by decide), wr_84_13, ob_s, wr_84_14, ob_s, c1, ob_s, wk_84, if_pos rfl, m_bitsOf hv hm3, ob_s, eX, d1, ob_s]
                  dsimp only
                  rw [wr_84_14, ob_s, ob_s, ob_s, m_onesAhead hr91 hv hm4.2.2.2 hn, ob_s, m_blocks hr91 hv hm4, ob_s]
                  dsimp only
                  rw [wk_84, if_pos rfl, m_begins ch4 hr91 hv hm4.2.2.2 (by omega), ob_s]
                  rcases (show t = 0 ∨ t = 1 by omega) with e0 | e0 <;> subst e0 <;> rfl
                exact ⟨_, g2, r, rs, g4, hA, hB, RR, by omega, by omega⟩
              · refine RO.op ?_ R
                unfold RO f_X11_drawn f_X12_drawn
                exact ⟨-1000001, by simp (disch := omega) only [q_pos, q_pos', q_lt, q_le, q_eq, q_add, q_sub, q_mul, ob_s, if_pos, if_neg, not_false_eq_true, q_m1', q_div, rm_N, l_0, l_1, l_2, l_3, l_4, l_5, l_6, l_7, l_8, l_10, l_11, l_12, l_13, l_14, l_15, l_16, l_18, l_20, l_21, l_22, l_23, l_24, l_32, l_33, l_40, l_44, l_48, l_57, l_59, l_60, l_63, l_64, l_97, l_98, l_99, l_100, l_111, l_116, l_122, l_132, l_200, l_240, l_255, l_480, l_1000, l_1452, if_true, if_false, true_or, or_true, in_neg, in_m1, in_n, V1, V2, R1, R2, B1, B2, eq_self, wk_3, wk_10, wk_37, wk_42, wr_3_0, wr_3_1, wr_3_2, wr_3_3, wr_3_4, wr_3_5, wr_3_6, wr_3_7, wr_3_8, wi_3_9, wi_3_10, wi_3_11, wp_3_9, wp_3_10, wp_3_11, wr_10_0, wr_10_1, wi_10_2, wi_10_3, wp_10_2, wp_10_3, wr_37_0, wr_37_1, wr_37_2, wi_37_3, wp_37_3, wi_37_4, wp_37_4, wi_37_5, wp_37_5, wi_37_6, wp_37_6, wi_37_7, wp_37_7, wi_37_8, wp_37_8, wr_42_0, wi_42_1, wp_42_1, wk_84, wr_84_0, wr_84_1, wr_84_2, wr_84_3, wr_84_5, wr_84_13, wr_84_14, wr_84_15, wr_84_17, wr_84_18, wr_84_20, wr_84_21, wr_84_23, wr_84_24, wr_84_25, wr_84_26, wi_84_4, wp_84_4, wi_84_6, wp_84_6, wi_84_7, wp_84_7, wi_84_8, wp_84_8, wi_84_9, wp_84_9, wi_84_10, wp_84_10, wi_84_11, wp_84_11, wi_84_12, wp_84_12, wi_84_16, wp_84_16, wi_84_19, wp_84_19, wi_84_22, wp_84_22, wi_84_27, wp_84_27, wq5v, wkv, wiv, wrv, wav', l_m, in_1], by simp (disch := omega) only [q_pos, q_pos', q_lt, q_le, q_eq, q_add, q_sub, q_mul, ob_s, if_pos, if_neg, not_false_eq_true, q_m1', q_div, rm_N, l_0, l_1, l_2, l_3, l_4, l_5, l_6, l_7, l_8, l_10, l_11, l_12, l_13, l_14, l_15, l_16, l_18, l_20, l_21, l_22, l_23, l_24, l_32, l_33, l_40, l_44, l_48, l_57, l_59, l_60, l_63, l_64, l_97, l_98, l_99, l_100, l_111, l_116, l_122, l_132, l_200, l_240, l_255, l_480, l_1000, l_1452, if_true, if_false, true_or, or_true, in_neg, in_m1, in_n, V1, V2, R1, R2, B1, B2, eq_self, wk_3, wk_10, wk_37, wk_42, wr_3_0, wr_3_1, wr_3_2, wr_3_3, wr_3_4, wr_3_5, wr_3_6, wr_3_7, wr_3_8, wi_3_9, wi_3_10, wi_3_11, wp_3_9, wp_3_10, wp_3_11, wr_10_0, wr_10_1, wi_10_2, wi_10_3, wp_10_2, wp_10_3, wr_37_0, wr_37_1, wr_37_2, wi_37_3, wp_37_3, wi_37_4, wp_37_4, wi_37_5, wp_37_5, wi_37_6, wp_37_6, wi_37_7, wp_37_7, wi_37_8, wp_37_8, wr_42_0, wi_42_1, wp_42_1, wk_84, wr_84_0, wr_84_1, wr_84_2, wr_84_3, wr_84_5, wr_84_13, wr_84_14, wr_84_15, wr_84_17, wr_84_18, wr_84_20, wr_84_21, wr_84_23, wr_84_24, wr_84_25, wr_84_26, wi_84_4, wp_84_4, wi_84_6, wp_84_6, wi_84_7, wp_84_7, wi_84_8, wp_84_8, wi_84_9, wp_84_9, wi_84_10, wp_84_10, wi_84_11, wp_84_11, wi_84_12, wp_84_12, wi_84_16, wp_84_16, wi_84_19, wp_84_19, wi_84_22, wp_84_22, wi_84_27, wp_84_27, wq5v, wkv, wiv, wrv, wav', l_m, in_1]⟩
          · refine RO.op ?_ R
            unfold RO f_X11_drawn f_X12_drawn
            refine ⟨-1000001, ?_, ?_⟩
            · by_cases e4 : X = 0
              · simp (disch := omega) only [q_pos, q_pos', q_lt, q_le, q_eq, q_add, q_sub, q_mul, ob_s, if_pos, if_neg, not_false_eq_true, q_m1', q_div, rm_N, l_0, l_1, l_2, l_3, l_4, l_5, l_6, l_7, l_8, l_10, l_11, l_12, l_13, l_14, l_15, l_16, l_18, l_20, l_21, l_22, l_23, l_24, l_32, l_33, l_40, l_44, l_48, l_57, l_59, l_60, l_63, l_64, l_97, l_98, l_99, l_100, l_111, l_116, l_122, l_132, l_200, l_240, l_255, l_480, l_1000, l_1452, if_true, if_false, true_or, or_true, in_neg, in_m1, in_n, V1, V2, R1, R2, B1, B2, eq_self, wk_3, wk_10, wk_37, wk_42, wr_3_0, wr_3_1, wr_3_2, wr_3_3, wr_3_4, wr_3_5, wr_3_6, wr_3_7, wr_3_8, wi_3_9, wi_3_10, wi_3_11, wp_3_9, wp_3_10, wp_3_11, wr_10_0, wr_10_1, wi_10_2, wi_10_3, wp_10_2, wp_10_3, wr_37_0, wr_37_1, wr_37_2, wi_37_3, wp_37_3, wi_37_4, wp_37_4, wi_37_5, wp_37_5, wi_37_6, wp_37_6, wi_37_7, wp_37_7, wi_37_8, wp_37_8, wr_42_0, wi_42_1, wp_42_1, wk_84, wr_84_0, wr_84_1, wr_84_2, wr_84_3, wr_84_5, wr_84_13, wr_84_14, wr_84_15, wr_84_17, wr_84_18, wr_84_20, wr_84_21, wr_84_23, wr_84_24, wr_84_25, wr_84_26, wi_84_4, wp_84_4, wi_84_6, wp_84_6, wi_84_7, wp_84_7, wi_84_8, wp_84_8, wi_84_9, wp_84_9, wi_84_10, wp_84_10, wi_84_11, wp_84_11, wi_84_12, wp_84_12, wi_84_16, wp_84_16, wi_84_19, wp_84_19, wi_84_22, wp_84_22, wi_84_27, wp_84_27, wq5v, wkv, wiv, wrv, wav', l_m]
              · simp (disch := omega) only [q_pos, q_pos', q_lt, q_le, q_eq, q_add, q_sub, q_mul, ob_s, if_pos, if_neg, not_false_eq_true, q_m1', q_div, rm_N, l_0, l_1, l_2, l_3, l_4, l_5, l_6, l_7, l_8, l_10, l_11, l_12, l_13, l_14, l_15, l_16, l_18, l_20, l_21, l_22, l_23, l_24, l_32, l_33, l_40, l_44, l_48, l_57, l_59, l_60, l_63, l_64, l_97, l_98, l_99, l_100, l_111, l_116, l_122, l_132, l_200, l_240, l_255, l_480, l_1000, l_1452, if_true, if_false, true_or, or_true, in_neg, in_m1, in_n, V1, V2, R1, R2, B1, B2, eq_self, wk_3, wk_10, wk_37, wk_42, wr_3_0, wr_3_1, wr_3_2, wr_3_3, wr_3_4, wr_3_5, wr_3_6, wr_3_7, wr_3_8, wi_3_9, wi_3_10, wi_3_11, wp_3_9, wp_3_10, wp_3_11, wr_10_0, wr_10_1, wi_10_2, wi_10_3, wp_10_2, wp_10_3, wr_37_0, wr_37_1, wr_37_2, wi_37_3, wp_37_3, wi_37_4, wp_37_4, wi_37_5, wp_37_5, wi_37_6, wp_37_6, wi_37_7, wp_37_7, wi_37_8, wp_37_8, wr_42_0, wi_42_1, wp_42_1, wk_84, wr_84_0, wr_84_1, wr_84_2, wr_84_3, wr_84_5, wr_84_13, wr_84_14, wr_84_15, wr_84_17, wr_84_18, wr_84_20, wr_84_21, wr_84_23, wr_84_24, wr_84_25, wr_84_26, wi_84_4, wp_84_4, wi_84_6, wp_84_6, wi_84_7, wp_84_7, wi_84_8, wp_84_8, wi_84_9, wp_84_9, wi_84_10, wp_84_10, wi_84_11, wp_84_11, wi_84_12, wp_84_12, wi_84_16, wp_84_16, wi_84_19, wp_84_19, wi_84_22, wp_84_22, wi_84_27, wp_84_27, wq5v, wkv, wiv, wrv, wav', l_m]
            · simp (disch := omega) only [q_pos, q_pos', q_lt, q_le, q_eq, q_add, q_sub, q_mul, ob_s, if_pos, if_neg, not_false_eq_true, q_m1', q_div, rm_N, l_0, l_1, l_2, l_3, l_4, l_5, l_6, l_7, l_8, l_10, l_11, l_12, l_13, l_14, l_15, l_16, l_18, l_20, l_21, l_22, l_23, l_24, l_32, l_33, l_40, l_44, l_48, l_57, l_59, l_60, l_63, l_64, l_97, l_98, l_99, l_100, l_111, l_116, l_122, l_132, l_200, l_240, l_255, l_480, l_1000, l_1452, if_true, if_false, true_or, or_true, in_neg, in_m1, in_n, V1, V2, R1, R2, B1, B2, eq_self, wk_3, wk_10, wk_37, wk_42, wr_3_0, wr_3_1, wr_3_2, wr_3_3, wr_3_4, wr_3_5, wr_3_6, wr_3_7, wr_3_8, wi_3_9, wi_3_10, wi_3_11, wp_3_9, wp_3_10, wp_3_11, wr_10_0, wr_10_1, wi_10_2, wi_10_3, wp_10_2, wp_10_3, wr_37_0, wr_37_1, wr_37_2, wi_37_3, wp_37_3, wi_37_4, wp_37_4, wi_37_5, wp_37_5, wi_37_6, wp_37_6, wi_37_7, wp_37_7, wi_37_8, wp_37_8, wr_42_0, wi_42_1, wp_42_1, wk_84, wr_84_0, wr_84_1, wr_84_2, wr_84_3, wr_84_5, wr_84_13, wr_84_14, wr_84_15, wr_84_17, wr_84_18, wr_84_20, wr_84_21, wr_84_23, wr_84_24, wr_84_25, wr_84_26, wi_84_4, wp_84_4, wi_84_6, wp_84_6, wi_84_7, wp_84_7, wi_84_8, wp_84_8, wi_84_9, wp_84_9, wi_84_10, wp_84_10, wi_84_11, wp_84_11, wi_84_12, wp_84_12, wi_84_16, wp_84_16, wi_84_19, wp_84_19, wi_84_22, wp_84_22, wi_84_27, wp_84_27, wq5v, wkv, wiv, wrv, wav', l_m, in_1]
      · refine RO.op ?_ R
        unfold RO f_X11_drawn f_X12_drawn
        exact ⟨-1000001, by simp (disch := omega) only [q_pos, q_pos', q_lt, q_le, q_eq, q_add, q_sub, q_mul, ob_s, if_pos, if_neg, not_false_eq_true, q_m1', q_div, rm_N, l_0, l_1, l_2, l_3, l_4, l_5, l_6, l_7, l_8, l_10, l_11, l_12, l_13, l_14, l_15, l_16, l_18, l_20, l_21, l_22, l_23, l_24, l_32, l_33, l_40, l_44, l_48, l_57, l_59, l_60, l_63, l_64, l_97, l_98, l_99, l_100, l_111, l_116, l_122, l_132, l_200, l_240, l_255, l_480, l_1000, l_1452, if_true, if_false, true_or, or_true, in_neg, in_m1, in_n, V1, V2, R1, R2, B1, B2, eq_self, wk_3, wk_10, wk_37, wk_42, wr_3_0, wr_3_1, wr_3_2, wr_3_3, wr_3_4, wr_3_5, wr_3_6, wr_3_7, wr_3_8, wi_3_9, wi_3_10, wi_3_11, wp_3_9, wp_3_10, wp_3_11, wr_10_0, wr_10_1, wi_10_2, wi_10_3, wp_10_2, wp_10_3, wr_37_0, wr_37_1, wr_37_2, wi_37_3, wp_37_3, wi_37_4, wp_37_4, wi_37_5, wp_37_5, wi_37_6, wp_37_6, wi_37_7, wp_37_7, wi_37_8, wp_37_8, wr_42_0, wi_42_1, wp_42_1, wk_84, wr_84_0, wr_84_1, wr_84_2, wr_84_3, wr_84_5, wr_84_13, wr_84_14, wr_84_15, wr_84_17, wr_84_18, wr_84_20, wr_84_21, wr_84_23, wr_84_24, wr_84_25, wr_84_26, wi_84_4, wp_84_4, wi_84_6, wp_84_6, wi_84_7, wp_84_7, wi_84_8, wp_84_8, wi_84_9, wp_84_9, wi_84_10, wp_84_10, wi_84_11, wp_84_11, wi_84_12, wp_84_12, wi_84_16, wp_84_16, wi_84_19, wp_84_19, wi_84_22, wp_84_22, wi_84_27, wp_84_27, wq5v, wkv, wiv, wrv, wav'], by simp (disch := omega) only [q_pos, q_pos', q_lt, q_le, q_eq, q_add, q_sub, q_mul, ob_s, if_pos, if_neg, not_false_eq_true, q_m1', q_div, rm_N, l_0, l_1, l_2, l_3, l_4, l_5, l_6, l_7, l_8, l_10, l_11, l_12, l_13, l_14, l_15, l_16, l_18, l_20, l_21, l_22, l_23, l_24, l_32, l_33, l_40, l_44, l_48, l_57, l_59, l_60, l_63, l_64, l_97, l_98, l_99, l_100, l_111, l_116, l_122, l_132, l_200, l_240, l_255, l_480, l_1000, l_1452, if_true, if_false, true_or, or_true, in_neg, in_m1, in_n, V1, V2, R1, R2, B1, B2, eq_self, wk_3, wk_10, wk_37, wk_42, wr_3_0, wr_3_1, wr_3_2, wr_3_3, wr_3_4, wr_3_5, wr_3_6, wr_3_7, wr_3_8, wi_3_9, wi_3_10, wi_3_11, wp_3_9, wp_3_10, wp_3_11, wr_10_0, wr_10_1, wi_10_2, wi_10_3, wp_10_2, wp_10_3, wr_37_0, wr_37_1, wr_37_2, wi_37_3, wp_37_3, wi_37_4, wp_37_4, wi_37_5, wp_37_5, wi_37_6, wp_37_6, wi_37_7, wp_37_7, wi_37_8, wp_37_8, wr_42_0, wi_42_1, wp_42_1, wk_84, wr_84_0, wr_84_1, wr_84_2, wr_84_3, wr_84_5, wr_84_13, wr_84_14, wr_84_15, wr_84_17, wr_84_18, wr_84_20, wr_84_21, wr_84_23, wr_84_24, wr_84_25, wr_84_26, wi_84_4, wp_84_4, wi_84_6, wp_84_6, wi_84_7, wp_84_7, wi_84_8, wp_84_8, wi_84_9, wp_84_9, wi_84_10, wp_84_10, wi_84_11, wp_84_11, wi_84_12, wp_84_12, wi_84_16, wp_84_16, wi_84_19, wp_84_19, wi_84_22, wp_84_22, wi_84_27, wp_84_27, wq5v, wkv, wiv, wrv, wav']⟩
  · refine RO.op ?_ R
    unfold RO f_X11_drawn f_X12_drawn
    exact ⟨-1000001, by simp (disch := omega) only [q_pos, q_pos', q_lt, q_le, q_eq, q_add, q_sub, q_mul, ob_s, if_pos, if_neg, not_false_eq_true, q_m1', q_div, rm_N, l_0, l_1, l_2, l_3, l_4, l_5, l_6, l_7, l_8, l_10, l_11, l_12, l_13, l_14, l_15, l_16, l_18, l_20, l_21, l_22, l_23, l_24, l_32, l_33, l_40, l_44, l_48, l_57, l_59, l_60, l_63, l_64, l_97, l_98, l_99, l_100, l_111, l_116, l_122, l_132, l_200, l_240, l_255, l_480, l_1000, l_1452, if_true, if_false, true_or, or_true, in_neg, in_m1, in_n, V1, V2, R1, R2, B1, B2, eq_self, wk_3, wk_10, wk_37, wk_42, wr_3_0, wr_3_1, wr_3_2, wr_3_3, wr_3_4, wr_3_5, wr_3_6, wr_3_7, wr_3_8, wi_3_9, wi_3_10, wi_3_11, wp_3_9, wp_3_10, wp_3_11, wr_10_0, wr_10_1, wi_10_2, wi_10_3, wp_10_2, wp_10_3, wr_37_0, wr_37_1, wr_37_2, wi_37_3, wp_37_3, wi_37_4, wp_37_4, wi_37_5, wp_37_5, wi_37_6, wp_37_6, wi_37_7, wp_37_7, wi_37_8, wp_37_8, wr_42_0, wi_42_1, wp_42_1, h1], by simp (disch := omega) only [q_pos, q_pos', q_lt, q_le, q_eq, q_add, q_sub, q_mul, ob_s, if_pos, if_neg, not_false_eq_true, q_m1', q_div, rm_N, l_0, l_1, l_2, l_3, l_4, l_5, l_6, l_7, l_8, l_10, l_11, l_12, l_13, l_14, l_15, l_16, l_18, l_20, l_21, l_22, l_23, l_24, l_32, l_33, l_40, l_44, l_48, l_57, l_59, l_60, l_63, l_64, l_97, l_98, l_99, l_100, l_111, l_116, l_122, l_132, l_200, l_240, l_255, l_480, l_1000, l_1452, if_true, if_false, true_or, or_true, in_neg, in_m1, in_n, V1, V2, R1, R2, B1, B2, eq_self, wk_84, wr_84_0, wr_84_1, wr_84_2, wr_84_3, wr_84_5, wr_84_13, wr_84_14, wr_84_15, wr_84_17, wr_84_18, wr_84_20, wr_84_21, wr_84_23, wr_84_24, wr_84_25, wr_84_26, wi_84_4, wp_84_4, wi_84_6, wp_84_6, wi_84_7, wp_84_7, wi_84_8, wp_84_8, wi_84_9, wp_84_9, wi_84_10, wp_84_10, wi_84_11, wp_84_11, wi_84_12, wp_84_12, wi_84_16, wp_84_16, wi_84_19, wp_84_19, wi_84_22, wp_84_22, wi_84_27, wp_84_27, h2]⟩
end DRAWN
