theorem a_sp (x : Int32) : x < nI 0 ∨ ∃ j, j < 2147483648 ∧ x = nI j := by
  by_cases h : x < 0
  · exact Or.inl h
  · obtain ⟨j, h1, h2⟩ := nI_of h
    exact Or.inr ⟨j, h1, h2⟩
theorem ng1 {x : Int32} {k : Nat} (hx : x < nI 0) (hk : k < 2147483648) : (x < nI k) = True := by
  refine eq_true ?_
  by_cases h : k = 0
  · subst h; exact hx
  · exact Int32.lt_trans hx (nI_lt (by omega) (by omega))
theorem ng2 {x : Int32} {k : Nat} (hx : x < nI 0) (hk : k < 2147483648) : (x ≤ nI k) = True := eq_true (Int32.le_of_lt (of_eq_true (ng1 hx hk)))
theorem ng3 {x : Int32} {k : Nat} (hx : x < nI 0) (hk : k < 2147483648) : (nI k < x) = False := eq_false (Int32.not_lt.mpr (of_eq_true (ng2 hx hk)))
theorem ng4 {x : Int32} {k : Nat} (hx : x < nI 0) (hk : k < 2147483648) : (nI k ≤ x) = False := eq_false (Int32.not_le.mpr (of_eq_true (ng1 hx hk)))
theorem ng5 {x : Int32} {k : Nat} (hx : x < nI 0) (hk : k < 2147483648) : (x = nI k) = False := eq_false (fun h => by
  have := of_eq_true (ng1 hx hk)
  rw [h] at this
  exact Int32.lt_irrefl this)
theorem ng6 {x : Int32} {k : Nat} (hx : x < nI 0) (hk : k < 2147483648) : (nI k = x) = False := eq_false (fun h => of_eq_false (ng5 hx hk) h.symm)
theorem in_neg {x b : Int32} {h : xH} (hx : x < nI 0) : f_X12_in x (nI 0) b h = some (nI 0, h) := by
  unfold f_X12_in
  rw [if_pos hx]
  rfl
theorem in_n {i n : Nat} {h : xH} (hi : i < 2147483648) (hn : n < 2147483648) : f_X12_in (nI i) (nI 0) (nI n) h = some (nI (if i ≤ n then 1 else 0), h) := by
  unfold f_X12_in
  rw [if_neg (show ¬ nI i < nI 0 from q_pos hi)]
  simp only [q_lt hn hi]
  by_cases e : i ≤ n
  · rw [if_neg (by omega), if_pos e]; rfl
  · rw [if_pos (by omega), if_neg e]; rfl
theorem in_m1 {i n : Nat} {h : xH} (hi : i < 2147483648) (hn : n < 2147483648) : f_X12_in (nI i) (nI 0) (nI n - nI 1) h = some (nI (if i < n then 1 else 0), h) := by
  by_cases e : n = 0
  · subst e
    unfold f_X12_in
    rw [if_neg (show ¬ nI i < nI 0 from q_pos hi), if_pos (Int32.lt_of_lt_of_le (show nI 0 - nI 1 < nI 0 by decide) (show nI 0 ≤ nI i from q_pos' hi))]
    rfl
  · rw [q_sub (by omega), in_n hi (by omega)]
    by_cases e2 : i < n
    · rw [if_pos e2, if_pos (by omega)]
    · rw [if_neg e2, if_neg (by omega)]
theorem V1 {v : Nat} {h : xH} (hv : v < 4) : f_X11_isVector (nI v) h = some (nI 1, h) := by
  unfold f_X11_isVector
  simp (disch := omega) only [q_pos, q_pos', q_lt, q_le, q_eq, q_add, q_sub, q_mul, ob_s, if_pos, if_neg, not_false_eq_true, q_m1', q_div, rm_N, l_0, l_1, l_2, l_3, l_4, l_5, l_6, l_7, l_8, l_10, l_11, l_12, l_13, l_14, l_15, l_16, l_18, l_20, l_21, l_22, l_23, l_24, l_32, l_33, l_40, l_44, l_48, l_57, l_59, l_60, l_63, l_64, l_97, l_98, l_99, l_100, l_111, l_116, l_122, l_132, l_200, l_240, l_255, l_480, l_1000, l_1452]
theorem V2 {v : Nat} {h : xH} (hv : v < 4) : f_X12_isVector (nI v) h = some (nI 1, h) := by
  unfold f_X12_isVector
  simp (disch := omega) only [q_pos, q_pos', q_lt, q_le, q_eq, q_add, q_sub, q_mul, ob_s, if_pos, if_neg, not_false_eq_true, q_m1', q_div, rm_N, l_0, l_1, l_2, l_3, l_4, l_5, l_6, l_7, l_8, l_10, l_11, l_12, l_13, l_14, l_15, l_16, l_18, l_20, l_21, l_22, l_23, l_24, l_32, l_33, l_40, l_44, l_48, l_57, l_59, l_60, l_63, l_64, l_97, l_98, l_99, l_100, l_111, l_116, l_122, l_132, l_200, l_240, l_255, l_480, l_1000, l_1452, in_n, or_true, if_true]
theorem R1 {v : Nat} {h : xH} (hv : v < 8) : f_X11_isRow (nI v) h = some (nI 1, h) := by
  unfold f_X11_isRow
  simp (disch := omega) only [q_pos, q_pos', q_lt, q_le, q_eq, q_add, q_sub, q_mul, ob_s, if_pos, if_neg, not_false_eq_true, q_m1', q_div, rm_N, l_0, l_1, l_2, l_3, l_4, l_5, l_6, l_7, l_8, l_10, l_11, l_12, l_13, l_14, l_15, l_16, l_18, l_20, l_21, l_22, l_23, l_24, l_32, l_33, l_40, l_44, l_48, l_57, l_59, l_60, l_63, l_64, l_97, l_98, l_99, l_100, l_111, l_116, l_122, l_132, l_200, l_240, l_255, l_480, l_1000, l_1452]
theorem R2 {v : Nat} {h : xH} (hv : v < 8) : f_X12_isRow (nI v) h = some (nI 1, h) := by
  unfold f_X12_isRow
  simp (disch := omega) only [q_pos, q_pos', q_lt, q_le, q_eq, q_add, q_sub, q_mul, ob_s, if_pos, if_neg, not_false_eq_true, q_m1', q_div, rm_N, l_0, l_1, l_2, l_3, l_4, l_5, l_6, l_7, l_8, l_10, l_11, l_12, l_13, l_14, l_15, l_16, l_18, l_20, l_21, l_22, l_23, l_24, l_32, l_33, l_40, l_44, l_48, l_57, l_59, l_60, l_63, l_64, l_97, l_98, l_99, l_100, l_111, l_116, l_122, l_132, l_200, l_240, l_255, l_480, l_1000, l_1452, in_n, or_true, if_true]
theorem B1 {w : Bool} {h : xH} : f_X11_isValue (nI w.toNat) h = some (nI 1, h) := by
  cases w <;> rfl
theorem B2 {w : Bool} {h : xH} : f_X12_isValue (nI w.toNat) h = some (nI 1, h) := by
  cases w <;> rfl
theorem sV (x : Int32) : (∃ v, v < 4 ∧ x = nI v) ∨ ((∀ h, f_X11_isVector x h = some (nI 0, h)) ∧ ∀ h, f_X12_isVector x h = some (nI 0, h)) := by
  rcases a_sp x with hx | ⟨j, hj, rfl⟩
  · refine Or.inr ⟨fun h => ?_, fun h => ?_⟩
    · unfold f_X11_isVector
      simp (disch := omega) only [q_pos, q_pos', q_lt, q_le, q_eq, q_add, q_sub, q_mul, ob_s, if_pos, if_neg, not_false_eq_true, q_m1', q_div, rm_N, l_0, l_1, l_2, l_3, l_4, l_5, l_6, l_7, l_8, l_10, l_11, l_12, l_13, l_14, l_15, l_16, l_18, l_20, l_21, l_22, l_23, l_24, l_32, l_33, l_40, l_44, l_48, l_57, l_59, l_60, l_63, l_64, l_97, l_98, l_99, l_100, l_111, l_116, l_122, l_132, l_200, l_240, l_255, l_480, l_1000, l_1452, ng1 hx, if_true]
    · unfold f_X12_isVector
      simp (disch := omega) only [q_pos, q_pos', q_lt, q_le, q_eq, q_add, q_sub, q_mul, ob_s, if_pos, if_neg, not_false_eq_true, q_m1', q_div, rm_N, l_0, l_1, l_2, l_3, l_4, l_5, l_6, l_7, l_8, l_10, l_11, l_12, l_13, l_14, l_15, l_16, l_18, l_20, l_21, l_22, l_23, l_24, l_32, l_33, l_40, l_44, l_48, l_57, l_59, l_60, l_63, l_64, l_97, l_98, l_99, l_100, l_111, l_116, l_122, l_132, l_200, l_240, l_255, l_480, l_1000, l_1452, in_neg hx, true_or, if_true]
  · by_cases h : j < 4
    · exact Or.inl ⟨j, h, rfl⟩
    · refine Or.inr ⟨fun h => ?_, fun h => ?_⟩
      · unfold f_X11_isVector
        simp (disch := omega) only [q_pos, q_pos', q_lt, q_le, q_eq, q_add, q_sub, q_mul, ob_s, if_pos, if_neg, not_false_eq_true, q_m1', q_div, rm_N, l_0, l_1, l_2, l_3, l_4, l_5, l_6, l_7, l_8, l_10, l_11, l_12, l_13, l_14, l_15, l_16, l_18, l_20, l_21, l_22, l_23, l_24, l_32, l_33, l_40, l_44, l_48, l_57, l_59, l_60, l_63, l_64, l_97, l_98, l_99, l_100, l_111, l_116, l_122, l_132, l_200, l_240, l_255, l_480, l_1000, l_1452]
      · unfold f_X12_isVector
        simp (disch := omega) only [q_pos, q_pos', q_lt, q_le, q_eq, q_add, q_sub, q_mul, ob_s, if_pos, if_neg, not_false_eq_true, q_m1', q_div, rm_N, l_0, l_1, l_2, l_3, l_4, l_5, l_6, l_7, l_8, l_10, l_11, l_12, l_13, l_14, l_15, l_16, l_18, l_20, l_21, l_22, l_23, l_24, l_32, l_33, l_40, l_44, l_48, l_57, l_59, l_60, l_63, l_64, l_97, l_98, l_99, l_100, l_111, l_116, l_122, l_132, l_200, l_240, l_255, l_480, l_1000, l_1452, in_n, true_or, if_true]
theorem sR (x : Int32) : (∃ v, v < 8 ∧ x = nI v) ∨ ((∀ h, f_X11_isRow x h = some (nI 0, h)) ∧ ∀ h, f_X12_isRow x h = some (nI 0, h)) := by
  rcases a_sp x with hx | ⟨j, hj, rfl⟩
  · refine Or.inr ⟨fun h => ?_, fun h => ?_⟩
    · unfold f_X11_isRow
      simp (disch := omega) only [q_pos, q_pos', q_lt, q_le, q_eq, q_add, q_sub, q_mul, ob_s, if_pos, if_neg, not_false_eq_true, q_m1', q_div, rm_N, l_0, l_1, l_2, l_3, l_4, l_5, l_6, l_7, l_8, l_10, l_11, l_12, l_13, l_14, l_15, l_16, l_18, l_20, l_21, l_22, l_23, l_24, l_32, l_33, l_40, l_44, l_48, l_57, l_59, l_60, l_63, l_64, l_97, l_98, l_99, l_100, l_111, l_116, l_122, l_132, l_200, l_240, l_255, l_480, l_1000, l_1452, ng1 hx, if_true]
    · unfold f_X12_isRow
      simp (disch := omega) only [q_pos, q_pos', q_lt, q_le, q_eq, q_add, q_sub, q_mul, ob_s, if_pos, if_neg, not_false_eq_true, q_m1', q_div, rm_N, l_0, l_1, l_2, l_3, l_4, l_5, l_6, l_7, l_8, l_10, l_11, l_12, l_13, l_14, l_15, l_16, l_18, l_20, l_21, l_22, l_23, l_24, l_32, l_33, l_40, l_44, l_48, l_57, l_59, l_60, l_63, l_64, l_97, l_98, l_99, l_100, l_111, l_116, l_122, l_132, l_200, l_240, l_255, l_480, l_1000, l_1452, in_neg hx, true_or, if_true]
  · by_cases h : j < 8
    · exact Or.inl ⟨j, h, rfl⟩
    · refine Or.inr ⟨fun h => ?_, fun h => ?_⟩
      · unfold f_X11_isRow
        simp (disch := omega) only [q_pos, q_pos', q_lt, q_le, q_eq, q_add, q_sub, q_mul, ob_s, if_pos, if_neg, not_false_eq_true, q_m1', q_div, rm_N, l_0, l_1, l_2, l_3, l_4, l_5, l_6, l_7, l_8, l_10, l_11, l_12, l_13, l_14, l_15, l_16, l_18, l_20, l_21, l_22, l_23, l_24, l_32, l_33, l_40, l_44, l_48, l_57, l_59, l_60, l_63, l_64, l_97, l_98, l_99, l_100, l_111, l_116, l_122, l_132, l_200, l_240, l_255, l_480, l_1000, l_1452]
      · unfold f_X12_isRow
        simp (disch := omega) only [q_pos, q_pos', q_lt, q_le, q_eq, q_add, q_sub, q_mul, ob_s, if_pos, if_neg, not_false_eq_true, q_m1', q_div, rm_N, l_0, l_1, l_2, l_3, l_4, l_5, l_6, l_7, l_8, l_10, l_11, l_12, l_13, l_14, l_15, l_16, l_18, l_20, l_21, l_22, l_23, l_24, l_32, l_33, l_40, l_44, l_48, l_57, l_59, l_60, l_63, l_64, l_97, l_98, l_99, l_100, l_111, l_116, l_122, l_132, l_200, l_240, l_255, l_480, l_1000, l_1452, in_n, true_or, if_true]
theorem sB (x : Int32) : (∃ w : Bool, x = nI w.toNat) ∨ ((∀ h, f_X11_isValue x h = some (nI 0, h)) ∧ ∀ h, f_X12_isValue x h = some (nI 0, h)) := by
  rcases a_sp x with hx | ⟨j, hj, rfl⟩
  · refine Or.inr ⟨fun h => ?_, fun h => ?_⟩
    · unfold f_X11_isValue
      simp (disch := omega) only [q_pos, q_pos', q_lt, q_le, q_eq, q_add, q_sub, q_mul, ob_s, if_pos, if_neg, not_false_eq_true, q_m1', q_div, rm_N, l_0, l_1, l_2, l_3, l_4, l_5, l_6, l_7, l_8, l_10, l_11, l_12, l_13, l_14, l_15, l_16, l_18, l_20, l_21, l_22, l_23, l_24, l_32, l_33, l_40, l_44, l_48, l_57, l_59, l_60, l_63, l_64, l_97, l_98, l_99, l_100, l_111, l_116, l_122, l_132, l_200, l_240, l_255, l_480, l_1000, l_1452, ng5 hx, if_false]
    · unfold f_X12_isValue
      simp (disch := omega) only [q_pos, q_pos', q_lt, q_le, q_eq, q_add, q_sub, q_mul, ob_s, if_pos, if_neg, not_false_eq_true, q_m1', q_div, rm_N, l_0, l_1, l_2, l_3, l_4, l_5, l_6, l_7, l_8, l_10, l_11, l_12, l_13, l_14, l_15, l_16, l_18, l_20, l_21, l_22, l_23, l_24, l_32, l_33, l_40, l_44, l_48, l_57, l_59, l_60, l_63, l_64, l_97, l_98, l_99, l_100, l_111, l_116, l_122, l_132, l_200, l_240, l_255, l_480, l_1000, l_1452, in_neg hx, true_or, if_true]
  · by_cases h0 : j = 0
    · exact Or.inl ⟨false, by rw [h0]; rfl⟩
    · by_cases h1 : j = 1
      · exact Or.inl ⟨true, by rw [h1]; rfl⟩
      · refine Or.inr ⟨fun h => ?_, fun h => ?_⟩
        · unfold f_X11_isValue
          simp (disch := omega) only [q_pos, q_pos', q_lt, q_le, q_eq, q_add, q_sub, q_mul, ob_s, if_pos, if_neg, not_false_eq_true, q_m1', q_div, rm_N, l_0, l_1, l_2, l_3, l_4, l_5, l_6, l_7, l_8, l_10, l_11, l_12, l_13, l_14, l_15, l_16, l_18, l_20, l_21, l_22, l_23, l_24, l_32, l_33, l_40, l_44, l_48, l_57, l_59, l_60, l_63, l_64, l_97, l_98, l_99, l_100, l_111, l_116, l_122, l_132, l_200, l_240, l_255, l_480, l_1000, l_1452]
        · unfold f_X12_isValue
          simp (disch := omega) only [q_pos, q_pos', q_lt, q_le, q_eq, q_add, q_sub, q_mul, ob_s, if_pos, if_neg, not_false_eq_true, q_m1', q_div, rm_N, l_0, l_1, l_2, l_3, l_4, l_5, l_6, l_7, l_8, l_10, l_11, l_12, l_13, l_14, l_15, l_16, l_18, l_20, l_21, l_22, l_23, l_24, l_32, l_33, l_40, l_44, l_48, l_57, l_59, l_60, l_63, l_64, l_97, l_98, l_99, l_100, l_111, l_116, l_122, l_132, l_200, l_240, l_255, l_480, l_1000, l_1452, in_n, true_or, if_true]
section KEEP
variable {L : Nat} {xs : Nat → Int32} {g : xS} {r : Nat → Option Nat} {rs : xH} {n i v w o h : Nat} {p : Nat → Bool}
theorem wq5v (hk : v < 4) : xaR 3 (wH L xs g r rs) 5 (nI v) = some (vO (13 + v)) := by rw [wq_5' hk, wvec hk]
theorem wq6v (hk : v < 8) : xaR 3 (wH L xs g r rs) 6 (nI v) = some (vO (17 + v)) := by rw [wq_6' hk, wimg hk]
theorem wq11v (hk : v < 12) : xaR 3 (wH L xs g r rs) 11 (nI v) = some (vO (1 + v)) := by rw [wq_11' hk, wbef hk]
theorem e_keep (hw : w < 4) (ho : o < 12) (hh : h ≤ 12) (h2 : g 47 2 = nI o) (h3 : g 47 3 = nI h) (hv : vOK g (13 + w) n p) : ∃ g', f_X11_vectorToChange 3 (nI w) (wH L xs g r rs) = some (vO (13 + w), wH L xs g' r rs) ∧ Kp o h w n p g g' ∧ ∀ c k, c ≠ 47 → c ≠ 5 → ¬ (c = 1 ∧ 1 ≤ k ∧ k < 13) → ¬ (21 ≤ c ∧ c < 33) → g' c k = g c k := by
  obtain ⟨g1, e1, e2, e3⟩ := e_copyFrom (L := L) (xs := xs) (r := r) (rs := rs) (show 1 + (o + h) % 12 < 25 by omega) (show 13 + w < 25 by omega) hv
  have f47 : g1 47 = g 47 := e3.1 47 (by omega) (by omega)
  have f5 : g1 5 = g 5 := e3.1 5 (by omega) (by omega)
  have key : ∀ c k, ((c = 5 ∧ k ≠ (o + h) % 12) ∨ (c = 1 ∧ 1 ≤ k ∧ k < 13 ∧ k ≠ 1 + (o + h) % 12) ∨ (21 ≤ c ∧ c < 33 ∧ c ≠ 21 + (o + h) % 12)) → g1 c k = g c k := by
    intro c k hc
    by_cases c1 : c = 1
    · subst c1; exact e3.2 k (by omega)
    · rw [e3.1 c c1 (by omega)]
  have key2 : ∀ c k, c ≠ 47 → c ≠ 5 → ¬ (c = 1 ∧ 1 ≤ k ∧ k < 13) → ¬ (21 ≤ c ∧ c < 33) → g1 c k = g c k := by
    intro c k a1 a2 a3 a4
    by_cases c1 : c = 1
    · subst c1; exact e3.2 k (by omega)
    · rw [e3.1 c c1 (by omega)]
  have e2' : ∀ x y, vOK (gs (gs g1 5 ((o + h) % 12) (nI w)) 47 x y) (1 + (o + h) % 12) n p := fun x y => vOK_eq e2 (by rw [gs_oc (by omega), gs_oc (by omega)]) (fun b _ => by rw [gs_oc (by omega), gs_oc (by omega)])
  by_cases h12 : h < 12
  · refine ⟨gs (gs g1 5 ((o + h) % 12) (nI w)) 47 3 (nI (h + 1)), ?_, ⟨e2' _ _, by rw [gs_oc (by omega), gs_same], by rw [gs_ok (by omega), gs_oc (by omega), f47, if_pos h12]; exact h2, by rw [gs_same, if_pos h12], fun c k hc => ?_⟩, fun c k a1 a2 a3 a4 => ?_⟩
    · unfold f_X11_vectorToChange f_X3_keep
      simp (disch := omega) only [q_pos, q_pos', q_lt, q_le, q_eq, q_add, q_sub, q_mul, ob_s, if_pos, if_neg, not_false_eq_true, q_m1', q_div, rm_N, l_0, l_1, l_2, l_3, l_4, l_5, l_6, l_7, l_8, l_10, l_11, l_12, l_13, l_14, l_15, l_16, l_18, l_20, l_21, l_22, l_23, l_24, l_32, l_33, l_40, l_44, l_48, l_57, l_59, l_60, l_63, l_64, l_97, l_98, l_99, l_100, l_111, l_116, l_122, l_132, l_200, l_240, l_255, l_480, l_1000, l_1452, if_true, if_false, true_or, or_true, in_neg, in_m1, in_n, V1, V2, R1, R2, B1, B2, eq_self, wk_3, wk_10, wk_37, wk_42, wr_3_0, wr_3_1, wr_3_2, wr_3_3, wr_3_4, wr_3_5, wr_3_6, wr_3_7, wr_3_8, wi_3_9, wi_3_10, wi_3_11, wp_3_9, wp_3_10, wp_3_11, wr_10_0, wr_10_1, wi_10_2, wi_10_3, wp_10_2, wp_10_3, wr_37_0, wr_37_1, wr_37_2, wi_37_3, wp_37_3, wi_37_4, wp_37_4, wi_37_5, wp_37_5, wi_37_6, wp_37_6, wi_37_7, wp_37_7, wi_37_8, wp_37_8, wr_42_0, wi_42_1, wp_42_1, wq5v, wq11v, h2, h3, wkv, e1, wu_12', gs_oc, f47]
    · rw [gs_oc (by omega)]
      by_cases c5 : c = 5
      · subst c5; rw [gs_ok (by omega)]; exact key _ _ hc
      · rw [gs_oc c5]; exact key _ _ hc
    · rw [gs_oc a1, gs_oc a2]; exact key2 c k a1 a2 a3 a4
  · have e12 : h = 12 := by omega
    subst e12
    refine ⟨gs (gs g1 5 ((o + 12) % 12) (nI w)) 47 2 (nI ((o + 1) % 12)), ?_, ⟨e2' _ _, by rw [gs_oc (by omega), gs_same], by rw [gs_same, if_neg h12], by rw [gs_ok (by omega), gs_oc (by omega), f47, if_neg h12]; exact h3, fun c k hc => ?_⟩, fun c k a1 a2 a3 a4 => ?_⟩
    · unfold f_X11_vectorToChange f_X3_keep
      simp (disch := omega) only [q_pos, q_pos', q_lt, q_le, q_eq, q_add, q_sub, q_mul, ob_s, if_pos, if_neg, not_false_eq_true, q_m1', q_div, rm_N, l_0, l_1, l_2, l_3, l_4, l_5, l_6, l_7, l_8, l_10, l_11, l_12, l_13, l_14, l_15, l_16, l_18, l_20, l_21, l_22, l_23, l_24, l_32, l_33, l_40, l_44, l_48, l_57, l_59, l_60, l_63, l_64, l_97, l_98, l_99, l_100, l_111, l_116, l_122, l_132, l_200, l_240, l_255, l_480, l_1000, l_1452, if_true, if_false, true_or, or_true, in_neg, in_m1, in_n, V1, V2, R1, R2, B1, B2, eq_self, wk_3, wk_10, wk_37, wk_42, wr_3_0, wr_3_1, wr_3_2, wr_3_3, wr_3_4, wr_3_5, wr_3_6, wr_3_7, wr_3_8, wi_3_9, wi_3_10, wi_3_11, wp_3_9, wp_3_10, wp_3_11, wr_10_0, wr_10_1, wi_10_2, wi_10_3, wp_10_2, wp_10_3, wr_37_0, wr_37_1, wr_37_2, wi_37_3, wp_37_3, wi_37_4, wp_37_4, wi_37_5, wp_37_5, wi_37_6, wp_37_6, wi_37_7, wp_37_7, wi_37_8, wp_37_8, wr_42_0, wi_42_1, wp_42_1, wq5v, wq11v, h2, h3, wkv, e1, wu_12', gs_oc, f47]
    · rw [gs_oc (by omega)]
      by_cases c5 : c = 5
      · subst c5; rw [gs_ok (by omega)]; exact key _ _ hc
      · rw [gs_oc c5]; exact key _ _ hc
    · rw [gs_oc a1, gs_oc a2]; exact key2 c k a1 a2 a3 a4
theorem m_copies_L {pa pb ca cb NA NB A B : Nat} (hr : ∀ g k, k < NA → xaI (wH L xs g r rs) pa (nI k) = some (g ca k)) (hw : ∀ g k x, k < NB → xuI (wH L xs g r rs) pb (nI k) x = some (wH L xs (gs g cb k x) r rs)) (hA : A + 132 ≤ NA) (hB : B + 132 ≤ NB) (hc : ca ≠ cb) : ∀ (m k : Nat) (g : xS), k ≤ 132 → 132 < k + m → ∃ g', f_X12_copies_L3 m pa (nI A) pb (nI B) (nI k) (wH L xs g r rs) = some (nI 132, wH L xs g' r rs) ∧ (∀ c, c ≠ cb → g' c = g c) ∧ (∀ t, k ≤ t → t < 132 → g' cb (B + t) = g ca (A + t)) ∧ ∀ t, (t < B + k ∨ B + 132 ≤ t) → g' cb t = g cb t := by
  intro m
  induction m with
  | zero => intro k g h1 h2; omega
  | succ m ih =>
    intro k g h1 h2
    unfold f_X12_copies_L3
    by_cases hk : k = 132
    · subst hk
      refine ⟨g, ?_, fun _ _ => rfl, fun t h1 h2 => by omega, fun _ _ => rfl⟩
      simp (disch := omega) only [q_pos, q_pos', q_lt, q_le, q_eq, q_add, q_sub, q_mul, ob_s, if_pos, if_neg, not_false_eq_true, q_m1', q_div, rm_N, l_0, l_1, l_2, l_3, l_4, l_5, l_6, l_7, l_8, l_10, l_11, l_12, l_13, l_14, l_15, l_16, l_18, l_20, l_21, l_22, l_23, l_24, l_32, l_33, l_40, l_44, l_48, l_57, l_59, l_60, l_63, l_64, l_97, l_98, l_99, l_100, l_111, l_116, l_122, l_132, l_200, l_240, l_255, l_480, l_1000, l_1452]
    · obtain ⟨g', e1, e2, e3, e4⟩ := ih (k + 1) (gs g cb (B + k) (g ca (A + k))) (by omega) (by omega)
      refine ⟨g', ?_, fun c h => by rw [e2 c h, gs_oc h], fun t h1 h2 => ?_, fun t ht => ?_⟩
      · simp (disch := omega) only [q_pos, q_pos', q_lt, q_le, q_eq, q_add, q_sub, q_mul, ob_s, if_pos, if_neg, not_false_eq_true, q_m1', q_div, rm_N, l_0, l_1, l_2, l_3, l_4, l_5, l_6, l_7, l_8, l_10, l_11, l_12, l_13, l_14, l_15, l_16, l_18, l_20, l_21, l_22, l_23, l_24, l_32, l_33, l_40, l_44, l_48, l_57, l_59, l_60, l_63, l_64, l_97, l_98, l_99, l_100, l_111, l_116, l_122, l_132, l_200, l_240, l_255, l_480, l_1000, l_1452, hr, hw]
        exact e1
      · by_cases ht : t = k
        · subst ht
          rw [e4 (B + t) (by omega), gs_same]
        · rw [e3 t (by omega) h2, gs_oc hc]
      · rw [e4 t (by omega), gs_ok (by omega)]
theorem m_copies {pa pb ca cb NA NB A B : Nat} (hr : ∀ g k, k < NA → xaI (wH L xs g r rs) pa (nI k) = some (g ca k)) (hw : ∀ g k x, k < NB → xuI (wH L xs g r rs) pb (nI k) x = some (wH L xs (gs g cb k x) r rs)) (hA : A + 132 ≤ NA) (hB : B + 132 ≤ NB) (hc : ca ≠ cb) : ∃ g', f_X12_copies pa (nI A) pb (nI B) (wH L xs g r rs) = some (wH L xs g' r rs) ∧ (∀ c, c ≠ cb → g' c = g c) ∧ (∀ t, t < 132 → g' cb (B + t) = g ca (A + t)) ∧ ∀ t, (t < B ∨ B + 132 ≤ t) → g' cb t = g cb t := by
  obtain ⟨g', e1, e2, e3, e4⟩ := m_copies_L hr hw hA hB hc xN 0 g (by omega) (by unfold xN; omega)
  refine ⟨g', ?_, e2, fun t ht => e3 t (by omega) ht, fun t ht => e4 t (by omega)⟩
  unfold f_X12_copies
  rw [l_0, e1]
  rfl
theorem m_notes_L : ∀ (m k : Nat) (g : xS), k ≤ 1452 → 1452 < k + m → ∃ g', f_X12_notes_L11 m 84 (nI k) (wH L xs g r rs) = some (nI 1452, wH L xs g' r rs) ∧ (∀ c, c ≠ 57 → g' c = g c) ∧ (∀ t, k ≤ t → t < 1452 → g' 57 t = g 57 (t + 132)) ∧ ∀ t, (t < k ∨ 1452 ≤ t) → g' 57 t = g 57 t := by
  intro m
  induction m with
  | zero => intro k g h1 h2; omega
  | succ m ih =>
    intro k g h1 h2
    unfold f_X12_notes_L11
    by_cases hk : k = 1452
    · subst hk
      refine ⟨g, ?_, fun _ _ => rfl, fun t h1 h2 => by omega, fun _ _ => rfl⟩
      simp (disch := omega) only [q_pos, q_pos', q_lt, q_le, q_eq, q_add, q_sub, q_mul, ob_s, if_pos, if_neg, not_false_eq_true, q_m1', q_div, rm_N, l_0, l_1, l_2, l_3, l_4, l_5, l_6, l_7, l_8, l_10, l_11, l_12, l_13, l_14, l_15, l_16, l_18, l_20, l_21, l_22, l_23, l_24, l_32, l_33, l_40, l_44, l_48, l_57, l_59, l_60, l_63, l_64, l_97, l_98, l_99, l_100, l_111, l_116, l_122, l_132, l_200, l_240, l_255, l_480, l_1000, l_1452]
    · obtain ⟨g', e1, e2, e3, e4⟩ := ih (k + 1) (gs g 57 k (g 57 (k + 132))) (by omega) (by omega)
      refine ⟨g', ?_, fun c h => by rw [e2 c h, gs_oc h], fun t h1 h2 => ?_, fun t ht => ?_⟩
      · simp (disch := omega) only [q_pos, q_pos', q_lt, q_le, q_eq, q_add, q_sub, q_mul, ob_s, if_pos, if_neg, not_false_eq_true, q_m1', q_div, rm_N, l_0, l_1, l_2, l_3, l_4, l_5, l_6, l_7, l_8, l_10, l_11, l_12, l_13, l_14, l_15, l_16, l_18, l_20, l_21, l_22, l_23, l_24, l_32, l_33, l_40, l_44, l_48, l_57, l_59, l_60, l_63, l_64, l_97, l_98, l_99, l_100, l_111, l_116, l_122, l_132, l_200, l_240, l_255, l_480, l_1000, l_1452, wk_84, wr_84_0, wr_84_1, wr_84_2, wr_84_3, wr_84_5, wr_84_13, wr_84_14, wr_84_15, wr_84_17, wr_84_18, wr_84_20, wr_84_21, wr_84_23, wr_84_24, wr_84_25, wr_84_26, wi_84_4, wp_84_4, wi_84_6, wp_84_6, wi_84_7, wp_84_7, wi_84_8, wp_84_8, wi_84_9, wp_84_9, wi_84_10, wp_84_10, wi_84_11, wp_84_11, wi_84_12, wp_84_12, wi_84_16, wp_84_16, wi_84_19, wp_84_19, wi_84_22, wp_84_22, wi_84_27, wp_84_27, wa_92', wu_92']
        exact e1
      · by_cases ht : t = k
        · subst ht
          rw [e4 t (by omega), gs_same]
        · rw [e3 t (by omega) h2, gs_ok (by omega)]
      · rw [e4 t (by omega), gs_ok (by omega)]
end KEEP
