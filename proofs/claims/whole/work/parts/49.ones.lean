theorem m15' {i : Nat} (hi : i < 2147483648) : nI i - nI i / (15 : Int32) * (15 : Int32) = nI (i % 15) := pk_rem hi (by decide) (by decide)
/-- how many ones among the first places of block b are ahead of place -/
def ctB (p : Nat → Bool) (place b : Nat) : Nat := fb_ct (fun k => decide (15 * b + k < place) && p (15 * b + k)) 15
theorem ctB_sum (p : Nat → Bool) (place : Nat) : ∀ b, fb_sm (ctB p place) b = fb_ct (fun k => decide (k < place) && p k) (15 * b)
  | 0 => rfl
  | b + 1 => by
    rw [fb_sm_succ, ctB_sum p place b, show 15 * (b + 1) = 15 * b + 15 by omega, fb_ct_split]
    rfl
theorem ct_cut {p : Nat → Bool} {place n : Nat} (h : place ≤ n) : fb_ct (fun k => decide (k < place) && p k) n = fb_ct p place := by
  obtain ⟨d, rfl⟩ : ∃ d, n = place + d := ⟨n - place, by omega⟩
  have e2 : fb_ct (fun k => decide (place + k < place) && p (place + k)) d = 0 := fb_ct_zero.mpr (fun k hk => by simp; intro h; omega)
  have e1 : fb_ct (fun k => decide (k < place) && p k) place = fb_ct p place := fb_ct_cong (fun k hk => by simp [hk])
  rw [fb_ct_split, e1, e2, Nat.add_zero]
section ONES
variable {L : Nat} {xs : Nat → Int32} {g : xS} {r : Nat → Option Nat} {rs : xH} {j n i : Nat} {p : Nat → Bool}
theorem mask_ct (p : Nat → Bool) (place b : Nat) : fb_ct (fun k => (mkN p b &&& (2 ^ (min (place - 15 * b) 15) - 1)).testBit k) 15 = ctB p place b := by
  refine fb_ct_cong (fun k hk => ?_)
  rw [Nat.testBit_and, Nat.testBit_two_pow_sub_one, mkN_bit]
  by_cases hk2 : 15 * b + k < place
  · simp [hk, hk2, show k < min (place - 15 * b) 15 by omega]
  · simp [hk2, show ¬ k < min (place - 15 * b) 15 by omega]
theorem ones_L (hj : j < 25) (hv : vOK g j n p) {place : Nat} (hp : place ≤ 480) : ∀ (m k sum : Nat), k ≤ 32 → 32 < k + m → f_X1_onesAhead_L4 m (vO j) (nI place) (nI sum) (nI k) (wH L xs g r rs) = some (nI (sum + (fb_sm (ctB p place) 32 - fb_sm (ctB p place) k)), nI 32, wH L xs g r rs) := by
  obtain ⟨h1, h2, h3, h4⟩ := hv
  intro m
  induction m with
  | zero => intro k s h1 h2; omega
  | succ m ih =>
    intro k s h1 h2
    unfold f_X1_onesAhead_L4
    by_cases hk : k = 32
    · subst hk
      simp (disch := omega) only [q_pos, q_pos', q_lt, q_le, q_eq, q_add, q_sub, q_mul, Option.bind_some, if_pos, if_neg, not_false_eq_true, q_m1', q_div, rm_N, l_0, l_1, l_2, l_3, l_4, l_5, l_6, l_7, l_8, l_10, l_11, l_12, l_13, l_14, l_15, l_16, l_18, l_20, l_21, l_22, l_23, l_24, l_32, l_33, l_40, l_44, l_48, l_57, l_59, l_60, l_63, l_64, l_97, l_98, l_99, l_100, l_111, l_116, l_122, l_132, l_200, l_240, l_255, l_480, l_1000, l_1452]
      rw [Nat.sub_self, Nat.add_zero]
    · have hb : mkN p k &&& (2 ^ (min (place - 15 * k) 15) - 1) < 32768 := Nat.lt_of_le_of_lt Nat.and_le_left (mkN_lt p k)
      simp (disch := omega) only [q_pos, q_pos', q_lt, q_le, q_eq, q_add, q_sub, q_mul, Option.bind_some, if_pos, if_neg, not_false_eq_true, q_m1', q_div, rm_N, l_0, l_1, l_2, l_3, l_4, l_5, l_6, l_7, l_8, l_10, l_11, l_12, l_13, l_14, l_15, l_16, l_18, l_20, l_21, l_22, l_23, l_24, l_32, l_33, l_40, l_44, l_48, l_57, l_59, l_60, l_63, l_64, l_97, l_98, l_99, l_100, l_111, l_116, l_122, l_132, l_200, l_240, l_255, l_480, l_1000, l_1452, wrv hj, wav' hj, h4, e_first, nx_and, e_bitCount hb, mask_ct]
      rw [ih (k + 1) (s + ctB p place k) (by omega) (by omega)]
      have hm := fb_sm_part (ctB p place) (show k < 32 by omega)
      have hs := fb_sm_succ (ctB p place) k
      congr 2
      congr 1
      omega
theorem e_onesAhead (hj : j < 25) (hv : vOK g j n p) {place : Nat} (hp : place ≤ 480) : f_X1_onesAhead (vO j) (nI place) (wH L xs g r rs) = some (nI (fb_ct p place), wH L xs g r rs) := by
  unfold f_X1_onesAhead
  rw [l_0, ones_L hj hv hp xN 0 0 (by omega) (by decide), Option.bind_some, ctB_sum, ct_cut (by omega)]
  simp [fb_sm]
theorem e_countOnes (hj : j < 25) (hv : vOK g j n p) : f_X1_countOnes (vO j) (wH L xs g r rs) = some (nI (fb_ct p n), wH L xs g r rs) := by
  unfold f_X1_countOnes
  rw [wiv hj, Option.bind_some, hv.2.1, wkv hj, if_pos rfl, e_onesAhead hj hv hv.1, Option.bind_some]
theorem e_blockCount (hj : j < 25) (hv : vOK g j n p) : f_X1_blockCount (vO j) (wH L xs g r rs) = some (nI ((n + 14) / 15), wH L xs g r rs) := by
  obtain ⟨h1, h2, h3, h4⟩ := hv
  unfold f_X1_blockCount
  simp (disch := omega) only [q_pos, q_pos', q_lt, q_le, q_eq, q_add, q_sub, q_mul, Option.bind_some, if_pos, if_neg, not_false_eq_true, q_m1', q_div, rm_N, l_0, l_1, l_2, l_3, l_4, l_5, l_6, l_7, l_8, l_10, l_11, l_12, l_13, l_14, l_15, l_16, l_18, l_20, l_21, l_22, l_23, l_24, l_32, l_33, l_40, l_44, l_48, l_57, l_59, l_60, l_63, l_64, l_97, l_98, l_99, l_100, l_111, l_116, l_122, l_132, l_200, l_240, l_255, l_480, l_1000, l_1452, wiv hj, h2, q_div]
  rfl
theorem e_entryCount (hj : j < 25) (hv : vOK g j n p) : f_X1_entryCount (vO j) (wH L xs g r rs) = some (nI (((n + 14) / 15 + 3) / 4), wH L xs g r rs) := by
  have h1 := hv.1
  unfold f_X1_entryCount
  rw [wkv hj, if_pos rfl, e_blockCount hj hv]
  simp (disch := omega) only [q_pos, q_pos', q_lt, q_le, q_eq, q_add, q_sub, q_mul, Option.bind_some, if_pos, if_neg, not_false_eq_true, q_m1', q_div, rm_N, l_0, l_1, l_2, l_3, l_4, l_5, l_6, l_7, l_8, l_10, l_11, l_12, l_13, l_14, l_15, l_16, l_18, l_20, l_21, l_22, l_23, l_24, l_32, l_33, l_40, l_44, l_48, l_57, l_59, l_60, l_63, l_64, l_97, l_98, l_99, l_100, l_111, l_116, l_122, l_132, l_200, l_240, l_255, l_480, l_1000, l_1452, q_div]
  rfl
/-- the class of a block -/
def clN (p : Nat → Bool) (b : Nat) : Nat := fb_ct (fun k => p (15 * b + k)) 15
theorem clN_le (p : Nat → Bool) (b : Nat) : clN p b ≤ 15 := fb_ct_le _ 15
theorem mk_ct (p : Nat → Bool) (b : Nat) : fb_ct (fun k => (mkN p b).testBit k) 15 = clN p b := fb_ct_cong (fun k hk => by rw [mkN_bit]; simp [hk])
theorem e_classOf (hj : j < 25) (hv : vOK g j n p) {b : Nat} (hb : b < 32) : f_X1_classOf (vO j) (nI b) (wH L xs g r rs) = some (nI (clN p b), wH L xs g r rs) := by
  unfold f_X1_classOf
  rw [wrv hj, Option.bind_some, wav' hj hb, Option.bind_some, hv.2.2.2 b hb, e_bitCount (mkN_lt p b), Option.bind_some, mk_ct]
/-- the widths, as numbers -/
def wdN (c : Nat) : Nat := [0, 4, 7, 9, 11, 12, 13, 13, 13, 13, 12, 11, 9, 7, 4, 0].getD c 0
theorem WDf_N : ∀ c, c < 16 → WDf c = nI (wdN c) := by decide +kernel
theorem wdN_le : ∀ c, wdN c ≤ 13 := by
  intro c
  by_cases h : c < 16
  · have : ∀ c, c < 16 → wdN c ≤ 13 := by decide
    exact this c h
  · have : wdN c = 0 := by
      unfold wdN
      rw [List.getD_eq_getElem?_getD, List.getElem?_eq_none (by simp; omega)]
      rfl
    omega
def bgN (p : Nat → Bool) (b : Nat) : Nat := fb_sm (fun b => wdN (clN p b)) b
theorem bgN_le (p : Nat → Bool) (b : Nat) : bgN p b ≤ b * 13 := fb_sm_bound (fun k _ => wdN_le _)
theorem begin_L (hj : j < 25) (hv : vOK g j n p) {e : Nat} (he : e ≤ 32) : ∀ (m k : Nat), k ≤ e → e < k + m → f_X1_beginOf_L4 m (vO j) (nI e) (nI (bgN p k)) (nI k) (wH L xs g r rs) = some (nI (bgN p e), nI e, wH L xs g r rs) := by
  intro m
  induction m with
  | zero => intro k h1 h2; omega
  | succ m ih =>
    intro k h1 h2
    unfold f_X1_beginOf_L4
    by_cases hk : k = e
    · subst hk
      simp (disch := omega) only [q_pos, q_pos', q_lt, q_le, q_eq, q_add, q_sub, q_mul, Option.bind_some, if_pos, if_neg, not_false_eq_true, q_m1', q_div, rm_N, l_0, l_1, l_2, l_3, l_4, l_5, l_6, l_7, l_8, l_10, l_11, l_12, l_13, l_14, l_15, l_16, l_18, l_20, l_21, l_22, l_23, l_24, l_32, l_33, l_40, l_44, l_48, l_57, l_59, l_60, l_63, l_64, l_97, l_98, l_99, l_100, l_111, l_116, l_122, l_132, l_200, l_240, l_255, l_480, l_1000, l_1452]
    · have hc := clN_le p k
      simp (disch := omega) only [q_pos, q_pos', q_lt, q_le, q_eq, q_add, q_sub, q_mul, Option.bind_some, if_pos, if_neg, not_false_eq_true, q_m1', q_div, rm_N, l_0, l_1, l_2, l_3, l_4, l_5, l_6, l_7, l_8, l_10, l_11, l_12, l_13, l_14, l_15, l_16, l_18, l_20, l_21, l_22, l_23, l_24, l_32, l_33, l_40, l_44, l_48, l_57, l_59, l_60, l_63, l_64, l_97, l_98, l_99, l_100, l_111, l_116, l_122, l_132, l_200, l_240, l_255, l_480, l_1000, l_1452, wkv hj, if_true, e_classOf hj hv, wa_1', WDf_N]
      exact ih (k + 1) (by omega) (by omega)
theorem e_beginOf (hj : j < 25) (hv : vOK g j n p) {e : Nat} (he : e ≤ 32) : f_X1_beginOf (vO j) (nI e) (wH L xs g r rs) = some (nI (bgN p e), wH L xs g r rs) := by
  unfold f_X1_beginOf
  have := begin_L (L := L) (xs := xs) (r := r) (rs := rs) hj hv he xN 0 (by omega) (by unfold xN; omega)
  rw [l_0, show nI 0 = nI (bgN p 0) from rfl]
  rw [show nI (bgN p 0) = nI 0 from rfl] at this ⊢
  rw [this]
  rfl
theorem e_payloadBits (hj : j < 25) (hv : vOK g j n p) : f_X1_payloadBits (vO j) (wH L xs g r rs) = some (nI (bgN p ((n + 14) / 15)), wH L xs g r rs) := by
  have h1 := hv.1
  unfold f_X1_payloadBits
  rw [wkv hj, if_pos rfl, e_blockCount hj hv, Option.bind_some, wkv hj, if_pos rfl, e_beginOf hj hv (by omega)]
  rfl
end ONES
