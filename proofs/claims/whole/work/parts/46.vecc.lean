theorem gs_up {g : xS} {c k : Nat} {f : Nat → Int32} {x : Int32} : gs (va_up g c f) c k x = va_up g c (upd f k x) := by
  funext c'
  unfold gs va_up
  by_cases hc : c' = c <;> simp [hc]
theorem up_self {g : xS} {c : Nat} : va_up g c (g c) = g := by
  funext c'
  unfold va_up
  by_cases hc : c' = c <;> simp [hc]
theorem up_up {g : xS} {c : Nat} {f f' : Nat → Int32} : va_up (va_up g c f) c f' = va_up g c f' := by
  funext c'
  unfold va_up
  by_cases hc : c' = c <;> simp [hc]
theorem upd_s {f : Nat → Int32} {k : Nat} {x : Int32} : upd f k x k = x := by simp [upd]
theorem upd_o {f : Nat → Int32} {k b : Nat} {x : Int32} (h : b ≠ k) : upd f k x b = f b := by simp [upd, h]
section VEC4
variable {L : Nat} {xs : Nat → Int32} {g : xS} {r : Nat → Option Nat} {rs : xH} {j n i : Nat} {p : Nat → Bool}
theorem e_first {h : xH} {t : Nat} (hn : n ≤ 480) (ht : t ≤ 480) : f_X11_firstPlaces (nI n - nI t) h = some (nI (2 ^ (min (n - t) 15) - 1), h) := by
  have hp : ∀ d, d ≤ 15 → ((1 : Int32) <<< (nI d &&& 31)) - 1 = nI (2 ^ d - 1) := by
    intro d hd
    have h2 : 2 ^ d < 4294967296 := Nat.lt_of_lt_of_le (Nat.pow_lt_pow_right (by decide) (by omega : d < 16)) (by decide)
    have h1 : 0 < 2 ^ d := Nat.pow_pos (by decide)
    rw [show (1 : Int32) = nI 1 from rfl, q_shl (by omega) (by rw [Nat.one_mul]; exact h2), Nat.one_shiftLeft, q_sub (by omega)]
  unfold f_X11_firstPlaces
  by_cases h : t ≤ n
  · rw [q_sub h]
    by_cases h15 : 15 < n - t
    · have e : (if (15 : Int32) < nI (n - t) then (15 : Int32) else nI (n - t)) = nI 15 := by
        rw [if_pos (by rw [l_15, q_lt (by omega) (by omega)]; exact h15)]
        rfl
      rw [e, if_pos (by decide), hp 15 (by omega), Nat.min_eq_right (by omega)]
    · have e : (if (15 : Int32) < nI (n - t) then (15 : Int32) else nI (n - t)) = nI (n - t) := by
        rw [if_neg (by rw [l_15, q_lt (by omega) (by omega)]; exact h15)]
      rw [e, Nat.min_eq_left (by omega)]
      by_cases h0 : n - t = 0
      · rw [h0, if_neg (by decide), show (0 : Int32) = nI 0 from rfl, hp 0 (by omega)]
      · rw [if_pos (by rw [l_0, q_lt (by omega) (by omega)]; omega), hp _ (by omega)]
  · have hneg : nI n - nI t < 0 := pk_sneg (by omega) (by omega)
    have e0 : ¬ (15 : Int32) < nI n - nI t := fun z => by
      have z2 := Int32.lt_trans z hneg
      exact absurd z2 (by decide)
    have e1 : ¬ (0 : Int32) < nI n - nI t := fun z => by
      have z2 := Int32.lt_trans z hneg
      exact absurd z2 (by decide)
    rw [if_neg e0, if_neg e1, show (0 : Int32) = nI 0 from rfl, hp 0 (by omega), show n - t = 0 by omega]
    rfl
theorem shorten_L (hj : j < 25) (hn : g 1 j = nI n) (hn2 : n ≤ 480) : ∀ (m k : Nat) (f : Nat → Int32), k ≤ 32 → 32 < k + m → ∃ f', f_X1_shorten_L7 m (vO j) (nI k) (wH L xs (va_up g (20 + j) f) r rs) = some (nI 32, wH L xs (va_up g (20 + j) f') r rs) ∧ (∀ b, k ≤ b → b < 32 → f' b = f b &&& nI (2 ^ (min (n - 15 * b) 15) - 1)) ∧ ∀ b, b < k → f' b = f b := by
  intro m
  induction m with
  | zero => intro k f h1 h2; omega
  | succ m ih =>
    intro k f h1 h2
    unfold f_X1_shorten_L7
    by_cases hk : k = 32
    · subst hk
      simp (disch := omega) only [q_pos, q_pos', q_lt, q_le, q_eq, q_add, q_sub, q_mul, Option.bind_some, if_pos, if_neg, not_false_eq_true, q_m1', q_div, rm_N, l_0, l_1, l_2, l_3, l_4, l_5, l_6, l_7, l_8, l_10, l_11, l_12, l_13, l_14, l_15, l_16, l_18, l_20, l_21, l_22, l_23, l_24, l_32, l_33, l_40, l_44, l_48, l_57, l_59, l_60, l_63, l_64, l_97, l_98, l_99, l_100, l_111, l_116, l_122, l_132, l_200, l_240, l_255, l_480, l_1000, l_1452]
      exact ⟨f, rfl, fun b h1 h2 => by omega, fun b _ => rfl⟩
    · obtain ⟨f', e1, e2, e3⟩ := ih (k + 1) (upd f k (f k &&& nI (2 ^ (min (n - 15 * k) 15) - 1))) (by omega) (by omega)
      have hn' : va_up g (20 + j) f 1 j = nI n := by rw [up_oc (by omega)]; exact hn
      simp (disch := omega) only [q_pos, q_pos', q_lt, q_le, q_eq, q_add, q_sub, q_mul, Option.bind_some, if_pos, if_neg, not_false_eq_true, q_m1', q_div, rm_N, l_0, l_1, l_2, l_3, l_4, l_5, l_6, l_7, l_8, l_10, l_11, l_12, l_13, l_14, l_15, l_16, l_18, l_20, l_21, l_22, l_23, l_24, l_32, l_33, l_40, l_44, l_48, l_57, l_59, l_60, l_63, l_64, l_97, l_98, l_99, l_100, l_111, l_116, l_122, l_132, l_200, l_240, l_255, l_480, l_1000, l_1452, wrv hj, wav' hj, wiv hj, hn', e_first, wuv' hj, gs_up, up_c]
      refine ⟨f', e1, fun b h1 h2 => ?_, fun b hb => ?_⟩
      · by_cases hb : b = k
        · subst hb
          rw [e3 b (by omega), upd_s]
        · rw [e2 b (by omega) h2, upd_o hb]
      · rw [e3 b (by omega), upd_o (by omega)]
theorem e_shorten (hj : j < 25) (hv : vOK g j n p) {m : Nat} (hm : m ≤ n) : ∃ g', f_X1_shorten (vO j) (nI m) (wH L xs g r rs) = some (wH L xs g' r rs) ∧ vOK g' j m (fun k => decide (k < m) && p k) ∧ vFr j g g' := by
  obtain ⟨h1, h2, h3, h4⟩ := hv
  obtain ⟨f', e1, e2, -⟩ := shorten_L (L := L) (xs := xs) (r := r) (rs := rs) (g := gs g 1 j (nI m)) (n := m) hj gs_same (by omega) xN 0 (gs g 1 j (nI m) (20 + j)) (by omega) (by decide)
  rw [up_self] at e1
  refine ⟨va_up (gs g 1 j (nI m)) (20 + j) f', ?_, ⟨by omega, by rw [up_oc (by omega)]; exact gs_same, fun k hk => by simp; omega, fun b hb => ?_⟩, vFr_n.trans vFr_mf⟩
  · unfold f_X1_shorten
    simp only [Option.bind_some, wpv hj]
    rw [l_0, e1]
    rfl
  · rw [up_c, e2 b (Nat.zero_le _) hb, gs_oc (by omega), h4 b hb, nx_and]
    congr 1
    refine mkN_eq (fun k => ?_)
    rw [Nat.testBit_and, Nat.testBit_two_pow_sub_one, mkN_bit]
    by_cases hk : k < 15
    · by_cases hk2 : 15 * b + k < m
      · simp [hk, hk2, show k < min (m - 15 * b) 15 by omega]
      · simp [hk, hk2, show ¬ k < min (m - 15 * b) 15 by omega]
    · simp [hk]
theorem invert_L (hj : j < 25) (hn : g 1 j = nI n) (hn2 : n ≤ 480) : ∀ (m k : Nat) (f : Nat → Int32), k ≤ 32 → 32 < k + m → ∃ f', f_X1_invert_L2 m (vO j) (nI k) (wH L xs (va_up g (20 + j) f) r rs) = some (nI 32, wH L xs (va_up g (20 + j) f') r rs) ∧ (∀ b, k ≤ b → b < 32 → f' b = (f b ^^^ nI 4294967295) &&& nI (2 ^ (min (n - 15 * b) 15) - 1)) ∧ ∀ b, b < k → f' b = f b := by
  intro m
  induction m with
  | zero => intro k f h1 h2; omega
  | succ m ih =>
    intro k f h1 h2
    unfold f_X1_invert_L2
    by_cases hk : k = 32
    · subst hk
      simp (disch := omega) only [q_pos, q_pos', q_lt, q_le, q_eq, q_add, q_sub, q_mul, Option.bind_some, if_pos, if_neg, not_false_eq_true, q_m1', q_div, rm_N, l_0, l_1, l_2, l_3, l_4, l_5, l_6, l_7, l_8, l_10, l_11, l_12, l_13, l_14, l_15, l_16, l_18, l_20, l_21, l_22, l_23, l_24, l_32, l_33, l_40, l_44, l_48, l_57, l_59, l_60, l_63, l_64, l_97, l_98, l_99, l_100, l_111, l_116, l_122, l_132, l_200, l_240, l_255, l_480, l_1000, l_1452]
      exact ⟨f, rfl, fun b h1 h2 => by omega, fun b _ => rfl⟩
    · obtain ⟨f', e1, e2, e3⟩ := ih (k + 1) (upd f k ((f k ^^^ nI 4294967295) &&& nI (2 ^ (min (n - 15 * k) 15) - 1))) (by omega) (by omega)
      have hn' : va_up g (20 + j) f 1 j = nI n := by rw [up_oc (by omega)]; exact hn
      simp (disch := omega) only [q_pos, q_pos', q_lt, q_le, q_eq, q_add, q_sub, q_mul, Option.bind_some, if_pos, if_neg, not_false_eq_true, q_m1', q_div, rm_N, l_0, l_1, l_2, l_3, l_4, l_5, l_6, l_7, l_8, l_10, l_11, l_12, l_13, l_14, l_15, l_16, l_18, l_20, l_21, l_22, l_23, l_24, l_32, l_33, l_40, l_44, l_48, l_57, l_59, l_60, l_63, l_64, l_97, l_98, l_99, l_100, l_111, l_116, l_122, l_132, l_200, l_240, l_255, l_480, l_1000, l_1452, wrv hj, wav' hj, wiv hj, hn', e_first, wuv' hj, gs_up, up_c]
      refine ⟨f', e1, fun b h1 h2 => ?_, fun b hb => ?_⟩
      · by_cases hb : b = k
        · subst hb
          rw [e3 b (by omega), upd_s]
        · rw [e2 b (by omega) h2, upd_o hb]
      · rw [e3 b (by omega), upd_o (by omega)]
theorem e_invert (hj : j < 25) (hv : vOK g j n p) : ∃ g', f_X1_invert (vO j) (wH L xs g r rs) = some (wH L xs g' r rs) ∧ vOK g' j n (fun k => decide (k < n) && !p k) ∧ vFr j g g' := by
  obtain ⟨h1, h2, h3, h4⟩ := hv
  obtain ⟨f', e1, e2, -⟩ := invert_L (L := L) (xs := xs) (r := r) (rs := rs) (g := g) (n := n) hj h2 h1 xN 0 (g (20 + j)) (by omega) (by decide)
  rw [up_self] at e1
  refine ⟨va_up g (20 + j) f', ?_, ⟨by omega, by rw [up_oc (by omega)]; exact h2, fun k hk => by simp; omega, fun b hb => ?_⟩, vFr_mf⟩
  · unfold f_X1_invert
    rw [l_0, e1]
    rfl
  · rw [up_c, e2 b (Nat.zero_le _) hb, h4 b hb, nx_xor, nx_and]
    congr 1
    refine mkN_eq (fun k => ?_)
    rw [Nat.testBit_and, Nat.testBit_xor, Nat.testBit_two_pow_sub_one, mkN_bit, show (4294967295 : Nat) = 2 ^ 32 - 1 by decide, Nat.testBit_two_pow_sub_one]
    by_cases hk : k < 15
    · by_cases hk2 : 15 * b + k < n
      · simp [hk, hk2, show k < min (n - 15 * b) 15 by omega, show k < 32 by omega]
      · simp [hk, hk2, show ¬ k < min (n - 15 * b) 15 by omega]
    · simp [hk, show ¬ k < min (n - 15 * b) 15 by omega]
theorem e_copyFrom {j2 : Nat} (hj : j < 25) (hj2 : j2 < 25) (hv : vOK g j2 n p) : ∃ g', f_X1_copyFrom (vO j) (vO j2) (wH L xs g r rs) = some (wH L xs g' r rs) ∧ vOK g' j n p ∧ vFr j g g' := by
  obtain ⟨h1, h2, h3, h4⟩ := hv
  refine ⟨va_up (gs g 1 j (nI n)) (20 + j) (va_cpy (g (20 + j2)) (g (20 + j)) 0 0 32), ?_, ⟨h1, by rw [up_oc (by omega)]; exact gs_same, h3, fun b hb => ?_⟩, vFr_n.trans vFr_mf⟩
  · unfold f_X1_copyFrom
    simp only [Option.bind_some, wiv hj2, wpv hj, wrv hj2, wrv hj, h2]
    have ec : xcp (wH L xs (gs g 1 j (nI n)) r rs) (vO j2 + 1) 0 (vO j + 1) 0 32 = some ((wH L xs (gs g 1 j (nI n)) r rs).set (vO j + 1) (.inl (0, 32, .inl (va_cpy (gs g 1 j (nI n) (20 + j2)) (gs g 1 j (nI n) (20 + j)) 0 0 32)))) := by
      unfold xcp
      rw [wmv hj2, wmv hj]
      show (if _ then none else some _) = _
      rw [if_neg]
      · rfl
      · have a1 := @vO_ge j
        have a2 := @vO_ge j2
        intro z
        rcases z with z | z | z | z | z | z | z
        · omega
        · omega
        · exact absurd z (by decide)
        · exact absurd z (by decide)
        · exact absurd z (by decide)
        · exact absurd z (by decide)
        · exact absurd z (by decide)
    rw [ec, Option.bind_some, wmvs hj, gs_oc (by omega), gs_oc (by omega)]
  · rw [up_c, pk_cpy_in (by omega) (by omega)]
    show g (20 + j2) (0 + (b - 0)) = _
    rw [Nat.zero_add, Nat.sub_zero]
    exact h4 b hb
end VEC4
