section KEEP2
variable {L : Nat} {xs : Nat → Int32} {g : xS} {r : Nat → Option Nat} {rs : xH} {n i v w o h : Nat} {p : Nat → Bool}
theorem m_notes_a (hh : h < 12) (h1 : g 66 16 = nI h) : ∃ g', f_X12_notes 84 (wH L xs g r rs) = some (wH L xs g' r rs) ∧ Nt h g g' ∧ ∀ c k, c ≠ 57 → ¬ (c = 66 ∧ k = 16) → g' c k = g c k := by
  obtain ⟨g1, e1, e2, e3, e4⟩ := m_copies (L := L) (xs := xs) (r := r) (rs := rs) (g := g) (pa := 90) (ca := 55) (NA := 132) (pb := 92) (cb := 57) (NB := 1584) (A := 0) (B := 132 * h) (fun _ _ h => wa_90' h) (fun _ _ _ h => wu_92' h) (by omega) (by omega) (by omega)
  have f66 : g1 66 = g 66 := e2 66 (by omega)
  refine ⟨gs g1 66 16 (nI (h + 1)), ?_, ⟨by rw [gs_same, if_pos hh], fun t k ht hk => ?_⟩, fun c k a1 a2 => ?_⟩
  · unfold f_X12_notes
    simp (disch := omega) only [q_pos, q_pos', q_lt, q_le, q_eq, q_add, q_sub, q_mul, ob_s, if_pos, if_neg, not_false_eq_true, q_m1', q_div, rm_N, l_0, l_1, l_2, l_3, l_4, l_5, l_6, l_7, l_8, l_10, l_11, l_12, l_13, l_14, l_15, l_16, l_18, l_20, l_21, l_22, l_23, l_24, l_32, l_33, l_40, l_44, l_48, l_57, l_59, l_60, l_63, l_64, l_97, l_98, l_99, l_100, l_111, l_116, l_122, l_132, l_200, l_240, l_255, l_480, l_1000, l_1452, wk_84, wr_84_0, wr_84_1, wr_84_2, wr_84_3, wr_84_5, wr_84_13, wr_84_14, wr_84_15, wr_84_17, wr_84_18, wr_84_20, wr_84_21, wr_84_23, wr_84_24, wr_84_25, wr_84_26, wi_84_4, wp_84_4, wi_84_6, wp_84_6, wi_84_7, wp_84_7, wi_84_8, wp_84_8, wi_84_9, wp_84_9, wi_84_10, wp_84_10, wi_84_11, wp_84_11, wi_84_12, wp_84_12, wi_84_16, wp_84_16, wi_84_19, wp_84_19, wi_84_22, wp_84_22, wi_84_27, wp_84_27, h1, e1, f66]
  · rw [if_pos hh, gs_oc (by omega)]
    refine ⟨fun a b => e4 _ (by omega), fun a => by omega, fun a => ?_⟩
    rw [a, e3 k hk, Nat.zero_add]
  · by_cases c6 : c = 66
    · subst c6
      rw [gs_ok (by omega), f66]
    · rw [gs_oc c6, e2 c a1]
theorem m_notes_e {g0 g1 : xS} {B : Nat} (hB : B = 1452) (h1 : g 66 16 = nI 12) (d1 : f_X12_notes_L11 xN 84 (nI 0) (wH L xs g r rs) = some (nI 1452, wH L xs g0 r rs)) (e1 : f_X12_copies 90 (nI 0) 92 (nI B) (wH L xs (gs g0 66 16 (nI 11)) r rs) = some (wH L xs g1 r rs)) (f660 : g0 66 16 = nI 12) (f66 : g1 66 16 = nI 11) : f_X12_notes 84 (wH L xs g r rs) = some (wH L xs (gs g1 66 16 (nI 12)) r rs) := by
  have e132 : (132 : Int32) * nI 11 = nI B := by rw [hB]; decide
  have e11 : nI 12 - (1 : Int32) = nI 11 := by decide
  have e12 : nI 11 + (1 : Int32) = nI 12 := by decide
  have e13 : nI 12 = (12 : Int32) := by decide
  unfold f_X12_notes
  rw [wi_84_16, Option.bind_some, h1, if_pos e13]
  rw [l_0, d1, Option.bind_some, wi_84_16, Option.bind_some, f660, e11, wp_84_16, Option.bind_some, wr_84_13, Option.bind_some, wr_84_15, Option.bind_some, wi_84_16, Option.bind_some, gs_same, e132, e1, Option.bind_some, wi_84_16, Option.bind_some, f66, e12, wp_84_16, Option.bind_some]
theorem m_notes_n {g0 g1 : xS} {B : Nat} (hB : B = 1452) (d2 : ∀ c, c ≠ 57 → g0 c = g c) (d3 : ∀ t, 0 ≤ t → t < B → g0 57 t = g 57 (t + 132)) (e2 : ∀ c, c ≠ 57 → g1 c = gs g0 66 16 (nI 11) c) (e3 : ∀ t, t < 132 → g1 57 (B + t) = gs g0 66 16 (nI 11) 55 (0 + t)) (e4 : ∀ t, (t < B ∨ B + 132 ≤ t) → g1 57 t = gs g0 66 16 (nI 11) 57 t) : Nt 12 g (gs g1 66 16 (nI 12)) := by
  refine ⟨by rw [gs_same, if_neg (by omega)], fun t k ht hk => ?_⟩
  rw [if_neg (by omega), gs_oc (by omega)]
  refine ⟨fun a b => by omega, fun a b => ?_, fun a => ?_⟩
  · rw [e4 _ (by omega), gs_oc (by omega), d3 _ (by omega) (by omega), show 132 * t + k + 132 = 132 * (t + 1) + k by omega]
  · rw [show 132 * t + k = B + k by omega, e3 k hk, Nat.zero_add, gs_oc (by omega), d2 55 (by omega)]
theorem m_notes (hh : h ≤ 12) (h1 : g 66 16 = nI h) : ∃ g', f_X12_notes 84 (wH L xs g r rs) = some (wH L xs g' r rs) ∧ Nt h g g' ∧ ∀ c k, c ≠ 57 → ¬ (c = 66 ∧ k = 16) → g' c k = g c k := by
  by_cases h12 : h < 12
  · exact m_notes_a h12 h1
  · have e12 : h = 12 := by omega
    subst e12
    obtain ⟨g0, d1, d2, d3, d4⟩ := m_notes_L (L := L) (xs := xs) (r := r) (rs := rs) xN 0 g (by omega) (by unfold xN; omega)
    obtain ⟨B, hB⟩ : ∃ B, B = 1452 := ⟨_, rfl⟩
    obtain ⟨g1, e1, e2, e3, e4⟩ := m_copies (L := L) (xs := xs) (r := r) (rs := rs) (g := gs g0 66 16 (nI 11)) (pa := 90) (ca := 55) (NA := 132) (pb := 92) (cb := 57) (NB := 1584) (A := 0) (B := B) (fun _ _ h => wa_90' h) (fun _ _ _ h => wu_92' h) (by omega) (by omega) (by omega)
    have f660 : g0 66 16 = nI 12 := by rw [d2 66 (by omega)]; exact h1
    have f66 : g1 66 16 = nI 11 := by rw [e2 66 (by omega), gs_same]
    refine ⟨gs g1 66 16 (nI 12), m_notes_e hB h1 d1 e1 f660 f66, m_notes_n hB d2 (fun t a b => d3 t a (by omega)) e2 e3 e4, fun c k a1 a2 => ?_⟩
    by_cases c6 : c = 66
    · subst c6
      rw [gs_ok (by omega), e2 66 (by omega), gs_ok (by omega), d2 66 (by omega)]
    · rw [gs_oc c6, e2 c a1, gs_oc c6, d2 c a1]
end KEEP2
