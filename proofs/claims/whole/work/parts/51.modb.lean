section MODB
variable {L : Nat} {xs : Nat → Int32} {g : xS} {r : Nat → Option Nat} {rs : xH} {n i v : Nat} {p : Nat → Bool} {pos c : Nat}
theorem hr90 : ∀ (g : xS) (k : Nat), k < 132 → xaI (wH L xs g r rs) 90 (nI k) = some (g 55 k) := fun _ _ h => wa_90' h
theorem hw90 : ∀ (g : xS) (k : Nat) (x : Int32), k < 132 → xuI (wH L xs g r rs) 90 (nI k) x = some (wH L xs (gs g 55 k x) r rs) := fun _ _ _ h => wu_90' h
theorem hr91 : ∀ (g : xS) (k : Nat), k < 132 → xaI (wH L xs g r rs) 91 (nI k) = some (g 56 k) := fun _ _ h => wa_91' h
theorem hw91 : ∀ (g : xS) (k : Nat) (x : Int32), k < 132 → xuI (wH L xs g r rs) 91 (nI k) x = some (wH L xs (gs g 56 k x) r rs) := fun _ _ _ h => wu_91' h
theorem m_bitsOf (hv : v < 4) (hm : mOK g 55 (33 * v) n p) : f_X12_bitsOf 84 (nI v) (wH L xs g r rs) = some (nI n, wH L xs g r rs) := by
  unfold f_X12_bitsOf
  simp (disch := omega) only [q_pos, q_pos', q_lt, q_le, q_eq, q_add, q_sub, q_mul, Option.bind_some, if_pos, if_neg, not_false_eq_true, q_m1', q_div, rm_N, l_0, l_1, l_2, l_3, l_4, l_5, l_6, l_7, l_8, l_10, l_11, l_12, l_13, l_14, l_15, l_16, l_18, l_20, l_21, l_22, l_23, l_24, l_32, l_33, l_40, l_44, l_48, l_57, l_59, l_60, l_63, l_64, l_97, l_98, l_99, l_100, l_111, l_116, l_122, l_132, l_200, l_240, l_255, l_480, l_1000, l_1452, wk_84, wr_84_0, wr_84_1, wr_84_2, wr_84_3, wr_84_5, wr_84_13, wr_84_14, wr_84_15, wr_84_17, wr_84_18, wr_84_20, wr_84_21, wr_84_23, wr_84_24, wr_84_25, wr_84_26, wi_84_4, wp_84_4, wi_84_6, wp_84_6, wi_84_7, wp_84_7, wi_84_8, wp_84_8, wi_84_9, wp_84_9, wi_84_10, wp_84_10, wi_84_11, wp_84_11, wi_84_12, wp_84_12, wi_84_16, wp_84_16, wi_84_19, wp_84_19, wi_84_22, wp_84_22, wi_84_27, wp_84_27, wa_90', hm.2.1]
theorem m_allOnes (hv : v < 4) (hm : mOK g 55 (33 * v) n p) : f_X12_allOnes 84 (nI v) (wH L xs g r rs) = some (nI (fb_ct p n), wH L xs g r rs) := by
  unfold f_X12_allOnes
  simp (disch := omega) only [wk_84, wr_84_0, wr_84_1, wr_84_2, wr_84_3, wr_84_5, wr_84_13, wr_84_14, wr_84_15, wr_84_17, wr_84_18, wr_84_20, wr_84_21, wr_84_23, wr_84_24, wr_84_25, wr_84_26, wi_84_4, wp_84_4, wi_84_6, wp_84_6, wi_84_7, wp_84_7, wi_84_8, wp_84_8, wi_84_9, wp_84_9, wi_84_10, wp_84_10, wi_84_11, wp_84_11, wi_84_12, wp_84_12, wi_84_16, wp_84_16, wi_84_19, wp_84_19, wi_84_22, wp_84_22, wi_84_27, wp_84_27, Option.bind_some, if_true, m_bitsOf hv hm, m_onesAhead hr90 hv hm.2.2.2 hm.1]
theorem m_empties_L (hv : v < 4) : ∀ (m k : Nat) (g : xS), k ≤ 33 → 33 < k + m → ∃ g', f_X12_empties_L2 m 84 (nI v) (nI n) (nI k) (wH L xs g r rs) = some (nI 33, wH L xs g' r rs) ∧ mFr 55 (33 * v) (33 * v + 33) g g' ∧ (∀ t, k ≤ t → t < 33 → g' 55 (33 * v + t) = 0) ∧ ∀ t, t < k → g' 55 (33 * v + t) = g 55 (33 * v + t) := by
  intro m
  induction m with
  | zero => intro k g h1 h2; omega
  | succ m ih =>
    intro k g h1 h2
    unfold f_X12_empties_L2
    by_cases hk : k = 33
    · subst hk
      refine ⟨g, ?_, mFr.rfl', fun t h1 h2 => by omega, fun _ _ => rfl⟩
      simp (disch := omega) only [q_pos, q_pos', q_lt, q_le, q_eq, q_add, q_sub, q_mul, Option.bind_some, if_pos, if_neg, not_false_eq_true, q_m1', q_div, rm_N, l_0, l_1, l_2, l_3, l_4, l_5, l_6, l_7, l_8, l_10, l_11, l_12, l_13, l_14, l_15, l_16, l_18, l_20, l_21, l_22, l_23, l_24, l_32, l_33, l_40, l_44, l_48, l_57, l_59, l_60, l_63, l_64, l_97, l_98, l_99, l_100, l_111, l_116, l_122, l_132, l_200, l_240, l_255, l_480, l_1000, l_1452]
    · obtain ⟨g', e1, e2, e3, e4⟩ := ih (k + 1) (gs g 55 (33 * v + k) 0) (by omega) (by omega)
      refine ⟨g', ?_, (mFr_gs (by omega) (by omega)).trans e2, fun t h1 h2 => ?_, fun t ht => ?_⟩
      · simp (disch := omega) only [q_pos, q_pos', q_lt, q_le, q_eq, q_add, q_sub, q_mul, Option.bind_some, if_pos, if_neg, not_false_eq_true, q_m1', q_div, rm_N, l_0, l_1, l_2, l_3, l_4, l_5, l_6, l_7, l_8, l_10, l_11, l_12, l_13, l_14, l_15, l_16, l_18, l_20, l_21, l_22, l_23, l_24, l_32, l_33, l_40, l_44, l_48, l_57, l_59, l_60, l_63, l_64, l_97, l_98, l_99, l_100, l_111, l_116, l_122, l_132, l_200, l_240, l_255, l_480, l_1000, l_1452, wk_84, wr_84_0, wr_84_1, wr_84_2, wr_84_3, wr_84_5, wr_84_13, wr_84_14, wr_84_15, wr_84_17, wr_84_18, wr_84_20, wr_84_21, wr_84_23, wr_84_24, wr_84_25, wr_84_26, wi_84_4, wp_84_4, wi_84_6, wp_84_6, wi_84_7, wp_84_7, wi_84_8, wp_84_8, wi_84_9, wp_84_9, wi_84_10, wp_84_10, wi_84_11, wp_84_11, wi_84_12, wp_84_12, wi_84_16, wp_84_16, wi_84_19, wp_84_19, wi_84_22, wp_84_22, wi_84_27, wp_84_27, wu_90']
        exact e1
      · by_cases ht : t = k
        · subst ht
          rw [e4 t (by omega), gs_same]
        · exact e3 t (by omega) h2
      · rw [e4 t (by omega), gs_ok (by omega)]
theorem mk_0 (b : Nat) : mkN (fun _ => false) b = 0 := (mkN_eq (fun k => by simp)).symm
theorem m_empties (hv : v < 4) (hn : n ≤ 480) : ∃ g', f_X12_empties 84 (nI v) (nI n) (wH L xs g r rs) = some (wH L xs g' r rs) ∧ mOK g' 55 (33 * v) n (fun _ => false) ∧ mFr 55 (33 * v) (33 * v + 33) g g' := by
  obtain ⟨g', e1, e2, e3, -⟩ := m_empties_L (L := L) (xs := xs) (r := r) (rs := rs) (n := n) hv xN 0 g (by omega) (by decide)
  refine ⟨gs g' 55 (33 * v) (nI n), ?_, ⟨hn, gs_same, fun _ _ => rfl, fun b hb => ?_⟩, e2.trans (mFr_gs (by omega) (by omega))⟩
  · unfold f_X12_empties
    rw [l_0, e1]
    simp (disch := omega) only [q_pos, q_pos', q_lt, q_le, q_eq, q_add, q_sub, q_mul, Option.bind_some, if_pos, if_neg, not_false_eq_true, q_m1', q_div, rm_N, l_0, l_1, l_2, l_3, l_4, l_5, l_6, l_7, l_8, l_10, l_11, l_12, l_13, l_14, l_15, l_16, l_18, l_20, l_21, l_22, l_23, l_24, l_32, l_33, l_40, l_44, l_48, l_57, l_59, l_60, l_63, l_64, l_97, l_98, l_99, l_100, l_111, l_116, l_122, l_132, l_200, l_240, l_255, l_480, l_1000, l_1452, wk_84, wr_84_0, wr_84_1, wr_84_2, wr_84_3, wr_84_5, wr_84_13, wr_84_14, wr_84_15, wr_84_17, wr_84_18, wr_84_20, wr_84_21, wr_84_23, wr_84_24, wr_84_25, wr_84_26, wi_84_4, wp_84_4, wi_84_6, wp_84_6, wi_84_7, wp_84_7, wi_84_8, wp_84_8, wi_84_9, wp_84_9, wi_84_10, wp_84_10, wi_84_11, wp_84_11, wi_84_12, wp_84_12, wi_84_16, wp_84_16, wi_84_19, wp_84_19, wi_84_22, wp_84_22, wi_84_27, wp_84_27, wu_90']
  · rw [gs_ok (by omega), show 33 * v + 1 + b = 33 * v + (1 + b) by omega, e3 (1 + b) (by omega) (by omega), mk_0]
    rfl
theorem m_appends (hv : v < 4) (hm : mOK g 55 (33 * v) n p) (hn : n < 480) (w : Bool) : ∃ g', f_X12_appends 84 (nI v) (nI w.toNat) (wH L xs g r rs) = some (wH L xs g' r rs) ∧ mOK g' 55 (33 * v) (n + 1) (fun k => if k = n then w else p k) ∧ mFr 55 (33 * v) (33 * v + 33) g g' := by
  obtain ⟨g', e1, e2, e3⟩ := m_puts (L := L) (xs := xs) (r := r) (rs := rs) hr90 hw90 hv hm.2.2.2 hn w
  have e4 : g' 55 (33 * v) = nI n := by rw [e3.2 _ (by omega)]; exact hm.2.1
  have e3' : mFr 55 (33 * v) (33 * v + 33) g g' := ⟨e3.1, fun k hk => e3.2 k (by omega)⟩
  refine ⟨gs g' 55 (33 * v) (nI (n + 1)), ?_, ⟨by omega, gs_same, fun i hi => ?_, fun b hb => ?_⟩, e3'.trans (mFr_gs (by omega) (by omega))⟩
  · unfold f_X12_appends
    simp (disch := omega) only [q_pos, q_pos', q_lt, q_le, q_eq, q_add, q_sub, q_mul, Option.bind_some, if_pos, if_neg, not_false_eq_true, q_m1', q_div, rm_N, l_0, l_1, l_2, l_3, l_4, l_5, l_6, l_7, l_8, l_10, l_11, l_12, l_13, l_14, l_15, l_16, l_18, l_20, l_21, l_22, l_23, l_24, l_32, l_33, l_40, l_44, l_48, l_57, l_59, l_60, l_63, l_64, l_97, l_98, l_99, l_100, l_111, l_116, l_122, l_132, l_200, l_240, l_255, l_480, l_1000, l_1452, wk_84, wr_84_0, wr_84_1, wr_84_2, wr_84_3, wr_84_5, wr_84_13, wr_84_14, wr_84_15, wr_84_17, wr_84_18, wr_84_20, wr_84_21, wr_84_23, wr_84_24, wr_84_25, wr_84_26, wi_84_4, wp_84_4, wi_84_6, wp_84_6, wi_84_7, wp_84_7, wi_84_8, wp_84_8, wi_84_9, wp_84_9, wi_84_10, wp_84_10, wi_84_11, wp_84_11, wi_84_12, wp_84_12, wi_84_16, wp_84_16, wi_84_19, wp_84_19, wi_84_22, wp_84_22, wi_84_27, wp_84_27, wa_90', hm.2.1, e1, e4, wu_90']
  · show (if i = n then w else p i) = false
    rw [if_neg (by omega)]
    exact hm.2.2.1 i (by omega)
  · rw [gs_ok (by omega)]
    exact e2 b hb
/-- the reference's class of a mask -/
theorem m_sort_L {m : Nat} (hm : m < 32768) : ∀ (f k : Nat), k ≤ 15 → 15 < k + f → ∀ h : xH, f_X12_sortOf_L4 f (nI m) (nI (fb_ct (fun k => m.testBit k) k)) (nI k) h = some (nI (fb_ct (fun k => m.testBit k) 15), nI 15, h) := by
  intro f
  induction f with
  | zero => intro k h1 h2; omega
  | succ f ih =>
    intro k h1 h2 h
    unfold f_X12_sortOf_L4
    by_cases hk : k = 15
    · subst hk
      simp (disch := omega) only [q_pos, q_pos', q_lt, q_le, q_eq, q_add, q_sub, q_mul, Option.bind_some, if_pos, if_neg, not_false_eq_true, q_m1', q_div, rm_N, l_0, l_1, l_2, l_3, l_4, l_5, l_6, l_7, l_8, l_10, l_11, l_12, l_13, l_14, l_15, l_16, l_18, l_20, l_21, l_22, l_23, l_24, l_32, l_33, l_40, l_44, l_48, l_57, l_59, l_60, l_63, l_64, l_97, l_98, l_99, l_100, l_111, l_116, l_122, l_132, l_200, l_240, l_255, l_480, l_1000, l_1452]
    · have e : fb_ct (fun k => m.testBit k) k + (m.testBit k).toNat = fb_ct (fun k => m.testBit k) (k + 1) := by
        rw [fb_ct_succ]
        cases m.testBit k <;> rfl
      simp (disch := omega) only [q_pos, q_pos', q_lt, q_le, q_eq, q_add, q_sub, q_mul, Option.bind_some, if_pos, if_neg, not_false_eq_true, q_m1', q_div, rm_N, l_0, l_1, l_2, l_3, l_4, l_5, l_6, l_7, l_8, l_10, l_11, l_12, l_13, l_14, l_15, l_16, l_18, l_20, l_21, l_22, l_23, l_24, l_32, l_33, l_40, l_44, l_48, l_57, l_59, l_60, l_63, l_64, l_97, l_98, l_99, l_100, l_111, l_116, l_122, l_132, l_200, l_240, l_255, l_480, l_1000, l_1452, q_bit', e]
      exact ih (k + 1) (by omega) (by omega) h
theorem m_sortOf {m : Nat} (hm : m < 32768) (h : xH) : f_X12_sortOf (nI m) h = some (nI (fb_ct (fun k => m.testBit k) 15), h) := by
  unfold f_X12_sortOf
  have := m_sort_L hm xN 0 (by omega) (by decide) h
  rw [show fb_ct (fun k => m.testBit k) 0 = 0 from rfl] at this
  rw [l_0, this]
  rfl
/-- the choices, as numbers -/
def chN (k : Nat) : Nat := (CHf k).toNatClampNeg
theorem CHf_N : ∀ k, k < 256 → CHf k = nI (chN k) := by decide +kernel
theorem chN_lt : ∀ k, k < 256 → chN k ≤ 6435 := by decide +kernel
theorem wd_ch : ∀ c, c < 16 → chN (240 + c) ≤ 2 ^ wdN c ∧ ∀ t, t < 13 → t < wdN c → 2 ^ t < chN (240 + c) := by decide +kernel
theorem m_width_L (hch : ∀ k, k < 256 → g 64 k = CHf k) {s : Nat} (hs : s < 16) : ∀ (f k : Nat), k ≤ wdN s → wdN s < k + f → f_X12_widthOf_L2 f 84 (nI s) (nI k) (wH L xs g r rs) = some (nI (wdN s), wH L xs g r rs) := by
  have hw := wdN_le s
  have hc := chN_lt (240 + s) (by omega)
  intro f
  induction f with
  | zero => intro k h1 h2; omega
  | succ f ih =>
    intro k h1 h2
    unfold f_X12_widthOf_L2
    have h2k : 1 * 2 ^ k < 4294967296 := by
      rw [Nat.one_mul]
      exact Nat.lt_of_lt_of_le (Nat.pow_lt_pow_right (by decide) (by omega : k < 14)) (by decide)
    have h2k' : 2 ^ k < 2147483648 := Nat.lt_of_lt_of_le (Nat.pow_lt_pow_right (by decide) (by omega : k < 14)) (by decide)
    have es : nI 1 <<< (nI k &&& 31) = nI (2 ^ k) := by rw [q_shl (by omega) h2k, Nat.one_shiftLeft]
    by_cases hk : k = wdN s
    · have := (wd_ch s hs).1
      rw [← hk] at this
      simp (disch := omega) only [q_pos, q_pos', q_lt, q_le, q_eq, q_add, q_sub, q_mul, Option.bind_some, if_pos, if_neg, not_false_eq_true, q_m1', q_div, rm_N, l_0, l_1, l_2, l_3, l_4, l_5, l_6, l_7, l_8, l_10, l_11, l_12, l_13, l_14, l_15, l_16, l_18, l_20, l_21, l_22, l_23, l_24, l_32, l_33, l_40, l_44, l_48, l_57, l_59, l_60, l_63, l_64, l_97, l_98, l_99, l_100, l_111, l_116, l_122, l_132, l_200, l_240, l_255, l_480, l_1000, l_1452, wk_84, wr_84_0, wr_84_1, wr_84_2, wr_84_3, wr_84_5, wr_84_13, wr_84_14, wr_84_15, wr_84_17, wr_84_18, wr_84_20, wr_84_21, wr_84_23, wr_84_24, wr_84_25, wr_84_26, wi_84_4, wp_84_4, wi_84_6, wp_84_6, wi_84_7, wp_84_7, wi_84_8, wp_84_8, wi_84_9, wp_84_9, wi_84_10, wp_84_10, wi_84_11, wp_84_11, wi_84_12, wp_84_12, wi_84_16, wp_84_16, wi_84_19, wp_84_19, wi_84_22, wp_84_22, wi_84_27, wp_84_27, wa_99', hch, CHf_N, es]
      rw [hk]
    · have := (wd_ch s hs).2 k (by omega) (by omega)
      simp (disch := omega) only [q_pos, q_pos', q_lt, q_le, q_eq, q_add, q_sub, q_mul, Option.bind_some, if_pos, if_neg, not_false_eq_true, q_m1', q_div, rm_N, l_0, l_1, l_2, l_3, l_4, l_5, l_6, l_7, l_8, l_10, l_11, l_12, l_13, l_14, l_15, l_16, l_18, l_20, l_21, l_22, l_23, l_24, l_32, l_33, l_40, l_44, l_48, l_57, l_59, l_60, l_63, l_64, l_97, l_98, l_99, l_100, l_111, l_116, l_122, l_132, l_200, l_240, l_255, l_480, l_1000, l_1452, wk_84, wr_84_0, wr_84_1, wr_84_2, wr_84_3, wr_84_5, wr_84_13, wr_84_14, wr_84_15, wr_84_17, wr_84_18, wr_84_20, wr_84_21, wr_84_23, wr_84_24, wr_84_25, wr_84_26, wi_84_4, wp_84_4, wi_84_6, wp_84_6, wi_84_7, wp_84_7, wi_84_8, wp_84_8, wi_84_9, wp_84_9, wi_84_10, wp_84_10, wi_84_11, wp_84_11, wi_84_12, wp_84_12, wi_84_16, wp_84_16, wi_84_19, wp_84_19, wi_84_22, wp_84_22, wi_84_27, wp_84_27, wa_99', hch, CHf_N, es]
      exact ih (k + 1) (by omega) (by omega)
theorem m_widthOf (hch : ∀ k, k < 256 → g 64 k = CHf k) {s : Nat} (hs : s < 16) : f_X12_widthOf 84 (nI s) (wH L xs g r rs) = some (nI (wdN s), wH L xs g r rs) := by
  have hw := wdN_le s
  unfold f_X12_widthOf
  rw [l_0, m_width_L hch hs xN 0 (by omega) (by unfold xN; omega)]
  rfl
theorem m_begins_L (hch : ∀ k, k < 256 → g 64 k = CHf k) (hr : ∀ g k, k < 132 → xaI (wH L xs g r rs) pos (nI k) = some (g c k)) (hv : v < 4) (hm : mM g c (33 * v) p) {e : Nat} (he : e ≤ 32) : ∀ (m k : Nat), k ≤ e → e < k + m → f_X12_begins_L6 m 84 pos (nI v) (nI e) (nI (bgN p k)) (nI k) (wH L xs g r rs) = some (nI (bgN p e), nI e, wH L xs g r rs) := by
  intro m
  induction m with
  | zero => intro k h1 h2; omega
  | succ m ih =>
    intro k h1 h2
    unfold f_X12_begins_L6
    by_cases hk : k = e
    · subst hk
      simp (disch := omega) only [q_pos, q_pos', q_lt, q_le, q_eq, q_add, q_sub, q_mul, Option.bind_some, if_pos, if_neg, not_false_eq_true, q_m1', q_div, rm_N, l_0, l_1, l_2, l_3, l_4, l_5, l_6, l_7, l_8, l_10, l_11, l_12, l_13, l_14, l_15, l_16, l_18, l_20, l_21, l_22, l_23, l_24, l_32, l_33, l_40, l_44, l_48, l_57, l_59, l_60, l_63, l_64, l_97, l_98, l_99, l_100, l_111, l_116, l_122, l_132, l_200, l_240, l_255, l_480, l_1000, l_1452]
    · have hc := clN_le p k
      have hb := hm k (by omega)
      simp (disch := omega) only [q_pos, q_pos', q_lt, q_le, q_eq, q_add, q_sub, q_mul, Option.bind_some, if_pos, if_neg, not_false_eq_true, q_m1', q_div, rm_N, l_0, l_1, l_2, l_3, l_4, l_5, l_6, l_7, l_8, l_10, l_11, l_12, l_13, l_14, l_15, l_16, l_18, l_20, l_21, l_22, l_23, l_24, l_32, l_33, l_40, l_44, l_48, l_57, l_59, l_60, l_63, l_64, l_97, l_98, l_99, l_100, l_111, l_116, l_122, l_132, l_200, l_240, l_255, l_480, l_1000, l_1452, wk_84, wr_84_0, wr_84_1, wr_84_2, wr_84_3, wr_84_5, wr_84_13, wr_84_14, wr_84_15, wr_84_17, wr_84_18, wr_84_20, wr_84_21, wr_84_23, wr_84_24, wr_84_25, wr_84_26, wi_84_4, wp_84_4, wi_84_6, wp_84_6, wi_84_7, wp_84_7, wi_84_8, wp_84_8, wi_84_9, wp_84_9, wi_84_10, wp_84_10, wi_84_11, wp_84_11, wi_84_12, wp_84_12, wi_84_16, wp_84_16, wi_84_19, wp_84_19, wi_84_22, wp_84_22, wi_84_27, wp_84_27, hr, hb, m_sortOf (mkN_lt p k), mk_ct, if_true, m_widthOf hch]
      exact ih (k + 1) (by omega) (by omega)
theorem m_begins (hch : ∀ k, k < 256 → g 64 k = CHf k) (hr : ∀ g k, k < 132 → xaI (wH L xs g r rs) pos (nI k) = some (g c k)) (hv : v < 4) (hm : mM g c (33 * v) p) {e : Nat} (he : e ≤ 32) : f_X12_begins 84 pos (nI v) (nI e) (wH L xs g r rs) = some (nI (bgN p e), wH L xs g r rs) := by
  unfold f_X12_begins
  have := m_begins_L hch hr hv hm he xN 0 (by omega) (by unfold xN; omega)
  rw [show bgN p 0 = 0 from rfl] at this
  rw [l_0, this]
  rfl
theorem m_blocks (hr : ∀ g k, k < 132 → xaI (wH L xs g r rs) pos (nI k) = some (g c k)) (hv : v < 4) (hm : mOK g c (33 * v) n p) : f_X12_blocks pos (nI v) (wH L xs g r rs) = some (nI ((n + 14) / 15), wH L xs g r rs) := by
  have h1 := hm.1
  have h2 := hm.2.1
  unfold f_X12_blocks
  simp (disch := omega) only [q_pos, q_pos', q_lt, q_le, q_eq, q_add, q_sub, q_mul, Option.bind_some, if_pos, if_neg, not_false_eq_true, q_m1', q_div, rm_N, l_0, l_1, l_2, l_3, l_4, l_5, l_6, l_7, l_8, l_10, l_11, l_12, l_13, l_14, l_15, l_16, l_18, l_20, l_21, l_22, l_23, l_24, l_32, l_33, l_40, l_44, l_48, l_57, l_59, l_60, l_63, l_64, l_97, l_98, l_99, l_100, l_111, l_116, l_122, l_132, l_200, l_240, l_255, l_480, l_1000, l_1452, hr, h2]
  rfl
end MODB
