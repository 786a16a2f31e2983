theorem q_bit' {m k : Nat} (hm : m < 2147483648) (hk : k < 32) : (nI m >>> (nI k &&& 31)) &&& nI 1 = nI (m.testBit k).toNat := q_bit hm hk
/-- the masks of a vector in the reference's rows -/
def mM (g : xS) (c bs : Nat) (p : Nat → Bool) : Prop := ∀ b, b < 32 → g c (bs + 1 + b) = nI (mkN p b)
def mOK (g : xS) (c bs n : Nat) (p : Nat → Bool) : Prop := n ≤ 480 ∧ g c bs = nI n ∧ (∀ i, n ≤ i → p i = false) ∧ mM g c bs p
/-- of component c only the places lo .. hi - 1 have changed -/
def mFr (c lo hi : Nat) (g g' : xS) : Prop := (∀ c', c' ≠ c → g' c' = g c') ∧ ∀ k, (k < lo ∨ hi ≤ k) → g' c k = g c k
theorem mFr.rfl' {c lo hi : Nat} {g : xS} : mFr c lo hi g g := ⟨fun _ _ => rfl, fun _ _ => rfl⟩
theorem mFr.trans {c lo hi : Nat} {g1 g2 g3 : xS} (h1 : mFr c lo hi g1 g2) (h2 : mFr c lo hi g2 g3) : mFr c lo hi g1 g3 := ⟨fun c' a => (h2.1 c' a).trans (h1.1 c' a), fun k a => (h2.2 k a).trans (h1.2 k a)⟩
theorem mFr_gs {c lo hi k : Nat} {g : xS} {x : Int32} (h1 : lo ≤ k) (h2 : k < hi) : mFr c lo hi g (gs g c k x) := ⟨fun c' h => gs_oc h, fun t ht => gs_ok (by omega)⟩
theorem mOK_fr {c lo hi bs n : Nat} {p : Nat → Bool} {g g' : xS} (h : mOK g c bs n p) (hf : mFr c lo hi g g') (hd : bs + 33 ≤ lo ∨ hi ≤ bs) : mOK g' c bs n p := by
  obtain ⟨h1, h2, h3, h4⟩ := h
  exact ⟨h1, by rw [hf.2 bs (by omega)]; exact h2, h3, fun b hb => by rw [hf.2 _ (by omega)]; exact h4 b hb⟩
theorem mOK_oc {c c' lo hi bs n : Nat} {p : Nat → Bool} {g g' : xS} (h : mOK g c bs n p) (hf : mFr c' lo hi g g') (hd : c ≠ c') : mOK g' c bs n p := by
  obtain ⟨h1, h2, h3, h4⟩ := h
  unfold mOK mM
  rw [hf.1 c hd]
  exact ⟨h1, h2, h3, h4⟩
section MOD
variable {L : Nat} {xs : Nat → Int32} {g : xS} {r : Nat → Option Nat} {rs : xH} {n i v : Nat} {p : Nat → Bool} {pos c : Nat}
theorem m_bit (hr : ∀ g k, k < 132 → xaI (wH L xs g r rs) pos (nI k) = some (g c k)) (hv : v < 4) (hm : mM g c (33 * v) p) (hi : i < 480) : f_X12_bit pos (nI v) (nI i) (wH L xs g r rs) = some (nI (p i).toNat, wH L xs g r rs) := by
  have hb := hm (i / 15) (by omega)
  unfold f_X12_bit
  rw [m15' (by omega)]
  simp (disch := omega) only [q_pos, q_pos', q_lt, q_le, q_eq, q_add, q_sub, q_mul, Option.bind_some, if_pos, if_neg, not_false_eq_true, q_m1', q_div, rm_N, l_0, l_1, l_2, l_3, l_4, l_5, l_6, l_7, l_8, l_10, l_11, l_12, l_13, l_14, l_15, l_16, l_18, l_20, l_21, l_22, l_23, l_24, l_32, l_33, l_40, l_44, l_48, l_57, l_59, l_60, l_63, l_64, l_97, l_98, l_99, l_100, l_111, l_116, l_122, l_132, l_200, l_240, l_255, l_480, l_1000, l_1452, hr, hb]
  rw [q_bit' (Nat.lt_trans (mkN_lt _ _) (by decide)) (by omega), mkN_at]
theorem m_puts (hr : ∀ g k, k < 132 → xaI (wH L xs g r rs) pos (nI k) = some (g c k)) (hw : ∀ g k x, k < 132 → xuI (wH L xs g r rs) pos (nI k) x = some (wH L xs (gs g c k x) r rs)) (hv : v < 4) (hm : mM g c (33 * v) p) (hi : i < 480) (w : Bool) : ∃ g', f_X12_puts pos (nI v) (nI i) (nI w.toNat) (wH L xs g r rs) = some (wH L xs g' r rs) ∧ mM g' c (33 * v) (fun k => if k = i then w else p k) ∧ mFr c (33 * v + 1) (33 * v + 33) g g' := by
  have hb := hm (i / 15) (by omega)
  have hml := mkN_lt p (i / 15)
  have h15 : i % 15 < 15 := Nat.mod_lt i (by decide)
  have h2p : 2 ^ (i % 15) < 32768 := Nat.pow_lt_pow_right (by decide) h15
  have e1 : ∀ x, x ≤ 1 → nI x <<< (nI (i % 15) &&& 31) = nI (x * 2 ^ (i % 15)) := by
    intro x hx
    rw [q_shl (by omega) (Nat.lt_of_le_of_lt (Nat.mul_le_mul_right _ hx) (by omega)), Nat.shiftLeft_eq]
  refine ⟨gs g c (33 * v + 1 + i / 15) (nI ((mkN p (i / 15) &&& (2 ^ (i % 15) ^^^ 4294967295)) ||| (w.toNat * 2 ^ (i % 15)))), ?_, fun b hb2 => ?_, mFr_gs (by omega) (by omega)⟩
  · unfold f_X12_puts
    rw [m15' (by omega)]
    have hw1 : w.toNat ≤ 1 := by cases w <;> decide
    have e2 := e1 1 (by omega)
    have e3 := e1 w.toNat hw1
    rw [Nat.one_mul] at e2
    simp (disch := omega) only [q_pos, q_pos', q_lt, q_le, q_eq, q_add, q_sub, q_mul, Option.bind_some, if_pos, if_neg, not_false_eq_true, q_m1', q_div, rm_N, l_0, l_1, l_2, l_3, l_4, l_5, l_6, l_7, l_8, l_10, l_11, l_12, l_13, l_14, l_15, l_16, l_18, l_20, l_21, l_22, l_23, l_24, l_32, l_33, l_40, l_44, l_48, l_57, l_59, l_60, l_63, l_64, l_97, l_98, l_99, l_100, l_111, l_116, l_122, l_132, l_200, l_240, l_255, l_480, l_1000, l_1452, hr, hb]
    simp (disch := omega) only [e2, e3, nx_xor, nx_and, q_or, hw, Option.bind_some]
  · by_cases e : b = i / 15
    · subst e
      rw [gs_same]
      congr 1
      refine mkN_eq (fun k => ?_)
      rw [Nat.testBit_or, Nat.testBit_and, Nat.testBit_xor, Nat.testBit_two_pow, mkN_bit, show (4294967295 : Nat) = 2 ^ 32 - 1 by decide, Nat.testBit_two_pow_sub_one]
      by_cases hk : k = i % 15
      · subst hk
        rw [Nat.div_add_mod, if_pos rfl]
        cases w <;> simp [Nat.testBit_two_pow, h15, show i % 15 < 32 by omega]
      · have hz : (w.toNat * 2 ^ (i % 15)).testBit k = false := by
          cases w
          · simp
          · simp [Nat.testBit_two_pow]; omega
        rw [hz]
        by_cases hk2 : k < 15
        · rw [if_neg (by omega)]
          simp [hk2, show k < 32 by omega, Ne.symm hk]
        · simp [hk2]
    · rw [gs_ok (by omega), hm b hb2]
      congr 1
      refine mkN_cong (fun k hk => ?_)
      rw [if_neg (by omega)]
theorem m_ones_L (hr : ∀ g k, k < 132 → xaI (wH L xs g r rs) pos (nI k) = some (g c k)) (hv : v < 4) (hm : mM g c (33 * v) p) {place : Nat} (hp : place ≤ 480) : ∀ (m k : Nat), k ≤ place → place < k + m → f_X12_onesAhead_L5 m pos (nI v) (nI place) (nI (fb_ct p k)) (nI k) (wH L xs g r rs) = some (nI (fb_ct p place), nI place, wH L xs g r rs) := by
  intro m
  induction m with
  | zero => intro k h1 h2; omega
  | succ m ih =>
    intro k h1 h2
    unfold f_X12_onesAhead_L5
    by_cases hk : k = place
    · subst hk
      simp (disch := omega) only [q_pos, q_pos', q_lt, q_le, q_eq, q_add, q_sub, q_mul, Option.bind_some, if_pos, if_neg, not_false_eq_true, q_m1', q_div, rm_N, l_0, l_1, l_2, l_3, l_4, l_5, l_6, l_7, l_8, l_10, l_11, l_12, l_13, l_14, l_15, l_16, l_18, l_20, l_21, l_22, l_23, l_24, l_32, l_33, l_40, l_44, l_48, l_57, l_59, l_60, l_63, l_64, l_97, l_98, l_99, l_100, l_111, l_116, l_122, l_132, l_200, l_240, l_255, l_480, l_1000, l_1452]
    · simp (disch := omega) only [q_pos, q_pos', q_lt, q_le, q_eq, q_add, q_sub, q_mul, Option.bind_some, if_pos, if_neg, not_false_eq_true, q_m1', q_div, rm_N, l_0, l_1, l_2, l_3, l_4, l_5, l_6, l_7, l_8, l_10, l_11, l_12, l_13, l_14, l_15, l_16, l_18, l_20, l_21, l_22, l_23, l_24, l_32, l_33, l_40, l_44, l_48, l_57, l_59, l_60, l_63, l_64, l_97, l_98, l_99, l_100, l_111, l_116, l_122, l_132, l_200, l_240, l_255, l_480, l_1000, l_1452, m_bit hr hv hm]
      have : fb_ct p k + (p k).toNat = fb_ct p (k + 1) := by
        rw [fb_ct_succ]
        cases p k <;> rfl
      rw [this]
      exact ih (k + 1) (by omega) (by omega)
theorem m_onesAhead (hr : ∀ g k, k < 132 → xaI (wH L xs g r rs) pos (nI k) = some (g c k)) (hv : v < 4) (hm : mM g c (33 * v) p) {place : Nat} (hp : place ≤ 480) : f_X12_onesAhead pos (nI v) (nI place) (wH L xs g r rs) = some (nI (fb_ct p place), wH L xs g r rs) := by
  unfold f_X12_onesAhead
  have := m_ones_L hr hv hm hp xN 0 (by omega) (by unfold xN; omega)
  rw [show fb_ct p 0 = 0 from rfl] at this
  rw [l_0, this]
  rfl
end MOD
