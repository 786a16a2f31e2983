/-- only vector j has changed -/
def vFr (j : Nat) (g g' : xS) : Prop := (∀ c, c ≠ 1 → c ≠ 20 + j → g' c = g c) ∧ ∀ k, k ≠ j → g' 1 k = g 1 k
theorem vFr.rfl' {j : Nat} {g : xS} : vFr j g g := ⟨fun _ _ _ => rfl, fun _ _ => rfl⟩
theorem vFr.trans {j : Nat} {g1 g2 g3 : xS} (h1 : vFr j g1 g2) (h2 : vFr j g2 g3) : vFr j g1 g3 := ⟨fun c a b => (h2.1 c a b).trans (h1.1 c a b), fun k a => (h2.2 k a).trans (h1.2 k a)⟩
theorem vFr_m {j k : Nat} {g : xS} {x : Int32} : vFr j g (gs g (20 + j) k x) := ⟨fun c _ b => gs_oc b, fun k _ => by rw [gs_oc (by omega)]⟩
theorem vFr_mf {j : Nat} {g : xS} {f : Nat → Int32} : vFr j g (va_up g (20 + j) f) := ⟨fun c _ b => up_oc b, fun k _ => by rw [up_oc (by omega)]⟩
theorem vFr_n {j : Nat} {g : xS} {x : Int32} : vFr j g (gs g 1 j x) := ⟨fun c a _ => gs_oc a, fun k h => gs_ok h⟩
theorem vOK_fr {j j2 n : Nat} {p : Nat → Bool} {g g' : xS} (h : vOK g j2 n p) (hf : vFr j g g') (hj : j2 ≠ j) : vOK g' j2 n p := by
  obtain ⟨h1, h2, h3, h4⟩ := h
  exact ⟨h1, by rw [hf.2 j2 hj]; exact h2, h3, fun b hb => by rw [hf.1 (20 + j2) (by omega) (by omega)]; exact h4 b hb⟩
theorem bool_nI (w : Bool) : (nI w.toNat = 1) = (w = true) := by cases w <;> simp [nI] <;> decide
section VEC2
variable {L : Nat} {xs : Nat → Int32} {g : xS} {r : Nat → Option Nat} {rs : xH} {j n i : Nat} {p : Nat → Bool}
theorem vOK_put (hv : vOK g j n p) (hi : i < n) {m' : Nat} {w : Bool} (hm : ∀ k, m'.testBit k = if k = i % 15 then w else (mkN p (i / 15)).testBit k) : vOK (gs g (20 + j) (i / 15) (nI m')) j n (fun k => if k = i then w else p k) := by
  obtain ⟨h1, h2, h3, h4⟩ := hv
  refine ⟨h1, by rw [gs_oc (by omega)]; exact h2, fun k hk => ?_, fun b hb => ?_⟩
  · show (if k = i then w else p k) = false
    rw [if_neg (by omega)]; exact h3 k hk
  · by_cases e : b = i / 15
    · subst e
      rw [gs_same]
      congr 1
      refine mkN_eq (fun k => ?_)
      rw [hm k, mkN_bit]
      by_cases hk : k = i % 15
      · subst hk
        rw [if_pos rfl, Nat.div_add_mod, if_pos rfl]
        simp [Nat.mod_lt i (by decide : 0 < 15)]
      · rw [if_neg hk]
        by_cases hk2 : k < 15
        · rw [if_neg (by omega)]
        · simp [hk2]
    · rw [gs_ok e, h4 b hb]
      congr 1
      refine mkN_cong (fun k hk => ?_)
      rw [if_neg (by omega)]
theorem e_write (hj : j < 25) (hv : vOK g j n p) (hi : i < n) (w : Bool) : ∃ g', f_X1_write (vO j) (nI i) (nI w.toNat) (wH L xs g r rs) = some (wH L xs g' r rs) ∧ vOK g' j n (fun k => if k = i then w else p k) ∧ vFr j g g' := by
  have hv' := hv
  obtain ⟨h1, h2, h3, h4⟩ := hv'
  have hml := mkN_lt p (i / 15)
  have h15 : i % 15 < 15 := Nat.mod_lt i (by decide)
  have e1 : (1 : Int32) <<< (nI (i % 15) &&& 31) = nI (2 ^ (i % 15)) := by
    rw [show (1 : Int32) = nI 1 from rfl, q_shl (by omega) (by rw [Nat.one_mul]; exact Nat.lt_of_lt_of_le (Nat.pow_lt_pow_right (by decide) h15) (by decide)), Nat.one_shiftLeft]
  unfold f_X1_write
  have h5 := h4 (i / 15) (by omega)
  simp (disch := omega) only [q_pos, if_neg, not_false_eq_true, wiv hj, Option.bind_some, h2, q_lt, hi, if_true, if_false, wrv hj, n15, wav' hj, m15, e1, h5]
  cases w with
  | true =>
    simp (disch := omega) only [show (nI true.toNat = 1) = True from eq_true rfl, if_true, q_or, wuv' hj, Option.bind_some]
    refine ⟨_, rfl, vOK_put hv hi (fun k => ?_), vFr_m⟩
    rw [fb_bit_set]
    by_cases hk : k = i % 15
    · rw [if_pos hk]; simp [hk]
    · rw [if_neg hk]; simp [hk]
  | false =>
    simp (disch := omega) only [show (nI false.toNat = 1) = False from eq_false (by decide), if_false, q_m1, nx_xor, nx_and, wuv' hj, Option.bind_some]
    refine ⟨_, rfl, vOK_put hv hi (fun k => ?_), vFr_m⟩
    rw [Nat.testBit_and, Nat.testBit_xor, Nat.testBit_two_pow, show (4294967295 : Nat) = 2 ^ 32 - 1 by decide, Nat.testBit_two_pow_sub_one]
    by_cases hk : k = i % 15
    · rw [if_pos hk, hk]
      simp [Nat.lt_trans h15 (by decide : 15 < 32)]
    · rw [if_neg hk]
      by_cases h32 : k < 32
      · simp [h32, Ne.symm hk]
      · rw [Nat.testBit_lt_two_pow (Nat.lt_of_lt_of_le hml (Nat.le_trans (by decide : 32768 ≤ 2 ^ 32) (Nat.pow_le_pow_right (by decide) (by omega))))]
        simp
end VEC2
