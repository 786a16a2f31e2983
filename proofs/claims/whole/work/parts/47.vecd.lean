/-- the joined bit -/
def jB (how : Nat) (x y : Bool) : Bool := if how = 0 then x && y else if how = 1 then x || y else if how = 2 then x ^^ y else x && !y
def jI (how : Nat) (x y : Int32) : Int32 := if how = 0 then x &&& y else if how = 1 then x ||| y else if how = 2 then x ^^^ y else x &&& (y ^^^ nI 4294967295)
theorem jI_N {how : Nat} (p q : Nat → Bool) (b : Nat) : jI how (nI (mkN p b)) (nI (mkN q b)) = nI (mkN (fun k => jB how (p k) (q k)) b) := by
  unfold jI jB
  by_cases h0 : how = 0
  · simp only [h0, if_true]
    rw [nx_and]
    congr 1
    exact mkN_eq (fun k => by rw [Nat.testBit_and, mkN_bit, mkN_bit]; cases decide (k < 15) <;> simp)
  · by_cases h1 : how = 1
    · simp only [h1, if_true, show ¬ (1 = 0) by decide, if_false]
      rw [q_or]
      congr 1
      exact mkN_eq (fun k => by rw [Nat.testBit_or, mkN_bit, mkN_bit]; cases decide (k < 15) <;> simp)
    · by_cases h2 : how = 2
      · simp only [h2, if_true, show ¬ (2 = 0) by decide, show ¬ (2 = 1) by decide, if_false]
        rw [nx_xor]
        congr 1
        exact mkN_eq (fun k => by rw [Nat.testBit_xor, mkN_bit, mkN_bit]; cases decide (k < 15) <;> simp)
      · simp only [h0, h1, h2, if_false]
        rw [nx_xor, nx_and]
        congr 1
        refine mkN_eq (fun k => ?_)
        rw [Nat.testBit_and, Nat.testBit_xor, mkN_bit, mkN_bit, show (4294967295 : Nat) = 2 ^ 32 - 1 by decide, Nat.testBit_two_pow_sub_one]
        by_cases hk : k < 15
        · simp [hk, show k < 32 by omega]
        · simp [hk]
section VEC5
variable {L : Nat} {xs : Nat → Int32} {g : xS} {r : Nat → Option Nat} {rs : xH} {j n i : Nat} {p : Nat → Bool}
theorem e_joined {how : Nat} (hh : how < 4) {x y : Int32} {h : xH} : f_X1_joinedMask (nI how) x y h = some (jI how x y, h) := by
  unfold f_X1_joinedMask jI
  rcases (show how = 0 ∨ how = 1 ∨ how = 2 ∨ how = 3 by omega) with e | e | e | e <;> subst e <;> rfl
theorem join_L {a b2 how : Nat} (hj : j < 25) (ha : a < 25) (hb : b2 < 25) (hh : how < 4) : ∀ (m k : Nat) (f : Nat → Int32), k ≤ 32 → 32 < k + m → (∀ b, k ≤ b → f b = g (20 + j) b) → ∃ f', f_X1_becomeJoined_L18 m (vO j) (nI how) (vO a) (vO b2) (nI k) (wH L xs (va_up g (20 + j) f) r rs) = some (nI 32, wH L xs (va_up g (20 + j) f') r rs) ∧ (∀ b, k ≤ b → b < 32 → f' b = jI how (g (20 + a) b) (g (20 + b2) b)) ∧ ∀ b, b < k → f' b = f b := by
  intro m
  induction m with
  | zero => intro k f h1 h2; omega
  | succ m ih =>
    intro k f h1 h2 hf
    unfold f_X1_becomeJoined_L18
    by_cases hk : k = 32
    · subst hk
      simp (disch := omega) only [q_pos, q_pos', q_lt, q_le, q_eq, q_add, q_sub, q_mul, Option.bind_some, if_pos, if_neg, not_false_eq_true, q_m1', q_div, rm_N, l_0, l_1, l_2, l_3, l_4, l_5, l_6, l_7, l_8, l_10, l_11, l_12, l_13, l_14, l_15, l_16, l_18, l_20, l_21, l_22, l_23, l_24, l_32, l_33, l_40, l_44, l_48, l_57, l_59, l_60, l_63, l_64, l_97, l_98, l_99, l_100, l_111, l_116, l_122, l_132, l_200, l_240, l_255, l_480, l_1000, l_1452]
      exact ⟨f, rfl, fun b h1 h2 => by omega, fun b _ => rfl⟩
    · obtain ⟨f', e1, e2, e3⟩ := ih (k + 1) (upd f k (jI how (g (20 + a) k) (g (20 + b2) k))) (by omega) (by omega) (fun b hb => by rw [upd_o (by omega)]; exact hf b (by omega))
      have hr : ∀ c, va_up g (20 + j) f (20 + c) k = g (20 + c) k := by
        intro c
        by_cases hc : c = j
        · subst hc; rw [up_c]; exact hf k (Nat.le_refl _)
        · rw [up_oc (by omega)]
      refine ⟨f', ?_, fun b h1 h2 => ?_, fun b hb => ?_⟩
      · simp (disch := omega) only [q_pos, q_pos', q_lt, q_le, q_eq, q_add, q_sub, q_mul, Option.bind_some, if_pos, if_neg, not_false_eq_true, q_m1', q_div, rm_N, l_0, l_1, l_2, l_3, l_4, l_5, l_6, l_7, l_8, l_10, l_11, l_12, l_13, l_14, l_15, l_16, l_18, l_20, l_21, l_22, l_23, l_24, l_32, l_33, l_40, l_44, l_48, l_57, l_59, l_60, l_63, l_64, l_97, l_98, l_99, l_100, l_111, l_116, l_122, l_132, l_200, l_240, l_255, l_480, l_1000, l_1452, wrv hj, wrv ha, wrv hb, wav' ha, wav' hb, hr, e_joined hh, wuv' hj, gs_up]
        exact e1
      · by_cases hb : b = k
        · subst hb
          rw [e3 b (by omega), upd_s]
        · rw [e2 b (by omega) h2]
      · rw [e3 b (by omega), upd_o (by omega)]
theorem e_becomeJoined {a b2 how n2 : Nat} {p2 : Nat → Bool} (hj : j < 25) (ha : a < 25) (hb : b2 < 25) (hh : how < 4) (hv : vOK g a n p) (hv2 : vOK g b2 n2 p2) : ∃ g', f_X1_becomeJoined (vO j) (nI how) (vO a) (vO b2) (wH L xs g r rs) = some (wH L xs g' r rs) ∧ vOK g' j (max n n2) (fun k => jB how (p k) (p2 k)) ∧ vFr j g g' := by
  obtain ⟨h1, h2, h3, h4⟩ := hv
  obtain ⟨k1, k2, k3, k4⟩ := hv2
  obtain ⟨f', e1, e2, -⟩ := join_L (L := L) (xs := xs) (r := r) (rs := rs) (g := gs g 1 j (nI (max n n2))) hj ha hb hh xN 0 (gs g 1 j (nI (max n n2)) (20 + j)) (by omega) (by decide) (fun _ _ => rfl)
  rw [up_self] at e1
  have hm : max n n2 ≤ 480 := by omega
  refine ⟨va_up (gs g 1 j (nI (max n n2))) (20 + j) f', ?_, ⟨hm, by rw [up_oc (by omega)]; exact gs_same, fun k hk => ?_, fun b hb => ?_⟩, vFr_n.trans vFr_mf⟩
  · unfold f_X1_becomeJoined
    simp only [Option.bind_some, wiv ha, wiv hb, h2, k2, wpv hj]
    have em : (if nI n < nI n2 then nI n2 else nI n) = nI (max n n2) := by
      simp only [q_lt (show n < 2147483648 by omega) (show n2 < 2147483648 by omega)]
      split
      · rw [Nat.max_eq_right (by omega)]
      · rw [Nat.max_eq_left (by omega)]
    rw [em, l_0, e1]
    rfl
  · show jB how (p k) (p2 k) = false
    rw [h3 k (by omega), k3 k (by omega)]
    unfold jB
    split <;> (try split) <;> (try split) <;> rfl
  · rw [up_c, e2 b (Nat.zero_le _) hb, gs_oc (by omega), gs_oc (by omega), h4 b hb, k4 b hb, jI_N]
end VEC5
