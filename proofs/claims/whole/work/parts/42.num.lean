/-! numbers: comparisons and operations of ints that are nI of something -/
theorem q_lt {a b : Nat} (ha : a < 2147483648) (hb : b < 2147483648) : (nI a < nI b) = (a < b) := propext (nI_ltI ha hb)
theorem q_le {a b : Nat} (ha : a < 2147483648) (hb : b < 2147483648) : (nI a ≤ nI b) = (a ≤ b) := propext (nI_leI ha hb)
theorem q_eq {a b : Nat} (ha : a < 2147483648) (hb : b < 2147483648) : (nI a = nI b) = (a = b) := propext (nI_eq ha hb)
theorem q_add (a b : Nat) : nI a + nI b = nI (a + b) := nI_add a b
theorem q_sub {a b : Nat} (h : b ≤ a) : nI a - nI b = nI (a - b) := pk_sub h
theorem q_mul (a b : Nat) : nI a * nI b = nI (a * b) := pk_mul a b
theorem q_div {a d : Nat} (ha : a < 2147483648) (h0 : 0 < d) (hd : d < 2147483648) : nI a / nI d = nI (a / d) := pk_div ha h0 hd
theorem q_rem {a d : Nat} (ha : a < 2147483648) (h0 : 0 < d) (hd : d < 2147483648) : nI a - nI a / nI d * nI d = nI (a % d) := pk_rem ha h0 hd
theorem q_or (a b : Nat) : nI a ||| nI b = nI (a ||| b) := by
  apply Int32.toBitVec_inj.1
  show BitVec.ofNat 32 a ||| BitVec.ofNat 32 b = BitVec.ofNat 32 (a ||| b)
  apply BitVec.eq_of_getLsbD_eq
  intro i hi
  simp [hi]
theorem q_shr {a k : Nat} (ha : a < 2147483648) (hk : k < 32) : nI a >>> (nI k &&& 31) = nI (a >>> k) := by
  rw [pk_shrN ha _ k (s_l k hk), Nat.shiftRight_eq_div_pow]
theorem q_shl {a k : Nat} (hk : k < 32) (h : a * 2 ^ k < 4294967296) : nI a <<< (nI k &&& 31) = nI (a <<< k) := by
  rw [pk_shlN _ k (s_l k hk) h, Nat.shiftLeft_eq]
theorem q_m1 : (-1 : Int32) = nI 4294967295 := by decide
theorem q_bit {m k : Nat} (hm : m < 2147483648) (hk : k < 32) : (nI m >>> (nI k &&& 31)) &&& (1 : Int32) = nI (m.testBit k).toNat := by
  rw [q_shr hm hk, show (1 : Int32) = nI 1 from rfl, nx_and, Nat.and_one_is_mod, Nat.shiftRight_eq_div_pow, Nat.toNat_testBit]
theorem q_pos {a : Nat} (ha : a < 2147483648) : ¬ nI a < 0 := nI_pos ha
theorem q_pos' {a : Nat} (ha : a < 2147483648) : 0 ≤ nI a := nI_pos' ha
theorem q_z {a : Nat} (ha : a < 2147483648) : (nI a = 0) = (a = 0) := by
  rw [show (0 : Int32) = nI 0 from rfl, q_eq ha (by omega)]
theorem q_o {a : Nat} (ha : a < 2147483648) : (nI a = 1) = (a = 1) := by
  rw [show (1 : Int32) = nI 1 from rfl, q_eq ha (by omega)]
/-! masks out of bits -/
def mkB (q : Nat → Bool) : Nat → Nat
  | 0 => 0
  | n + 1 => mkB q n + (if q n then 2 ^ n else 0)
theorem mkB_lt (q : Nat → Bool) : ∀ n, mkB q n < 2 ^ n
  | 0 => Nat.one_pos
  | n + 1 => by
    have h := mkB_lt q n
    have e : 2 ^ (n + 1) = 2 ^ n + 2 ^ n := by rw [Nat.pow_succ]; omega
    show mkB q n + (if q n then 2 ^ n else 0) < 2 ^ (n + 1)
    split <;> omega
theorem mkB_bit (q : Nat → Bool) (k : Nat) : ∀ n, (mkB q n).testBit k = (decide (k < n) && q k)
  | 0 => by simp [mkB]
  | n + 1 => by
    have ih := mkB_bit q k n
    have hl := mkB_lt q n
    show (mkB q n + (if q n then 2 ^ n else 0)).testBit k = _
    by_cases hq : q n = true
    · rw [if_pos hq, Nat.add_comm]
      rcases Nat.lt_trichotomy k n with h | h | h
      · rw [Nat.testBit_two_pow_add_gt h, ih]
        simp [h, Nat.lt_succ_of_lt h]
      · subst h
        rw [Nat.testBit_two_pow_add_eq, Nat.testBit_lt_two_pow hl]
        simp [hq]
      · rw [Nat.testBit_lt_two_pow (Nat.lt_of_lt_of_le (by omega : 2 ^ n + mkB q n < 2 ^ n + 2 ^ n) (by rw [← Nat.two_mul, ← Nat.pow_succ']; exact Nat.pow_le_pow_right (by decide) h))]
        simp
        omega
    · rw [if_neg hq, Nat.add_zero, ih]
      by_cases h : k = n
      · subst h
        simp [Bool.eq_false_iff.mpr hq]
      · congr 1
        simp
        omega
def mkN (p : Nat → Bool) (b : Nat) : Nat := mkB (fun k => p (15 * b + k)) 15
theorem mkN_bit (p : Nat → Bool) (b k : Nat) : (mkN p b).testBit k = (decide (k < 15) && p (15 * b + k)) := mkB_bit _ k 15
theorem mkN_lt (p : Nat → Bool) (b : Nat) : mkN p b < 32768 := mkB_lt _ 15
theorem mkN_eq {x : Nat} {p : Nat → Bool} {b : Nat} (h : ∀ k, x.testBit k = (decide (k < 15) && p (15 * b + k))) : x = mkN p b := Nat.eq_of_testBit_eq (fun k => (h k).trans (mkN_bit p b k).symm)
theorem mkN_cong {p q : Nat → Bool} {b : Nat} (h : ∀ k, k < 15 → p (15 * b + k) = q (15 * b + k)) : mkN p b = mkN q b := mkN_eq (fun k => by
  rw [mkN_bit]
  by_cases hk : k < 15
  · rw [h k hk]
  · simp [hk])
theorem mkN_at (p : Nat → Bool) (i : Nat) : (mkN p (i / 15)).testBit (i % 15) = p i := by
  rw [mkN_bit, Nat.div_add_mod]
  simp [Nat.mod_lt i (by decide : 0 < 15)]
/-- vector j has n bits, those of p; behind its end p has none -/
def vOK (g : xS) (j n : Nat) (p : Nat → Bool) : Prop := n ≤ 480 ∧ g 1 j = nI n ∧ (∀ i, n ≤ i → p i = false) ∧ ∀ b, b < 32 → g (20 + j) b = nI (mkN p b)
section VEC
variable {L : Nat} {xs : Nat → Int32} {g : xS} {r : Nat → Option Nat} {rs : xH} {j n i : Nat} {p : Nat → Bool}
theorem n15 {i : Nat} (hi : i < 2147483648) : nI i / (15 : Int32) = nI (i / 15) := pk_div hi (by decide) (by decide)
theorem m15 {i : Nat} (hi : i < 2147483648) : nI i - nI (i / 15) * (15 : Int32) = nI (i % 15) := by
  rw [← n15 hi]
  exact pk_rem hi (by decide) (by decide)
theorem e_bitAt (hj : j < 25) (hv : vOK g j n p) (hi : i < n) : f_X1_bitAt (vO j) (nI i) (wH L xs g r rs) = some (nI (p i).toNat, wH L xs g r rs) := by
  obtain ⟨h1, h2, h3, h4⟩ := hv
  unfold f_X1_bitAt
  rw [if_neg (q_pos (by omega)), wiv hj, Option.bind_some, h2, if_pos (nI_lt hi (by omega)), wrv hj, Option.bind_some, n15 (by omega), wav hj rfl (by omega), Option.bind_some, h4 (i / 15) (by omega), m15 (by omega), q_bit (Nat.lt_trans (mkN_lt _ _) (by decide)) (by omega), mkN_at]
end VEC
