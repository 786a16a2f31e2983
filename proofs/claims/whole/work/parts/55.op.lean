/-- both sides answer alike and change nothing -/
def RO {α : Type} (L : Nat) (xs : Nat → Int32) (g : xS) (r : Nat → Option Nat) (rs : xH) (A B : xH → Option (α × xH)) : Prop := ∃ a, A (wH L xs g r rs) = some (a, wH L xs g r rs) ∧ B (wH L xs g r rs) = some (a, wH L xs g r rs)
/-- both sides answer alike, and stay alike -/
def Op {α : Type} (L : Nat) (xs : Nat → Int32) (g : xS) (r : Nat → Option Nat) (rs : xH) (A B : xH → Option (α × xH)) : Prop := ∃ a g1 r1 rs1 g2, A (wH L xs g r rs) = some (a, wH L xs g1 r1 rs1) ∧ B (wH L xs g1 r1 rs1) = some (a, wH L xs g2 r1 rs1) ∧ Rel g2 r1 rs1 ∧ rs1.length ≤ rs.length + 12 ∧ xz rs1 ≤ xz rs + 600
theorem RO.op {α : Type} {L : Nat} {xs : Nat → Int32} {g : xS} {r : Nat → Option Nat} {rs : xH} {A B : xH → Option (α × xH)} (h : RO L xs g r rs A B) (R : Rel g r rs) : Op L xs g r rs A B := by
  obtain ⟨a, h1, h2⟩ := h
  exact ⟨a, g, r, rs, g, h1, h2, R, by omega, by omega⟩
theorem nI_w (n : Nat) : nI (n + 4294967296) = nI n := by
  apply Int32.toBitVec_inj.1
  show BitVec.ofNat 32 (n + 4294967296) = BitVec.ofNat 32 n
  apply BitVec.eq_of_toNat_eq
  rw [BitVec.toNat_ofNat, BitVec.toNat_ofNat]
  omega
theorem q_dec {k : Nat} (h : 0 < k) : nI (k + 4294967295) = nI (k - 1) := by
  rw [show k + 4294967295 = (k - 1) + 4294967296 by omega, nI_w]
theorem q_lm {h : 4294967295 < 4294967296} : nI 4294967295 < nI 0 := by decide
theorem q_lm0 : nI (0 + 4294967295) < nI 0 := by decide
