/-! Integer.bitCount -/
def bcU (x : Int32) (k : Int32) : Int32 := (x.toUInt32 >>> (k.toUInt32 &&& Int32.toUInt32 31)).toInt32
def bc1 (x : Int32) : Int32 := x - (bcU x 1 &&& 1431655765)
def bc2 (x : Int32) : Int32 := (x &&& 858993459) + (bcU x 2 &&& 858993459)
def bc3 (x : Int32) : Int32 := (x + bcU x 4) &&& 252645135
def bc4 (x : Int32) : Int32 := x + bcU x 8
def bc5 (x : Int32) : Int32 := x + bcU x 16
theorem bc_eq (x : Int32) (h : xH) : f_J6_bitCount_0f7a4 x h = some (bc5 (bc4 (bc3 (bc2 (bc1 x)))) &&& 63, h) := rfl
def bn1 (x : Nat) : Nat := x - (x / 2 &&& 1431655765)
def bn2 (x : Nat) : Nat := (x &&& 858993459) + (x / 4 &&& 858993459)
def bn3 (x : Nat) : Nat := (x + x / 16) &&& 252645135
def bn4 (x : Nat) : Nat := x + x / 256
def bn5 (x : Nat) : Nat := x + x / 65536
theorem bcU_N {n : Nat} (hn : n < 4294967296) (k : Nat) (K : Int32) (hk : ((K.toUInt32 &&& Int32.toUInt32 31).toBitVec % 32).toNat = k) : bcU (nI n) K = nI (n / 2 ^ k) := pk_ushrN hn K k hk
def strN (n : Nat) (f : Nat → Nat) : Nat := Nat.rec (f 0) (fun k _ => f (k + 1)) n
theorem strN_eq (n : Nat) (f : Nat → Nat) : strN n f = f n := by cases n <;> rfl
def bnS (m : Nat) : Nat := strN (bn1 m) fun x1 => strN (bn2 x1) fun x2 => strN (bn3 x2) fun x3 => strN (bn4 x3) fun x4 => strN (bn5 x4) fun x5 => x5 % 64
def pcR : Nat → Nat → Nat
  | 0, _ => 0
  | k + 1, m => strN (m / 2) fun q => m % 2 + pcR k q
def bnE (m : Nat) : Nat := if Nat.beq (bnS m) (pcR 15 m) then 1 else 0
def bnC (a : Nat) : Bool := (List.range 256).all fun b => Nat.beq (strN (256 * a + b) bnE) 1
theorem bn_c0 : (List.range 8).all (fun a => bnC (0 + a)) = true := by decide +kernel
theorem bn_c1 : (List.range 8).all (fun a => bnC (8 + a)) = true := by decide +kernel
theorem bn_c2 : (List.range 8).all (fun a => bnC (16 + a)) = true := by decide +kernel
theorem bn_c3 : (List.range 8).all (fun a => bnC (24 + a)) = true := by decide +kernel
theorem bn_c4 : (List.range 8).all (fun a => bnC (32 + a)) = true := by decide +kernel
theorem bn_c5 : (List.range 8).all (fun a => bnC (40 + a)) = true := by decide +kernel
theorem bn_c6 : (List.range 8).all (fun a => bnC (48 + a)) = true := by decide +kernel
theorem bn_c7 : (List.range 8).all (fun a => bnC (56 + a)) = true := by decide +kernel
theorem bn_c8 : (List.range 8).all (fun a => bnC (64 + a)) = true := by decide +kernel
theorem bn_c9 : (List.range 8).all (fun a => bnC (72 + a)) = true := by decide +kernel
theorem bn_c10 : (List.range 8).all (fun a => bnC (80 + a)) = true := by decide +kernel
theorem bn_c11 : (List.range 8).all (fun a => bnC (88 + a)) = true := by decide +kernel
theorem bn_c12 : (List.range 8).all (fun a => bnC (96 + a)) = true := by decide +kernel
theorem bn_c13 : (List.range 8).all (fun a => bnC (104 + a)) = true := by decide +kernel
theorem bn_c14 : (List.range 8).all (fun a => bnC (112 + a)) = true := by decide +kernel
theorem bn_c15 : (List.range 8).all (fun a => bnC (120 + a)) = true := by decide +kernel
theorem bn_all {a : Nat} (ha : a < 128) : bnC a = true := by
  have key : ∀ q, q < 16 → (List.range 8).all (fun a => bnC (8 * q + a)) = true := fun q hq => match q, hq with
    | 0, _ => bn_c0
    | 1, _ => bn_c1
    | 2, _ => bn_c2
    | 3, _ => bn_c3
    | 4, _ => bn_c4
    | 5, _ => bn_c5
    | 6, _ => bn_c6
    | 7, _ => bn_c7
    | 8, _ => bn_c8
    | 9, _ => bn_c9
    | 10, _ => bn_c10
    | 11, _ => bn_c11
    | 12, _ => bn_c12
    | 13, _ => bn_c13
    | 14, _ => bn_c14
    | 15, _ => bn_c15
    | k + 16, h => absurd h (by omega)
  have h := List.all_eq_true.mp (key (a / 8) (by omega)) (a % 8) (List.mem_range.mpr (by omega))
  rwa [Nat.div_add_mod] at h
theorem pcR_ct : ∀ n m, pcR n m = fb_ct (fun k => m.testBit k) n
  | 0, _ => rfl
  | n + 1, m => by
    show strN (m / 2) (fun q => m % 2 + pcR n q) = _
    rw [strN_eq, pcR_ct n (m / 2), Nat.add_comm n 1, fb_ct_split]
    congr 1
    · show m % 2 = 0 + (if m.testBit 0 then 1 else 0)
      rw [Nat.testBit_zero]
      rcases Nat.mod_two_eq_zero_or_one m with h | h <;> simp [h]
    · exact fb_ct_cong (fun k _ => by rw [Nat.add_comm 1 k, Nat.testBit_succ])
theorem bn_ct' {m : Nat} (hm : m < 32768) : bn5 (bn4 (bn3 (bn2 (bn1 m)))) % 64 = fb_ct (fun k => m.testBit k) 15 := by
  have h := List.all_eq_true.mp (bn_all (a := m / 256) (by omega)) (m % 256) (List.mem_range.mpr (by omega))
  rw [Nat.div_add_mod, strN_eq] at h
  have h2 : bnE m = 1 := Nat.eq_of_beq_eq_true h
  unfold bnE at h2
  have h3 : Nat.beq (bnS m) (pcR 15 m) = true := by
    by_cases hb : Nat.beq (bnS m) (pcR 15 m) = true
    · exact hb
    · rw [if_neg hb] at h2; cases h2
  have h4 := Nat.eq_of_beq_eq_true h3
  rw [pcR_ct] at h4
  rw [← h4]
  simp only [bnS, strN_eq]
theorem bn_le {m : Nat} : bn1 m ≤ m := Nat.sub_le _ _
theorem e_bitCount {m : Nat} (hm : m < 32768) (h : xH) : f_J6_bitCount_0f7a4 (nI m) h = some (nI (fb_ct (fun k => m.testBit k) 15), h) := by
  rw [bc_eq]
  have a1 : m / 2 &&& 1431655765 ≤ m := Nat.le_trans Nat.and_le_left (Nat.div_le_self _ _)
  have e1 : bc1 (nI m) = nI (bn1 m) := by
    unfold bc1 bn1
    rw [bcU_N (by omega) 1 1 (by decide), show (1431655765 : Int32) = nI 1431655765 from rfl, nx_and, q_sub (by simpa using a1)]
  have l1 : bn1 m ≤ m := bn_le
  have hc := bn_ct' hm
  generalize bn1 m = m1 at e1 l1 hc
  have e2 : bc2 (nI m1) = nI (bn2 m1) := by
    unfold bc2 bn2
    rw [bcU_N (by omega) 2 2 (by decide), show (858993459 : Int32) = nI 858993459 from rfl, nx_and, nx_and, q_add]
  have l2 : bn2 m1 ≤ 2 * m1 := by
    have := @Nat.and_le_left m1 858993459
    have := @Nat.and_le_left (m1 / 4) 858993459
    unfold bn2
    omega
  generalize bn2 m1 = m2 at e2 l2 hc
  have e3 : bc3 (nI m2) = nI (bn3 m2) := by
    unfold bc3 bn3
    rw [bcU_N (by omega) 4 4 (by decide), q_add, show (252645135 : Int32) = nI 252645135 from rfl, nx_and]
  have l3 : bn3 m2 ≤ 2 * m2 := by
    have := @Nat.and_le_left (m2 + m2 / 16) 252645135
    unfold bn3
    omega
  generalize bn3 m2 = m3 at e3 l3 hc
  have e4 : bc4 (nI m3) = nI (bn4 m3) := by
    unfold bc4 bn4
    rw [bcU_N (by omega) 8 8 (by decide), q_add]
  have l4 : bn4 m3 ≤ 2 * m3 := by unfold bn4; omega
  generalize bn4 m3 = m4 at e4 l4 hc
  have e5 : bc5 (nI m4) = nI (bn5 m4) := by
    unfold bc5 bn5
    rw [bcU_N (by omega) 16 16 (by decide), q_add]
  rw [e1, e2, e3, e4, e5, show (63 : Int32) = nI 63 from rfl, nx_and, ← hc]
  congr 3
  exact Nat.and_two_pow_sub_one_eq_mod _ 6
