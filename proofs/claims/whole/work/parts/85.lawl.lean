theorem wL_z (L : Nat) (ys : Nat → Int32) (g : xS) (r : Nat → Option Nat) : xz (wL L ys g r) ≤ 10000 + L := by
  unfold xz wL
  simp only [List.map_cons, List.map_nil, List.sum_cons, List.sum_nil, xs, List.length_cons, List.length_nil]
  omega
theorem wH_z (L : Nat) (ys : Nat → Int32) (g : xS) (r : Nat → Option Nat) (rs : xH) : xz (wH L ys g r rs) ≤ 10000 + L + xz rs := by
  have h := wL_z L ys g r
  have e : xz (wH L ys g r rs) = xz (wL L ys g r) + xz rs := by
    unfold xz wH
    rw [List.map_append, List.sum_append]
  omega
section LAWL
variable {L : Nat} {xs : Nat → Int32}
theorem law_lt {i : Nat} (hL : L ≤ 3072) (hi : i ≤ 12000) : (Int32.ofNat L - (6 : Int32) < nI i) = (L < i + 6) := by
  have h1 : (nI L - nI 6).toInt = (L : Int) - 6 := bg_t (by omega) (by omega)
  have h2 : (nI i).toInt = (i : Int) := nI_toInt (by omega)
  apply propext
  show (nI L - nI 6 < nI i) ↔ _
  rw [Int32.lt_iff_toInt_lt, h1, h2]
  omega
theorem law_L (hL : L ≤ 3072) : ∀ (n i : Nat) (g : xS) (r : Nat → Option Nat) (rs : xH), i + 6 * n = 12000 → i ≤ L + 6 → Rel g r rs → ∃ g' r' rs', f_law_L18 n 2 3 84 (nI i) (wH L xs g r rs) = some (1, wH L xs g' r' rs') ∧ rs'.length ≤ rs.length + 12 * n ∧ xz rs' ≤ xz rs + 600 * n := by
  intro n
  induction n with
  | zero => intro i g r rs h1 h2; omega
  | succ n ih =>
    intro i g r rs h1 h2 R
    by_cases hi : L < i + 6
    · refine ⟨g, r, rs, ?_, by omega, by omega⟩
      unfold f_law_L18
      rw [show xaL (wH L xs g r rs) 2 = some (Int32.ofNat L) from rfl, ob_s, if_pos (by rw [law_lt hL (by omega)]; exact hi)]
    · have st : ∀ (X : Option (Int32 × xH)), (∃ g' r' rs', X = f_law_L18 n 2 3 84 (nI i + (6 : Int32)) (wH L xs g' r' rs') ∧ Rel g' r' rs' ∧ rs'.length ≤ rs.length + 12 ∧ xz rs' ≤ xz rs + 600) → ∃ g' r' rs', X = some (1, wH L xs g' r' rs') ∧ rs'.length ≤ rs.length + 12 * (n + 1) ∧ xz rs' ≤ xz rs + 600 * (n + 1) := fun X hX => by
        obtain ⟨g1, r1, rs1, e1, R1, z1, z2⟩ := hX
        obtain ⟨g2, r2, rs2, a1, a2, a3⟩ := ih (i + 6) g1 r1 rs1 (by omega) (by omega) R1
        refine ⟨g2, r2, rs2, ?_, by omega, by omega⟩
        rw [e1, show (6 : Int32) = nI 6 from rfl, q_add]
        exact a1
      have hi6 : i + 6 ≤ L := by omega
      unfold f_law_L18
      rw [show xaL (wH L xs g r rs) 2 = some (Int32.ofNat L) from rfl, ob_s, if_neg (by rw [law_lt hL (by omega)]; exact hi), sc hL (show i < L by omega), ob_s]
      generalize xs i &&& (63 : Int32) = v
      by_cases h0 : v = 0
      · rw [if_pos h0]
        exact st _ (lcq_0 R hL hi6 _)
      rw [if_neg h0]
      by_cases h1 : v = 1
      · rw [if_pos h1]
        exact st _ (lcq_1 R hL hi6 _)
      rw [if_neg h1]
      by_cases h2 : v = 2
      · rw [if_pos h2]
        exact st _ (lcq_2 R hL hi6 _)
      rw [if_neg h2]
      by_cases h3 : v = 3
      · rw [if_pos h3]
        exact st _ (lcq_3 R hL hi6 _)
      rw [if_neg h3]
      by_cases h4 : v = 4
      · rw [if_pos h4]
        exact st _ (lcq_4 R hL hi6 _)
      rw [if_neg h4]
      by_cases h5 : v = 5
      · rw [if_pos h5]
        exact st _ (lcq_5 R hL hi6 _)
      rw [if_neg h5]
      by_cases h6 : v = 6
      · rw [if_pos h6]
        exact st _ (lcq_6 R hL hi6 _)
      rw [if_neg h6]
      by_cases h7 : v = 7
      · rw [if_pos h7]
        exact st _ (lcq_7 R hL hi6 _)
      rw [if_neg h7]
      by_cases h8 : v = 8
      · rw [if_pos h8]
        exact st _ (lcq_8 R hL hi6 _)
      rw [if_neg h8]
      by_cases h9 : v = 9
      · rw [if_pos h9]
        exact st _ (lcq_9 R hL hi6 _)
      rw [if_neg h9]
      by_cases h10 : v = 10
      · rw [if_pos h10]
        exact st _ (lcq_10 R hL hi6 _)
      rw [if_neg h10]
      by_cases h11 : v = 11
      · rw [if_pos h11]
        exact st _ (lcq_11 R hL hi6 _)
      rw [if_neg h11]
      by_cases h12 : v = 12
      · rw [if_pos h12]
        exact st _ (lcq_12 R hL hi6 _)
      rw [if_neg h12]
      by_cases h13 : v = 13
      · rw [if_pos h13]
        exact st _ (lcq_13 R hL hi6 _)
      rw [if_neg h13]
      by_cases h14 : v = 14
      · rw [if_pos h14]
        exact st _ (lcq_14 R hL hi6 _)
      rw [if_neg h14]
      by_cases h15 : v = 15
      · rw [if_pos h15]
        exact st _ (lcq_15 R hL hi6 _)
      rw [if_neg h15]
      by_cases h16 : v = 16
      · rw [if_pos h16]
        exact st _ (lcq_16 R hL hi6 _)
      rw [if_neg h16]
      by_cases h17 : v = 17
      · rw [if_pos h17]
        exact st _ (lcq_17 R hL hi6 _)
      rw [if_neg h17]
      by_cases h18 : v = 18
      · rw [if_pos h18]
        exact st _ (lcq_18 R hL hi6 _)
      rw [if_neg h18]
      by_cases h19 : v = 19
      · rw [if_pos h19]
        exact st _ (lcq_19 R hL hi6 _)
      rw [if_neg h19]
      by_cases h20 : v = 20
      · rw [if_pos h20]
        exact st _ (lcq_20 R hL hi6 _)
      rw [if_neg h20]
      by_cases h21 : v = 21
      · rw [if_pos h21]
        exact st _ (lcq_21 R hL hi6 _)
      rw [if_neg h21]
      by_cases h22 : v = 22
      · rw [if_pos h22]
        exact st _ (lcq_22 R hL hi6 _)
      rw [if_neg h22]
      by_cases h23 : v = 23
      · rw [if_pos h23]
        exact st _ (lcq_23 R hL hi6 _)
      rw [if_neg h23]
      by_cases h24 : v = 24
      · rw [if_pos h24]
        exact st _ (lcq_24 R hL hi6 _)
      rw [if_neg h24]
      by_cases h25 : v = 25
      · rw [if_pos h25]
        exact st _ (lcq_25 R hL hi6 _)
      rw [if_neg h25]
      by_cases h26 : v = 26
      · rw [if_pos h26]
        exact st _ (lcq_26 R hL hi6 _)
      rw [if_neg h26]
      by_cases h27 : v = 27
      · rw [if_pos h27]
        exact st _ (lcq_27 R hL hi6 _)
      rw [if_neg h27]
      by_cases h28 : v = 28
      · rw [if_pos h28]
        exact st _ (lcq_28 R hL hi6 _)
      rw [if_neg h28]
      by_cases h29 : v = 29
      · rw [if_pos h29]
        exact st _ (lcq_29 R hL hi6 _)
      rw [if_neg h29]
      by_cases h30 : v = 30
      · rw [if_pos h30]
        exact st _ (lcq_30 R hL hi6 _)
      rw [if_neg h30]
      by_cases h31 : v = 31
      · rw [if_pos h31]
        exact st _ (lcq_31 R hL hi6 _)
      rw [if_neg h31]
      by_cases h32 : v = 32
      · rw [if_pos h32]
        exact st _ (lcq_32 R hL hi6 _)
      rw [if_neg h32]
      by_cases h33 : v = 33
      · rw [if_pos h33]
        exact st _ (lcq_33 R hL hi6 _)
      rw [if_neg h33]
      by_cases h34 : v = 34
      · rw [if_pos h34]
        exact st _ (lcq_34 R hL hi6 _)
      rw [if_neg h34]
      by_cases h35 : v = 35
      · rw [if_pos h35]
        exact st _ (lcq_35 R hL hi6 _)
      rw [if_neg h35]
      by_cases h36 : v = 36
      · rw [if_pos h36]
        exact st _ (lcq_36 R hL hi6 _)
      rw [if_neg h36]
      by_cases h37 : v = 37
      · rw [if_pos h37]
        exact st _ (lcq_37 R hL hi6 _)
      rw [if_neg h37]
      by_cases h38 : v = 38
      · rw [if_pos h38]
        exact st _ (lcq_38 R hL hi6 _)
      rw [if_neg h38]
      by_cases h39 : v = 39
      · rw [if_pos h39]
        exact st _ (lcq_39 R hL hi6 _)
      rw [if_neg h39]
      by_cases h40 : v = 40
      · rw [if_pos h40]
        exact st _ (lcq_40 R hL hi6 _)
      rw [if_neg h40]
      by_cases h41 : v = 41
      · rw [if_pos h41]
        exact st _ (lcq_41 R hL hi6 _)
      rw [if_neg h41]
      exact st _ ⟨g, r, rs, rfl, R, by omega, by omega⟩
theorem pure_law : PureLaw := by
  intro L xs hL
  obtain ⟨g0, a1, a2, a3, a4⟩ := i12 (L := L) (xs := xs)
  have R0 := rel0 a2 a3 a4
  obtain ⟨g', r', rs', b1, b2, b3⟩ := law_L (xs := xs) hL 2000 0 g0 _ [] (by omega) (by omega) R0
  have hz := wH_z L xs g' r' rs'
  have z0 : xz ([] : xH) = 0 := rfl
  refine ⟨wH L xs g' r' rs', ?_, by rw [wH_len]; simp only [List.length_nil] at b2; omega, by omega⟩
  have e1 : f_X11_init (ro0 L xs).length (ro0 L xs ++ [.inr (10, [.null, .null, .null, .null, .null, .null, .null, .null, .null, .int 0, .int 0, .int 0])]) = some (H11 L xs) := i11 L xs
  have e2 : f_X12_init (H11 L xs).length (H11 L xs ++ [.inr (11, [.null, .null, .null, .null, .int 0, .null, .int 0, .int 0, .int 0, .int 0, .int 0, .int 0, .int 0, .null, .null, .null, .int 0, .null, .null, .int 0, .null, .null, .int 0, .null, .null, .null, .null, .int 0])]) = some (wH L xs g0 (fun _ => none) []) := a1
  unfold f_law
  rw [e1, ob_s, e2, ob_s, l_0]
  exact b1
end LAWL
