/-! the law: a row a call -/
section LAWC
variable {L : Nat} {xs : Nat → Int32} {g : xS} {r : Nat → Option Nat} {rs : xH} {i : Nat}
theorem sc {k : Nat} (hL : L ≤ 3072) (hk : k < L) : xaI (wH L xs g r rs) 2 (nI k) = some (xs k) := wa_2 hL rfl hk
theorem lcq_0 (R : Rel g r rs) (hL : L ≤ 3072) (hi : i + 6 ≤ L) (K : Int32 → xH → Option (Int32 × xH)) : ∃ g' r' rs', f_law_c0 K 2 3 84 (nI i) (wH L xs g r rs) = K (nI i) (wH L xs g' r' rs') ∧ Rel g' r' rs' ∧ rs'.length ≤ rs.length + 12 ∧ xz rs' ≤ xz rs + 600 := by
  obtain ⟨a, g1, r1, rs1, g2, e1, e2, R2, z1, z2⟩ := (o_row (L := L) (xs := xs) R (xs (i + 1)) (xs (i + 2)) (xs (i + 3)))
  refine ⟨g2, r1, rs1, ?_, R2, z1, z2⟩
  unfold f_law_c0
  simp (disch := omega) only [sc hL, ob_s, wk_3, wk_84, if_true, e1, e2, q_add, l_1, l_2, l_3]
theorem lcq_1 (R : Rel g r rs) (hL : L ≤ 3072) (hi : i + 6 ≤ L) (K : Int32 → xH → Option (Int32 × xH)) : ∃ g' r' rs', f_law_c1 K 2 3 84 (nI i) (wH L xs g r rs) = K (nI i) (wH L xs g' r' rs') ∧ Rel g' r' rs' ∧ rs'.length ≤ rs.length + 12 ∧ xz rs' ≤ xz rs + 600 := by
  obtain ⟨a, g1, r1, rs1, g2, e1, e2, R2, z1, z2⟩ := (o_set (L := L) (xs := xs) R (xs (i + 1)) (xs (i + 2)) (xs (i + 3)))
  refine ⟨g2, r1, rs1, ?_, R2, z1, z2⟩
  unfold f_law_c1
  simp (disch := omega) only [sc hL, ob_s, wk_3, wk_84, if_true, e1, e2, q_add, l_1, l_2, l_3]
theorem lcq_2 (R : Rel g r rs) (hL : L ≤ 3072) (hi : i + 6 ≤ L) (K : Int32 → xH → Option (Int32 × xH)) : ∃ g' r' rs', f_law_c2 K 2 3 84 (nI i) (wH L xs g r rs) = K (nI i) (wH L xs g' r' rs') ∧ Rel g' r' rs' ∧ rs'.length ≤ rs.length + 12 ∧ xz rs' ≤ xz rs + 600 := by
  obtain ⟨a, g1, r1, rs1, g2, e1, e2, R2, z1, z2⟩ := (o_copy (L := L) (xs := xs) R (xs (i + 1)) (xs (i + 2)) (xs (i + 3)) (xs (i + 4)) (xs (i + 5)))
  refine ⟨g2, r1, rs1, ?_, R2, z1, z2⟩
  unfold f_law_c2
  simp (disch := omega) only [sc hL, ob_s, wk_3, wk_84, if_true, e1, e2, q_add, l_1, l_2, l_3, l_4, l_5]
theorem lcq_3 (R : Rel g r rs) (hL : L ≤ 3072) (hi : i + 6 ≤ L) (K : Int32 → xH → Option (Int32 × xH)) : ∃ g' r' rs', f_law_c3 K 2 3 84 (nI i) (wH L xs g r rs) = K (nI i) (wH L xs g' r' rs') ∧ Rel g' r' rs' ∧ rs'.length ≤ rs.length + 12 ∧ xz rs' ≤ xz rs + 600 := by
  obtain ⟨a, g1, r1, rs1, g2, e1, e2, R2, z1, z2⟩ := (o_drop (L := L) (xs := xs) R (xs (i + 1)))
  refine ⟨g2, r1, rs1, ?_, R2, z1, z2⟩
  unfold f_law_c3
  simp (disch := omega) only [sc hL, ob_s, wk_3, wk_84, if_true, e1, e2, q_add, l_1]
theorem lcq_4 (R : Rel g r rs) (hL : L ≤ 3072) (hi : i + 6 ≤ L) (K : Int32 → xH → Option (Int32 × xH)) : ∃ g' r' rs', f_law_c4 K 2 3 84 (nI i) (wH L xs g r rs) = K (nI i) (wH L xs g' r' rs') ∧ Rel g' r' rs' ∧ rs'.length ≤ rs.length + 12 ∧ xz rs' ≤ xz rs + 600 := by
  obtain ⟨a, g1, r1, rs1, g2, e1, e2, R2, z1, z2⟩ := (o_feed (L := L) (xs := xs) R (xs (i + 1)))
  refine ⟨g2, r1, rs1, ?_, R2, z1, z2⟩
  unfold f_law_c4
  simp (disch := omega) only [sc hL, ob_s, wk_3, wk_84, if_true, e1, e2, q_add, l_1]
theorem lcq_5 (R : Rel g r rs) (hL : L ≤ 3072) (hi : i + 6 ≤ L) (K : Int32 → xH → Option (Int32 × xH)) : ∃ g' r' rs', f_law_c5 K 2 3 84 (nI i) (wH L xs g r rs) = K (nI i) (wH L xs g' r' rs') ∧ Rel g' r' rs' ∧ rs'.length ≤ rs.length + 12 ∧ xz rs' ≤ xz rs + 600 := by
  obtain ⟨a, g1, r1, rs1, g2, e1, e2, R2, z1, z2⟩ := (o_load (L := L) (xs := xs) R (xs (i + 1)))
  refine ⟨g2, r1, rs1, ?_, R2, z1, z2⟩
  unfold f_law_c5
  simp (disch := omega) only [sc hL, ob_s, wk_3, wk_84, if_true, e1, e2, q_add, l_1]
theorem lcq_6 (R : Rel g r rs) (hL : L ≤ 3072) (hi : i + 6 ≤ L) (K : Int32 → xH → Option (Int32 × xH)) : ∃ g' r' rs', f_law_c6 K 2 3 84 (nI i) (wH L xs g r rs) = K (nI i) (wH L xs g' r' rs') ∧ Rel g' r' rs' ∧ rs'.length ≤ rs.length + 12 ∧ xz rs' ≤ xz rs + 600 := by
  obtain ⟨a, g1, r1, rs1, g2, e1, e2, R2, z1, z2⟩ := RO.op (o_fault (L := L) (xs := xs) R) R
  refine ⟨g2, r1, rs1, ?_, R2, z1, z2⟩
  unfold f_law_c6
  simp (disch := omega) only [sc hL, ob_s, wk_3, wk_84, if_true, e1, e2]
theorem lcq_7 (R : Rel g r rs) (hL : L ≤ 3072) (hi : i + 6 ≤ L) (K : Int32 → xH → Option (Int32 × xH)) : ∃ g' r' rs', f_law_c7 K 2 3 84 (nI i) (wH L xs g r rs) = K (nI i) (wH L xs g' r' rs') ∧ Rel g' r' rs' ∧ rs'.length ≤ rs.length + 12 ∧ xz rs' ≤ xz rs + 600 := by
  obtain ⟨a, g1, r1, rs1, g2, e1, e2, R2, z1, z2⟩ := (o_put (L := L) (xs := xs) R (xs (i + 1)) (xs (i + 2)) (xs (i + 3)))
  refine ⟨g2, r1, rs1, ?_, R2, z1, z2⟩
  unfold f_law_c7
  simp (disch := omega) only [sc hL, ob_s, wk_3, wk_84, if_true, e1, e2, q_add, l_1, l_2, l_3]
theorem lcq_8 (R : Rel g r rs) (hL : L ≤ 3072) (hi : i + 6 ≤ L) (K : Int32 → xH → Option (Int32 × xH)) : ∃ g' r' rs', f_law_c8 K 2 3 84 (nI i) (wH L xs g r rs) = K (nI i) (wH L xs g' r' rs') ∧ Rel g' r' rs' ∧ rs'.length ≤ rs.length + 12 ∧ xz rs' ≤ xz rs + 600 := by
  obtain ⟨a, g1, r1, rs1, g2, e1, e2, R2, z1, z2⟩ := (o_add (L := L) (xs := xs) R (xs (i + 1)) (xs (i + 2)) (xs (i + 3)))
  refine ⟨g2, r1, rs1, ?_, R2, z1, z2⟩
  unfold f_law_c8
  simp (disch := omega) only [sc hL, ob_s, wk_3, wk_84, if_true, e1, e2, q_add, l_1, l_2, l_3]
theorem lcq_9 (R : Rel g r rs) (hL : L ≤ 3072) (hi : i + 6 ≤ L) (K : Int32 → xH → Option (Int32 × xH)) : ∃ g' r' rs', f_law_c9 K 2 3 84 (nI i) (wH L xs g r rs) = K (nI i) (wH L xs g' r' rs') ∧ Rel g' r' rs' ∧ rs'.length ≤ rs.length + 12 ∧ xz rs' ≤ xz rs + 600 := by
  obtain ⟨a, g1, r1, rs1, g2, e1, e2, R2, z1, z2⟩ := (o_cut (L := L) (xs := xs) R (xs (i + 1)) (xs (i + 2)))
  refine ⟨g2, r1, rs1, ?_, R2, z1, z2⟩
  unfold f_law_c9
  simp (disch := omega) only [sc hL, ob_s, wk_3, wk_84, if_true, e1, e2, q_add, l_1, l_2]
theorem lcq_10 (R : Rel g r rs) (hL : L ≤ 3072) (hi : i + 6 ≤ L) (K : Int32 → xH → Option (Int32 × xH)) : ∃ g' r' rs', f_law_c10 K 2 3 84 (nI i) (wH L xs g r rs) = K (nI i) (wH L xs g' r' rs') ∧ Rel g' r' rs' ∧ rs'.length ≤ rs.length + 12 ∧ xz rs' ≤ xz rs + 600 := by
  obtain ⟨a, g1, r1, rs1, g2, e1, e2, R2, z1, z2⟩ := (o_join (L := L) (xs := xs) R (xs (i + 1)) (xs (i + 2)) (xs (i + 3)) (xs (i + 4)))
  refine ⟨g2, r1, rs1, ?_, R2, z1, z2⟩
  unfold f_law_c10
  simp (disch := omega) only [sc hL, ob_s, wk_3, wk_84, if_true, e1, e2, q_add, l_1, l_2, l_3, l_4]
theorem lcq_11 (R : Rel g r rs) (hL : L ≤ 3072) (hi : i + 6 ≤ L) (K : Int32 → xH → Option (Int32 × xH)) : ∃ g' r' rs', f_law_c11 K 2 3 84 (nI i) (wH L xs g r rs) = K (nI i) (wH L xs g' r' rs') ∧ Rel g' r' rs' ∧ rs'.length ≤ rs.length + 12 ∧ xz rs' ≤ xz rs + 600 := by
  obtain ⟨a, g1, r1, rs1, g2, e1, e2, R2, z1, z2⟩ := (o_turn (L := L) (xs := xs) R (xs (i + 1)))
  refine ⟨g2, r1, rs1, ?_, R2, z1, z2⟩
  unfold f_law_c11
  simp (disch := omega) only [sc hL, ob_s, wk_3, wk_84, if_true, e1, e2, q_add, l_1]
theorem lcq_12 (R : Rel g r rs) (hL : L ≤ 3072) (hi : i + 6 ≤ L) (K : Int32 → xH → Option (Int32 × xH)) : ∃ g' r' rs', f_law_c12 K 2 3 84 (nI i) (wH L xs g r rs) = K (nI i) (wH L xs g' r' rs') ∧ Rel g' r' rs' ∧ rs'.length ≤ rs.length + 12 ∧ xz rs' ≤ xz rs + 600 := by
  obtain ⟨a, g1, r1, rs1, g2, e1, e2, R2, z1, z2⟩ := (o_take (L := L) (xs := xs) R (xs (i + 1)) (xs (i + 2)) (xs (i + 3)) (xs (i + 4)))
  refine ⟨g2, r1, rs1, ?_, R2, z1, z2⟩
  unfold f_law_c12
  simp (disch := omega) only [sc hL, ob_s, wk_3, wk_84, if_true, e1, e2, q_add, l_1, l_2, l_3, l_4]
theorem lcq_13 (R : Rel g r rs) (hL : L ≤ 3072) (hi : i + 6 ≤ L) (K : Int32 → xH → Option (Int32 × xH)) : ∃ g' r' rs', f_law_c13 K 2 3 84 (nI i) (wH L xs g r rs) = K (nI i) (wH L xs g' r' rs') ∧ Rel g' r' rs' ∧ rs'.length ≤ rs.length + 12 ∧ xz rs' ≤ xz rs + 600 := by
  obtain ⟨a, g1, r1, rs1, g2, e1, e2, R2, z1, z2⟩ := (o_undo (L := L) (xs := xs) R)
  refine ⟨g2, r1, rs1, ?_, R2, z1, z2⟩
  unfold f_law_c13
  simp (disch := omega) only [sc hL, ob_s, wk_3, wk_84, if_true, e1, e2]
theorem lcq_14 (R : Rel g r rs) (hL : L ≤ 3072) (hi : i + 6 ≤ L) (K : Int32 → xH → Option (Int32 × xH)) : ∃ g' r' rs', f_law_c14 K 2 3 84 (nI i) (wH L xs g r rs) = K (nI i) (wH L xs g' r' rs') ∧ Rel g' r' rs' ∧ rs'.length ≤ rs.length + 12 ∧ xz rs' ≤ xz rs + 600 := by
  obtain ⟨a, g1, r1, rs1, g2, e1, e2, R2, z1, z2⟩ := RO.op (o_bits (L := L) (xs := xs) R (xs (i + 1))) R
  refine ⟨g2, r1, rs1, ?_, R2, z1, z2⟩
  unfold f_law_c14
  simp (disch := omega) only [sc hL, ob_s, wk_3, wk_84, if_true, e1, e2, q_add, l_1]
theorem lcq_15 (R : Rel g r rs) (hL : L ≤ 3072) (hi : i + 6 ≤ L) (K : Int32 → xH → Option (Int32 × xH)) : ∃ g' r' rs', f_law_c15 K 2 3 84 (nI i) (wH L xs g r rs) = K (nI i) (wH L xs g' r' rs') ∧ Rel g' r' rs' ∧ rs'.length ≤ rs.length + 12 ∧ xz rs' ≤ xz rs + 600 := by
  obtain ⟨a, g1, r1, rs1, g2, e1, e2, R2, z1, z2⟩ := RO.op (o_get (L := L) (xs := xs) R (xs (i + 1)) (xs (i + 2))) R
  refine ⟨g2, r1, rs1, ?_, R2, z1, z2⟩
  unfold f_law_c15
  simp (disch := omega) only [sc hL, ob_s, wk_3, wk_84, if_true, e1, e2, q_add, l_1, l_2]
theorem lcq_16 (R : Rel g r rs) (hL : L ≤ 3072) (hi : i + 6 ≤ L) (K : Int32 → xH → Option (Int32 × xH)) : ∃ g' r' rs', f_law_c16 K 2 3 84 (nI i) (wH L xs g r rs) = K (nI i) (wH L xs g' r' rs') ∧ Rel g' r' rs' ∧ rs'.length ≤ rs.length + 12 ∧ xz rs' ≤ xz rs + 600 := by
  obtain ⟨a, g1, r1, rs1, g2, e1, e2, R2, z1, z2⟩ := RO.op (o_ones (L := L) (xs := xs) R (xs (i + 1))) R
  refine ⟨g2, r1, rs1, ?_, R2, z1, z2⟩
  unfold f_law_c16
  simp (disch := omega) only [sc hL, ob_s, wk_3, wk_84, if_true, e1, e2, q_add, l_1]
theorem lcq_17 (R : Rel g r rs) (hL : L ≤ 3072) (hi : i + 6 ≤ L) (K : Int32 → xH → Option (Int32 × xH)) : ∃ g' r' rs', f_law_c17 K 2 3 84 (nI i) (wH L xs g r rs) = K (nI i) (wH L xs g' r' rs') ∧ Rel g' r' rs' ∧ rs'.length ≤ rs.length + 12 ∧ xz rs' ≤ xz rs + 600 := by
  obtain ⟨a, g1, r1, rs1, g2, e1, e2, R2, z1, z2⟩ := RO.op (o_block (L := L) (xs := xs) R (xs (i + 1)) (xs (i + 2)) (xs (i + 3))) R
  refine ⟨g2, r1, rs1, ?_, R2, z1, z2⟩
  unfold f_law_c17
  simp (disch := omega) only [sc hL, ob_s, wk_3, wk_84, if_true, e1, e2, q_add, l_1, l_2, l_3]
theorem lcq_18 (R : Rel g r rs) (hL : L ≤ 3072) (hi : i + 6 ≤ L) (K : Int32 → xH → Option (Int32 × xH)) : ∃ g' r' rs', f_law_c18 K 2 3 84 (nI i) (wH L xs g r rs) = K (nI i) (wH L xs g' r' rs') ∧ Rel g' r' rs' ∧ rs'.length ≤ rs.length + 12 ∧ xz rs' ≤ xz rs + 600 := by
  obtain ⟨a, g1, r1, rs1, g2, e1, e2, R2, z1, z2⟩ := RO.op (o_entry (L := L) (xs := xs) R (xs (i + 1)) (xs (i + 2)) (xs (i + 3))) R
  refine ⟨g2, r1, rs1, ?_, R2, z1, z2⟩
  unfold f_law_c18
  simp (disch := omega) only [sc hL, ob_s, wk_3, wk_84, if_true, e1, e2, q_add, l_1, l_2, l_3]
theorem lcq_19 (R : Rel g r rs) (hL : L ≤ 3072) (hi : i + 6 ≤ L) (K : Int32 → xH → Option (Int32 × xH)) : ∃ g' r' rs', f_law_c19 K 2 3 84 (nI i) (wH L xs g r rs) = K (nI i) (wH L xs g' r' rs') ∧ Rel g' r' rs' ∧ rs'.length ≤ rs.length + 12 ∧ xz rs' ≤ xz rs + 600 := by
  obtain ⟨a, g1, r1, rs1, g2, e1, e2, R2, z1, z2⟩ := RO.op (o_size (L := L) (xs := xs) R (xs (i + 1)) (xs (i + 2))) R
  refine ⟨g2, r1, rs1, ?_, R2, z1, z2⟩
  unfold f_law_c19
  simp (disch := omega) only [sc hL, ob_s, wk_3, wk_84, if_true, e1, e2, q_add, l_1, l_2]
theorem lcq_20 (R : Rel g r rs) (hL : L ≤ 3072) (hi : i + 6 ≤ L) (K : Int32 → xH → Option (Int32 × xH)) : ∃ g' r' rs', f_law_c20 K 2 3 84 (nI i) (wH L xs g r rs) = K (nI i) (wH L xs g' r' rs') ∧ Rel g' r' rs' ∧ rs'.length ≤ rs.length + 12 ∧ xz rs' ≤ xz rs + 600 := by
  obtain ⟨a, g1, r1, rs1, g2, e1, e2, R2, z1, z2⟩ := RO.op (o_payload (L := L) (xs := xs) R (xs (i + 1)) (xs (i + 2))) R
  refine ⟨g2, r1, rs1, ?_, R2, z1, z2⟩
  unfold f_law_c20
  have ec : lg_cmp a a = 0 := cmp_eq.mpr rfl
  simp (disch := omega) only [sc hL, ob_s, wk_3, wk_84, if_true, e1, e2, q_add, l_1, l_2, ec]
theorem lcq_21 (R : Rel g r rs) (hL : L ≤ 3072) (hi : i + 6 ≤ L) (K : Int32 → xH → Option (Int32 × xH)) : ∃ g' r' rs', f_law_c21 K 2 3 84 (nI i) (wH L xs g r rs) = K (nI i) (wH L xs g' r' rs') ∧ Rel g' r' rs' ∧ rs'.length ≤ rs.length + 12 ∧ xz rs' ≤ xz rs + 600 := by
  obtain ⟨a, g1, r1, rs1, g2, e1, e2, R2, z1, z2⟩ := RO.op (o_choose (L := L) (xs := xs) R (xs (i + 1)) (xs (i + 2))) R
  refine ⟨g2, r1, rs1, ?_, R2, z1, z2⟩
  unfold f_law_c21
  simp (disch := omega) only [sc hL, ob_s, wk_3, wk_84, if_true, e1, e2, q_add, l_1, l_2]
theorem lcq_22 (R : Rel g r rs) (hL : L ≤ 3072) (hi : i + 6 ≤ L) (K : Int32 → xH → Option (Int32 × xH)) : ∃ g' r' rs', f_law_c22 K 2 3 84 (nI i) (wH L xs g r rs) = K (nI i) (wH L xs g' r' rs') ∧ Rel g' r' rs' ∧ rs'.length ≤ rs.length + 12 ∧ xz rs' ≤ xz rs + 600 := by
  obtain ⟨a, g1, r1, rs1, g2, e1, e2, R2, z1, z2⟩ := RO.op (o_offset (L := L) (xs := xs) R (xs (i + 1))) R
  refine ⟨g2, r1, rs1, ?_, R2, z1, z2⟩
  unfold f_law_c22
  simp (disch := omega) only [sc hL, ob_s, wk_3, wk_84, if_true, e1, e2, q_add, l_1]
theorem lcq_23 (R : Rel g r rs) (hL : L ≤ 3072) (hi : i + 6 ≤ L) (K : Int32 → xH → Option (Int32 × xH)) : ∃ g' r' rs', f_law_c23 K 2 3 84 (nI i) (wH L xs g r rs) = K (nI i) (wH L xs g' r' rs') ∧ Rel g' r' rs' ∧ rs'.length ≤ rs.length + 12 ∧ xz rs' ≤ xz rs + 600 := by
  obtain ⟨a, g1, r1, rs1, g2, e1, e2, R2, z1, z2⟩ := RO.op (o_mask (L := L) (xs := xs) R (xs (i + 1)) (xs (i + 2))) R
  refine ⟨g2, r1, rs1, ?_, R2, z1, z2⟩
  unfold f_law_c23
  simp (disch := omega) only [sc hL, ob_s, wk_3, wk_84, if_true, e1, e2, q_add, l_1, l_2]
theorem lcq_24 (R : Rel g r rs) (hL : L ≤ 3072) (hi : i + 6 ≤ L) (K : Int32 → xH → Option (Int32 × xH)) : ∃ g' r' rs', f_law_c24 K 2 3 84 (nI i) (wH L xs g r rs) = K (nI i) (wH L xs g' r' rs') ∧ Rel g' r' rs' ∧ rs'.length ≤ rs.length + 12 ∧ xz rs' ≤ xz rs + 600 := by
  obtain ⟨a, g1, r1, rs1, g2, e1, e2, R2, z1, z2⟩ := RO.op (o_rank (L := L) (xs := xs) R (xs (i + 1)) (xs (i + 2)) (xs (i + 3))) R
  refine ⟨g2, r1, rs1, ?_, R2, z1, z2⟩
  unfold f_law_c24
  simp (disch := omega) only [sc hL, ob_s, wk_3, wk_84, if_true, e1, e2, q_add, l_1, l_2, l_3]
theorem lcq_25 (R : Rel g r rs) (hL : L ≤ 3072) (hi : i + 6 ≤ L) (K : Int32 → xH → Option (Int32 × xH)) : ∃ g' r' rs', f_law_c25 K 2 3 84 (nI i) (wH L xs g r rs) = K (nI i) (wH L xs g' r' rs') ∧ Rel g' r' rs' ∧ rs'.length ≤ rs.length + 12 ∧ xz rs' ≤ xz rs + 600 := by
  obtain ⟨a, g1, r1, rs1, g2, e1, e2, R2, z1, z2⟩ := RO.op (o_select (L := L) (xs := xs) R (xs (i + 1)) (xs (i + 2)) (xs (i + 3))) R
  refine ⟨g2, r1, rs1, ?_, R2, z1, z2⟩
  unfold f_law_c25
  simp (disch := omega) only [sc hL, ob_s, wk_3, wk_84, if_true, e1, e2, q_add, l_1, l_2, l_3]
theorem lcq_26 (R : Rel g r rs) (hL : L ≤ 3072) (hi : i + 6 ≤ L) (K : Int32 → xH → Option (Int32 × xH)) : ∃ g' r' rs', f_law_c26 K 2 3 84 (nI i) (wH L xs g r rs) = K (nI i) (wH L xs g' r' rs') ∧ Rel g' r' rs' ∧ rs'.length ≤ rs.length + 12 ∧ xz rs' ≤ xz rs + 600 := by
  obtain ⟨a, g1, r1, rs1, g2, e1, e2, R2, z1, z2⟩ := RO.op (o_next (L := L) (xs := xs) R (xs (i + 1)) (xs (i + 2)) (xs (i + 3))) R
  refine ⟨g2, r1, rs1, ?_, R2, z1, z2⟩
  unfold f_law_c26
  simp (disch := omega) only [sc hL, ob_s, wk_3, wk_84, if_true, e1, e2, q_add, l_1, l_2, l_3]
theorem lcq_27 (R : Rel g r rs) (hL : L ≤ 3072) (hi : i + 6 ≤ L) (K : Int32 → xH → Option (Int32 × xH)) : ∃ g' r' rs', f_law_c27 K 2 3 84 (nI i) (wH L xs g r rs) = K (nI i) (wH L xs g' r' rs') ∧ Rel g' r' rs' ∧ rs'.length ≤ rs.length + 12 ∧ xz rs' ≤ xz rs + 600 := by
  obtain ⟨a, g1, r1, rs1, g2, e1, e2, R2, z1, z2⟩ := RO.op (o_last (L := L) (xs := xs) R (xs (i + 1)) (xs (i + 2)) (xs (i + 3))) R
  refine ⟨g2, r1, rs1, ?_, R2, z1, z2⟩
  unfold f_law_c27
  simp (disch := omega) only [sc hL, ob_s, wk_3, wk_84, if_true, e1, e2, q_add, l_1, l_2, l_3]
theorem lcq_28 (R : Rel g r rs) (hL : L ≤ 3072) (hi : i + 6 ≤ L) (K : Int32 → xH → Option (Int32 × xH)) : ∃ g' r' rs', f_law_c28 K 2 3 84 (nI i) (wH L xs g r rs) = K (nI i) (wH L xs g' r' rs') ∧ Rel g' r' rs' ∧ rs'.length ≤ rs.length + 12 ∧ xz rs' ≤ xz rs + 600 := by
  obtain ⟨a, g1, r1, rs1, g2, e1, e2, R2, z1, z2⟩ := RO.op (o_stretches (L := L) (xs := xs) R (xs (i + 1))) R
  refine ⟨g2, r1, rs1, ?_, R2, z1, z2⟩
  unfold f_law_c28
  simp (disch := omega) only [sc hL, ob_s, wk_3, wk_84, if_true, e1, e2, q_add, l_1]
theorem lcq_29 (R : Rel g r rs) (hL : L ≤ 3072) (hi : i + 6 ≤ L) (K : Int32 → xH → Option (Int32 × xH)) : ∃ g' r' rs', f_law_c29 K 2 3 84 (nI i) (wH L xs g r rs) = K (nI i) (wH L xs g' r' rs') ∧ Rel g' r' rs' ∧ rs'.length ≤ rs.length + 12 ∧ xz rs' ≤ xz rs + 600 := by
  obtain ⟨a, g1, r1, rs1, g2, e1, e2, R2, z1, z2⟩ := RO.op (o_longest (L := L) (xs := xs) R (xs (i + 1)) (xs (i + 2)) (xs (i + 3))) R
  refine ⟨g2, r1, rs1, ?_, R2, z1, z2⟩
  unfold f_law_c29
  simp (disch := omega) only [sc hL, ob_s, wk_3, wk_84, if_true, e1, e2, q_add, l_1, l_2, l_3]
theorem lcq_30 (R : Rel g r rs) (hL : L ≤ 3072) (hi : i + 6 ≤ L) (K : Int32 → xH → Option (Int32 × xH)) : ∃ g' r' rs', f_law_c30 K 2 3 84 (nI i) (wH L xs g r rs) = K (nI i) (wH L xs g' r' rs') ∧ Rel g' r' rs' ∧ rs'.length ≤ rs.length + 12 ∧ xz rs' ≤ xz rs + 600 := by
  obtain ⟨a, g1, r1, rs1, g2, e1, e2, R2, z1, z2⟩ := (o_alike (L := L) (xs := xs) R (xs (i + 1)) (xs (i + 2)) (xs (i + 3)))
  refine ⟨g2, r1, rs1, ?_, R2, z1, z2⟩
  unfold f_law_c30
  simp (disch := omega) only [sc hL, ob_s, wk_3, wk_84, if_true, e1, e2, q_add, l_1, l_2, l_3]
theorem lcq_31 (R : Rel g r rs) (hL : L ≤ 3072) (hi : i + 6 ≤ L) (K : Int32 → xH → Option (Int32 × xH)) : ∃ g' r' rs', f_law_c31 K 2 3 84 (nI i) (wH L xs g r rs) = K (nI i) (wH L xs g' r' rs') ∧ Rel g' r' rs' ∧ rs'.length ≤ rs.length + 12 ∧ xz rs' ≤ xz rs + 600 := by
  obtain ⟨a, g1, r1, rs1, g2, e1, e2, R2, z1, z2⟩ := (o_weight (L := L) (xs := xs) R (xs (i + 1)) (xs (i + 2)))
  refine ⟨g2, r1, rs1, ?_, R2, z1, z2⟩
  unfold f_law_c31
  simp (disch := omega) only [sc hL, ob_s, wk_3, wk_84, if_true, e1, e2, q_add, l_1, l_2]
theorem lcq_32 (R : Rel g r rs) (hL : L ≤ 3072) (hi : i + 6 ≤ L) (K : Int32 → xH → Option (Int32 × xH)) : ∃ g' r' rs', f_law_c32 K 2 3 84 (nI i) (wH L xs g r rs) = K (nI i) (wH L xs g' r' rs') ∧ Rel g' r' rs' ∧ rs'.length ≤ rs.length + 12 ∧ xz rs' ≤ xz rs + 600 := by
  obtain ⟨a, g1, r1, rs1, g2, e1, e2, R2, z1, z2⟩ := (o_tell (L := L) (xs := xs) R (xs (i + 1)) (xs (i + 2)) (xs (i + 3)) (xs (i + 4)))
  refine ⟨g2, r1, rs1, ?_, R2, z1, z2⟩
  unfold f_law_c32
  simp (disch := omega) only [sc hL, ob_s, wk_3, wk_84, if_true, e1, e2, q_add, l_1, l_2, l_3, l_4]
theorem lcq_33 (R : Rel g r rs) (hL : L ≤ 3072) (hi : i + 6 ≤ L) (K : Int32 → xH → Option (Int32 × xH)) : ∃ g' r' rs', f_law_c33 K 2 3 84 (nI i) (wH L xs g r rs) = K (nI i) (wH L xs g' r' rs') ∧ Rel g' r' rs' ∧ rs'.length ≤ rs.length + 12 ∧ xz rs' ≤ xz rs + 600 := by
  obtain ⟨a, g1, r1, rs1, g2, e1, e2, R2, z1, z2⟩ := (o_drawn (L := L) (xs := xs) R (xs (i + 1)) (xs (i + 2)) (xs (i + 3)) (xs (i + 4)))
  refine ⟨g2, r1, rs1, ?_, R2, z1, z2⟩
  unfold f_law_c33
  simp (disch := omega) only [sc hL, ob_s, wk_3, wk_84, if_true, e1, e2, q_add, l_1, l_2, l_3, l_4]
theorem lcq_34 (R : Rel g r rs) (hL : L ≤ 3072) (hi : i + 6 ≤ L) (K : Int32 → xH → Option (Int32 × xH)) : ∃ g' r' rs', f_law_c34 K 2 3 84 (nI i) (wH L xs g r rs) = K (nI i) (wH L xs g' r' rs') ∧ Rel g' r' rs' ∧ rs'.length ≤ rs.length + 12 ∧ xz rs' ≤ xz rs + 600 := by
  obtain ⟨a, g1, r1, rs1, g2, e1, e2, R2, z1, z2⟩ := (o_image (L := L) (xs := xs) R (xs (i + 1)))
  refine ⟨g2, r1, rs1, ?_, R2, z1, z2⟩
  unfold f_law_c34
  simp (disch := omega) only [sc hL, ob_s, wk_3, wk_84, if_true, e1, e2, q_add, l_1]
theorem lcq_35 (R : Rel g r rs) (hL : L ≤ 3072) (hi : i + 6 ≤ L) (K : Int32 → xH → Option (Int32 × xH)) : ∃ g' r' rs', f_law_c35 K 2 3 84 (nI i) (wH L xs g r rs) = K (nI i) (wH L xs g' r' rs') ∧ Rel g' r' rs' ∧ rs'.length ≤ rs.length + 12 ∧ xz rs' ≤ xz rs + 600 := by
  obtain ⟨a, g1, r1, rs1, g2, e1, e2, R2, z1, z2⟩ := (o_restore (L := L) (xs := xs) R (xs (i + 1)))
  refine ⟨g2, r1, rs1, ?_, R2, z1, z2⟩
  unfold f_law_c35
  simp (disch := omega) only [sc hL, ob_s, wk_3, wk_84, if_true, e1, e2, q_add, l_1]
theorem lcq_36 (R : Rel g r rs) (hL : L ≤ 3072) (hi : i + 6 ≤ L) (K : Int32 → xH → Option (Int32 × xH)) : ∃ g' r' rs', f_law_c36 K 2 3 84 (nI i) (wH L xs g r rs) = K (nI i) (wH L xs g' r' rs') ∧ Rel g' r' rs' ∧ rs'.length ≤ rs.length + 12 ∧ xz rs' ≤ xz rs + 600 := by
  obtain ⟨a, g1, r1, rs1, g2, e1, e2, R2, z1, z2⟩ := RO.op (o_kind (L := L) (xs := xs) R (xs (i + 1))) R
  refine ⟨g2, r1, rs1, ?_, R2, z1, z2⟩
  unfold f_law_c36
  simp (disch := omega) only [sc hL, ob_s, wk_3, wk_84, if_true, e1, e2, q_add, l_1]
theorem lcq_37 (R : Rel g r rs) (hL : L ≤ 3072) (hi : i + 6 ≤ L) (K : Int32 → xH → Option (Int32 × xH)) : ∃ g' r' rs', f_law_c37 K 2 3 84 (nI i) (wH L xs g r rs) = K (nI i) (wH L xs g' r' rs') ∧ Rel g' r' rs' ∧ rs'.length ≤ rs.length + 12 ∧ xz rs' ≤ xz rs + 600 := by
  obtain ⟨a, g1, r1, rs1, g2, e1, e2, R2, z1, z2⟩ := (o_as (L := L) (xs := xs) R (xs (i + 1)) (xs (i + 2)))
  refine ⟨g2, r1, rs1, ?_, R2, z1, z2⟩
  unfold f_law_c37
  simp (disch := omega) only [sc hL, ob_s, wk_3, wk_84, if_true, e1, e2, q_add, l_1, l_2]
theorem lcq_38 (R : Rel g r rs) (hL : L ≤ 3072) (hi : i + 6 ≤ L) (K : Int32 → xH → Option (Int32 × xH)) : ∃ g' r' rs', f_law_c38 K 2 3 84 (nI i) (wH L xs g r rs) = K (nI i) (wH L xs g' r' rs') ∧ Rel g' r' rs' ∧ rs'.length ≤ rs.length + 12 ∧ xz rs' ≤ xz rs + 600 := by
  obtain ⟨a, g1, r1, rs1, g2, e1, e2, R2, z1, z2⟩ := (o_ask (L := L) (xs := xs) R (xs (i + 1)) (xs (i + 2)))
  refine ⟨g2, r1, rs1, ?_, R2, z1, z2⟩
  unfold f_law_c38
  simp (disch := omega) only [sc hL, ob_s, wk_3, wk_84, if_true, e1, e2, q_add, l_1, l_2]
theorem lcq_39 (R : Rel g r rs) (hL : L ≤ 3072) (hi : i + 6 ≤ L) (K : Int32 → xH → Option (Int32 × xH)) : ∃ g' r' rs', f_law_c39 K 2 3 84 (nI i) (wH L xs g r rs) = K (nI i) (wH L xs g' r' rs') ∧ Rel g' r' rs' ∧ rs'.length ≤ rs.length + 12 ∧ xz rs' ≤ xz rs + 600 := by
  obtain ⟨a, g1, r1, rs1, g2, e1, e2, R2, z1, z2⟩ := RO.op (o_trace (L := L) (xs := xs) R (xs (i + 1))) R
  refine ⟨g2, r1, rs1, ?_, R2, z1, z2⟩
  unfold f_law_c39
  simp (disch := omega) only [sc hL, ob_s, wk_3, wk_84, if_true, e1, e2, q_add, l_1]
theorem lcq_40 (R : Rel g r rs) (hL : L ≤ 3072) (hi : i + 6 ≤ L) (K : Int32 → xH → Option (Int32 × xH)) : ∃ g' r' rs', f_law_c40 K 2 3 84 (nI i) (wH L xs g r rs) = K (nI i) (wH L xs g' r' rs') ∧ Rel g' r' rs' ∧ rs'.length ≤ rs.length + 12 ∧ xz rs' ≤ xz rs + 600 := by
  obtain ⟨a, g1, r1, rs1, g2, e1, e2, R2, z1, z2⟩ := RO.op (o_count (L := L) (xs := xs) R (xs (i + 1))) R
  refine ⟨g2, r1, rs1, ?_, R2, z1, z2⟩
  unfold f_law_c40
  simp (disch := omega) only [sc hL, ob_s, wk_3, wk_84, if_true, e1, e2, q_add, l_1]
theorem lcq_41 (R : Rel g r rs) (hL : L ≤ 3072) (hi : i + 6 ≤ L) (K : Int32 → xH → Option (Int32 × xH)) : ∃ g' r' rs', f_law_c41 K 2 3 84 (nI i) (wH L xs g r rs) = K (nI i) (wH L xs g' r' rs') ∧ Rel g' r' rs' ∧ rs'.length ≤ rs.length + 12 ∧ xz rs' ≤ xz rs + 600 := by
  obtain ⟨a, g1, r1, rs1, g2, e1, e2, R2, z1, z2⟩ := RO.op (o_status (L := L) (xs := xs) R) R
  refine ⟨g2, r1, rs1, ?_, R2, z1, z2⟩
  unfold f_law_c41
  simp (disch := omega) only [sc hL, ob_s, wk_3, wk_84, if_true, e1, e2]
end LAWC
