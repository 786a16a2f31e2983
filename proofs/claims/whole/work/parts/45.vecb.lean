section VEC3
variable {L : Nat} {xs : Nat → Int32} {g : xS} {r : Nat → Option Nat} {rs : xH} {j n i : Nat} {p : Nat → Bool}
theorem e_append (hj : j < 25) (hv : vOK g j n p) (hn : n < 480) (w : Bool) : ∃ g', f_X1_append (vO j) (nI w.toNat) (wH L xs g r rs) = some (wH L xs g' r rs) ∧ vOK g' j (n + 1) (fun k => if k = n then w else p k) ∧ vFr j g g' := by
  have hv' := hv
  obtain ⟨h1, h2, h3, h4⟩ := hv'
  have hv1 : vOK (gs g 1 j (nI (n + 1))) j (n + 1) p := ⟨by omega, gs_same, fun k hk => h3 k (by omega), fun b hb => by rw [gs_oc (by omega)]; exact h4 b hb⟩
  obtain ⟨g', e1, e2, e3⟩ := e_write (L := L) (xs := xs) (r := r) (rs := rs) hj hv1 (by omega : n < n + 1) w
  refine ⟨g', ?_, e2, vFr_n.trans e3⟩
  unfold f_X1_append
  simp (disch := omega) only [q_pos, q_pos', q_lt, q_le, q_eq, q_add, q_sub, q_mul, Option.bind_some, if_pos, if_neg, not_false_eq_true, q_m1', q_div, rm_N, l_0, l_1, l_2, l_3, l_4, l_5, l_6, l_7, l_8, l_10, l_11, l_12, l_13, l_14, l_15, l_16, l_18, l_20, l_21, l_22, l_23, l_24, l_32, l_33, l_40, l_44, l_48, l_57, l_59, l_60, l_63, l_64, l_97, l_98, l_99, l_100, l_111, l_116, l_122, l_132, l_200, l_240, l_255, l_480, l_1000, l_1452, wiv hj, wpv hj, wkv hj, h2, gs_same, if_true]
  rw [show n + 1 - 1 = n from rfl, e1]
  rfl
theorem fill_v (hj : j < 25) : ∀ (m k : Nat) (f : Nat → Int32), k ≤ 32 → 32 < k + m → ∃ f', f_J7_fill_53178_L5 m (vO j + 1) 0 (nI k) 32 (wH L xs (va_up g (20 + j) f) r rs) = some (nI 32, wH L xs (va_up g (20 + j) f') r rs) ∧ (∀ b, k ≤ b → b < 32 → f' b = 0) ∧ ∀ b, b < k → f' b = f b := by
  intro m
  induction m with
  | zero => intro k f h1 h2; omega
  | succ m ih =>
    intro k f h1 h2
    unfold f_J7_fill_53178_L5
    by_cases hk : k = 32
    · subst hk
      simp (disch := omega) only [q_pos, q_pos', q_lt, q_le, q_eq, q_add, q_sub, q_mul, Option.bind_some, if_pos, if_neg, not_false_eq_true, q_m1', q_div, rm_N, l_0, l_1, l_2, l_3, l_4, l_5, l_6, l_7, l_8, l_10, l_11, l_12, l_13, l_14, l_15, l_16, l_18, l_20, l_21, l_22, l_23, l_24, l_32, l_33, l_40, l_44, l_48, l_57, l_59, l_60, l_63, l_64, l_97, l_98, l_99, l_100, l_111, l_116, l_122, l_132, l_200, l_240, l_255, l_480, l_1000, l_1452]
      exact ⟨f, rfl, fun b h1 h2 => by omega, fun b _ => rfl⟩
    · simp (disch := omega) only [q_pos, q_pos', q_lt, q_le, q_eq, q_add, q_sub, q_mul, Option.bind_some, if_pos, if_neg, not_false_eq_true, q_m1', q_div, rm_N, l_0, l_1, l_2, l_3, l_4, l_5, l_6, l_7, l_8, l_10, l_11, l_12, l_13, l_14, l_15, l_16, l_18, l_20, l_21, l_22, l_23, l_24, l_32, l_33, l_40, l_44, l_48, l_57, l_59, l_60, l_63, l_64, l_97, l_98, l_99, l_100, l_111, l_116, l_122, l_132, l_200, l_240, l_255, l_480, l_1000, l_1452, wuv' hj, gs]
      obtain ⟨f', e1, e2, e3⟩ := ih (k + 1) (upd f k 0) (by omega) (by omega)
      have ew : va_up (va_up g (20 + j) f) (20 + j) (upd (va_up g (20 + j) f (20 + j)) k 0) = va_up g (20 + j) (upd f k 0) := by
        funext c
        unfold va_up
        by_cases hc : c = 20 + j <;> simp [hc]
      refine ⟨f', ?_, fun b h1 h2 => ?_, fun b hb => ?_⟩
      · rw [← e1]
        simp only [l_0] at ew
        rw [ew]
        rfl
      · by_cases hb : b = k
        · subst hb
          rw [e3 b (by omega)]
          simp only [upd, if_true]
          rfl
        · exact e2 b (by omega) h2
      · rw [e3 b (by omega)]
        simp [upd]
        omega
theorem e_clearTo (hj : j < 25) {m : Nat} (hm : m ≤ 480) : ∃ g', f_X1_clearTo (vO j) (nI m) (wH L xs g r rs) = some (wH L xs g' r rs) ∧ vOK g' j m (fun _ => false) ∧ vFr j g g' := by
  obtain ⟨f', e1, e2, -⟩ := fill_v (L := L) (xs := xs) (r := r) (rs := rs) (g := gs g 1 j (nI m)) hj xN 0 (gs g 1 j (nI m) (20 + j)) (by omega) (by decide)
  refine ⟨va_up (gs g 1 j (nI m)) (20 + j) f', ?_, ⟨hm, by rw [up_oc (by omega)]; exact gs_same, fun _ _ => rfl, fun b hb => ?_⟩, vFr_n.trans vFr_mf⟩
  · unfold f_X1_clearTo f_J7_fill_53178
    have ew : va_up (gs g 1 j (nI m)) (20 + j) (gs g 1 j (nI m) (20 + j)) = gs g 1 j (nI m) := by
      funext c
      unfold va_up
      by_cases hc : c = 20 + j <;> simp [hc]
    rw [ew] at e1
    simp only [Option.bind_some, wpv hj, wrv hj, wLv hj]
    rw [show (0 : Int32) = nI 0 from rfl] at e1 ⊢
    rw [e1]
    rfl
  · rw [up_c, e2 b (Nat.zero_le _) hb]
    have : mkN (fun _ => false) b = 0 := (mkN_eq (fun k => by simp)).symm
    rw [this]
    rfl
end VEC3
