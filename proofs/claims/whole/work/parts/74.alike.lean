theorem ct_tail {q : Nat → Bool} {n m : Nat} (h : ∀ i, n ≤ i → q i = false) (hm : n ≤ m) : fb_ct q m = fb_ct q n := by
  obtain ⟨d, rfl⟩ : ∃ d, m = n + d := ⟨m - n, by omega⟩
  rw [fb_ct_split, fb_ct_zero.mpr (fun k _ => h (n + k) (by omega)), Nat.add_zero]
theorem gcd_st {a b : Nat} : Nat.gcd b (a % b) = Nat.gcd a b := by
  rw [Nat.gcd_comm a b, Nat.gcd_rec b a, Nat.gcd_comm]
/-- all but the scratch of both as it was -/
theorem rel_scr {g g' : xS} {r : Nat → Option Nat} {rs : xH} (R : Rel g r rs) (F : ∀ c k, ¬ (c = 1 ∧ k = 0) → c ≠ 20 → c ≠ 56 → g' c k = g c k) : Rel g' r rs := by
  refine ⟨rRow_c R.row (fun c k hc => F c k (by omega) (by omega) (by omega)), rTap_c R.tap (fun c k hc => F c k (by omega) (by omega) (by omega)), ⟨?_, ?_⟩, rVec_c R.vec (fun c k hc => F c k (by omega) (by omega) (by omega)), rImg_c R.img (fun c k hc => F c k (by omega) (by omega) (by omega)), rCh_c R.ch (fun k => F _ k (by omega) (by omega) (by omega)), rTr_c R.tr (fun c k hc => F c k (by omega) (by omega) (by omega)), rRun_c R.run (fun c k hc => F c k (by omega) (by omega) (by omega)), rHis_c R.his (fun c k hc => F c k (by omega) (by omega) (by omega))⟩
  · rw [F 0 10 (by omega) (by omega) (by omega), F 66 7 (by omega) (by omega) (by omega)]
    exact R.fs.1
  · rw [F 0 11 (by omega) (by omega) (by omega), F 66 4 (by omega) (by omega) (by omega)]
    exact R.fs.2
theorem gcd_c (h : xH) : ∀ m a b s, b + s ≤ 480 → b < m → a < 2147483648 → ∃ y, f_X11_commonDivisor_L7 m (nI a) (nI b) (nI s) h = some (nI (Nat.gcd a b), nI 0, y, h) := by
  intro m
  induction m with
  | zero => intro a b s h1 h2; omega
  | succ m ih =>
    intro a b s h1 h2 h3
    unfold f_X11_commonDivisor_L7
    by_cases hb : b = 0
    · subst hb
      refine ⟨nI s, ?_⟩
      rw [Nat.gcd_zero_right]
      by_cases hs : 480 ≤ s
      · rw [if_pos (show (480 : Int32) ≤ nI s by rw [l_480, q_le (by omega) (by omega)]; exact hs)]
      · rw [if_neg (show ¬ (480 : Int32) ≤ nI s by rw [l_480, q_le (by omega) (by omega)]; exact hs), if_pos (by decide)]
    · have hm := Nat.mod_lt a (show 0 < b by omega)
      obtain ⟨y, e⟩ := ih b (a % b) (s + 1) (by omega) (by omega) (by omega)
      refine ⟨y, ?_⟩
      rw [if_neg (show ¬ (480 : Int32) ≤ nI s by rw [l_480, q_le (by omega) (by omega)]; omega), if_neg (i_nz (by omega) hb), if_neg (i_nz (by omega) hb), q_rem h3 (by omega) (by omega), l_1, q_add, e, gcd_st]
theorem gcd_m (h : xH) (z u w : Int32) : ∀ m x y, y < m → x < 2147483648 → y < 2147483648 → f_X12_alike_L135 m z u w (nI x) (nI y) h = some (nI (Nat.gcd x y), nI 0, h) := by
  intro m
  induction m with
  | zero => intro x y h1; omega
  | succ m ih =>
    intro x y h1 h2 h3
    unfold f_X12_alike_L135
    by_cases hb : y = 0
    · subst hb
      rw [Nat.gcd_zero_right, if_pos (by decide)]
    · have hm := Nat.mod_lt x (show 0 < y by omega)
      rw [if_neg (i_nz (by omega) hb), if_neg (i_nz (by omega) hb), q_rem h2 (by omega) (by omega), ih y (x % y) (by omega) (by omega) (by omega), gcd_st]
section ALIKE
variable {L : Nat} {xs : Nat → Int32} {g : xS} {r : Nat → Option Nat} {rs : xH} {v w n n2 : Nat} {p p2 : Nat → Bool}
theorem wk8 : xk (wH L xs g r rs) 8 = some 1 := rfl
theorem alk_L (hv : v < 4) (hw : w < 4) (hm : mM g 55 (33 * v) p) (hm2 : mM g 55 (33 * w) p2) (z : Int32) : ∀ m k, k ≤ 32 → 32 < k + m → f_X12_alike_L35 m 84 (nI v) (nI w) z (nI (fb_ct (fun t => jB 0 (p t) (p2 t)) (15 * k))) (nI (fb_ct (fun t => jB 1 (p t) (p2 t)) (15 * k))) (nI (1 + k)) (wH L xs g r rs) = some (nI (fb_ct (fun t => jB 0 (p t) (p2 t)) 480), nI (fb_ct (fun t => jB 1 (p t) (p2 t)) 480), nI 33, wH L xs g r rs) := by
  intro m
  induction m with
  | zero => intro k h1 h2; omega
  | succ m ih =>
    intro k h1 h2
    unfold f_X12_alike_L35
    by_cases hk : k = 32
    · subst hk
      rw [if_pos (by decide)]
    · have ha : g 55 (33 * v + (1 + k)) = nI (mkN p k) := by rw [← Nat.add_assoc]; exact hm k (by omega)
      have hb : g 55 (33 * w + (1 + k)) = nI (mkN p2 k) := by rw [← Nat.add_assoc]; exact hm2 k (by omega)
      have j0 : nI (mkN p k) &&& nI (mkN p2 k) = nI (mkN (fun t => jB 0 (p t) (p2 t)) k) := jI_N (how := 0) p p2 k
      have j1 : nI (mkN p k) ||| nI (mkN p2 k) = nI (mkN (fun t => jB 1 (p t) (p2 t)) k) := jI_N (how := 1) p p2 k
      have c : ∀ q : Nat → Bool, fb_ct q (15 * k) + clN q k = fb_ct q (15 * (k + 1)) := fun q => by
        rw [show 15 * (k + 1) = 15 * k + 15 by omega, fb_ct_split]; rfl
      have e33 : (33 : Int32) * nI v + nI (1 + k) = nI (33 * v + (1 + k)) := by rw [show (33 : Int32) = nI 33 from rfl, q_mul, q_add]
      have e33' : (33 : Int32) * nI w + nI (1 + k) = nI (33 * w + (1 + k)) := by rw [show (33 : Int32) = nI 33 from rfl, q_mul, q_add]
      rw [if_neg (show ¬ (33 : Int32) ≤ nI (1 + k) by rw [show (33 : Int32) = nI 33 from rfl, q_le (by omega) (by omega)]; omega), wr_84_13, ob_s, e33, wa_90' (by omega), ob_s, ob_s, e33', wa_90' (by omega), ob_s, ha, hb, j0, m_sortOf (mkN_lt _ _), ob_s]
      dsimp only
      rw [wr_84_13, ob_s, wa_90' (by omega), ob_s, ob_s, wa_90' (by omega), ob_s, ha, hb, j1, m_sortOf (mkN_lt _ _), ob_s]
      dsimp only
      rw [mk_ct, mk_ct, q_add, q_add, l_1, q_add, c, c, Nat.add_assoc]
      exact ih (k + 1) (by omega) (by omega)
theorem o_alike (R : Rel g r rs) (x y z : Int32) : Op L xs g r rs (f_X11_alike 3 x y z) (f_X12_alike 84 x y z) := by
  have n1 : ¬ nI 1 = (0 : Int32) := by decide
  rcases sV x with ⟨v, hv, rfl⟩ | ⟨h1, h2⟩
  · rcases sV y with ⟨w, hw, rfl⟩ | ⟨h1, h2⟩
    · obtain ⟨n, p, hc, hm⟩ := R.vec v hv
      obtain ⟨n2, p2, hc2, hm2⟩ := R.vec w hw
      rcases a_sp z with hz | ⟨t, ht, rfl⟩
      · refine RO.op ?_ R
        unfold RO f_X11_alike f_X12_alike
        exact ⟨-1000001, by simp (disch := omega) only [q_pos, q_pos', q_lt, q_le, q_eq, q_add, q_sub, q_mul, ob_s, if_pos, if_neg, not_false_eq_true, q_m1', q_div, rm_N, l_0, l_1, l_2, l_3, l_4, l_5, l_6, l_7, l_8, l_10, l_11, l_12, l_13, l_14, l_15, l_16, l_18, l_20, l_21, l_22, l_23, l_24, l_32, l_33, l_40, l_44, l_48, l_57, l_59, l_60, l_63, l_64, l_97, l_98, l_99, l_100, l_111, l_116, l_122, l_132, l_200, l_240, l_255, l_480, l_1000, l_1452, if_true, if_false, true_or, or_true, in_neg, in_m1, in_n, V1, V2, R1, R2, B1, B2, eq_self, wk_3, wk_10, wk_37, wk_42, wr_3_0, wr_3_1, wr_3_2, wr_3_3, wr_3_4, wr_3_5, wr_3_6, wr_3_7, wr_3_8, wi_3_9, wi_3_10, wi_3_11, wp_3_9, wp_3_10, wp_3_11, wr_10_0, wr_10_1, wi_10_2, wi_10_3, wp_10_2, wp_10_3, wr_37_0, wr_37_1, wr_37_2, wi_37_3, wp_37_3, wi_37_4, wp_37_4, wi_37_5, wp_37_5, wi_37_6, wp_37_6, wi_37_7, wp_37_7, wi_37_8, wp_37_8, wr_42_0, wi_42_1, wp_42_1, wk_84, wr_84_0, wr_84_1, wr_84_2, wr_84_3, wr_84_5, wr_84_13, wr_84_14, wr_84_15, wr_84_17, wr_84_18, wr_84_20, wr_84_21, wr_84_23, wr_84_24, wr_84_25, wr_84_26, wi_84_4, wp_84_4, wi_84_6, wp_84_6, wi_84_7, wp_84_7, wi_84_8, wp_84_8, wi_84_9, wp_84_9, wi_84_10, wp_84_10, wi_84_11, wp_84_11, wi_84_12, wp_84_12, wi_84_16, wp_84_16, wi_84_19, wp_84_19, wi_84_22, wp_84_22, wi_84_27, wp_84_27, wq5v, wkv, wiv, wrv, wav', ng1 hz], by simp (disch := omega) only [q_pos, q_pos', q_lt, q_le, q_eq, q_add, q_sub, q_mul, ob_s, if_pos, if_neg, not_false_eq_true, q_m1', q_div, rm_N, l_0, l_1, l_2, l_3, l_4, l_5, l_6, l_7, l_8, l_10, l_11, l_12, l_13, l_14, l_15, l_16, l_18, l_20, l_21, l_22, l_23, l_24, l_32, l_33, l_40, l_44, l_48, l_57, l_59, l_60, l_63, l_64, l_97, l_98, l_99, l_100, l_111, l_116, l_122, l_132, l_200, l_240, l_255, l_480, l_1000, l_1452, if_true, if_false, true_or, or_true, in_neg, in_m1, in_n, V1, V2, R1, R2, B1, B2, eq_self, wk_3, wk_10, wk_37, wk_42, wr_3_0, wr_3_1, wr_3_2, wr_3_3, wr_3_4, wr_3_5, wr_3_6, wr_3_7, wr_3_8, wi_3_9, wi_3_10, wi_3_11, wp_3_9, wp_3_10, wp_3_11, wr_10_0, wr_10_1, wi_10_2, wi_10_3, wp_10_2, wp_10_3, wr_37_0, wr_37_1, wr_37_2, wi_37_3, wp_37_3, wi_37_4, wp_37_4, wi_37_5, wp_37_5, wi_37_6, wp_37_6, wi_37_7, wp_37_7, wi_37_8, wp_37_8, wr_42_0, wi_42_1, wp_42_1, wk_84, wr_84_0, wr_84_1, wr_84_2, wr_84_3, wr_84_5, wr_84_13, wr_84_14, wr_84_15, wr_84_17, wr_84_18, wr_84_20, wr_84_21, wr_84_23, wr_84_24, wr_84_25, wr_84_26, wi_84_4, wp_84_4, wi_84_6, wp_84_6, wi_84_7, wp_84_7, wi_84_8, wp_84_8, wi_84_9, wp_84_9, wi_84_10, wp_84_10, wi_84_11, wp_84_11, wi_84_12, wp_84_12, wi_84_16, wp_84_16, wi_84_19, wp_84_19, wi_84_22, wp_84_22, wi_84_27, wp_84_27, wq5v, wkv, wiv, wrv, wav', in_neg hz]⟩
      · by_cases e : t ≤ 1
        · have hn := hc.1
          have hn2 := hc2.1
          obtain ⟨g1, a1, a2, a3⟩ := e_becomeJoined (L := L) (xs := xs) (r := r) (rs := rs) (j := 0) (how := 0) (by omega) (show 13 + v < 25 by omega) (show 13 + w < 25 by omega) (by omega) hc hc2
          have hc' := vOK_fr hc a3 (by omega)
          have hc2' := vOK_fr hc2 a3 (by omega)
          obtain ⟨g2, b1, b2, b3⟩ := e_becomeJoined (L := L) (xs := xs) (r := r) (rs := rs) (j := 0) (how := 1) (by omega) (show 13 + v < 25 by omega) (show 13 + w < 25 by omega) (by omega) hc' hc2'
          have a1' : f_X1_becomeJoined 8 (0 : Int32) (vO (13 + v)) (vO (13 + w)) (wH L xs g r rs) = some (wH L xs g1 r rs) := a1
          have b1' : f_X1_becomeJoined 8 (1 : Int32) (vO (13 + v)) (vO (13 + w)) (wH L xs g1 r rs) = some (wH L xs g2 r rs) := b1
          have a4 : f_X1_countOnes 8 (wH L xs g1 r rs) = some (nI (fb_ct (fun k => jB 0 (p k) (p2 k)) (max n n2)), wH L xs g1 r rs) := e_countOnes (j := 0) (by omega) a2
          have b4 : f_X1_countOnes 8 (wH L xs g2 r rs) = some (nI (fb_ct (fun k => jB 1 (p k) (p2 k)) (max n n2)), wH L xs g2 r rs) := e_countOnes (j := 0) (by omega) b2
          have F := vFr_q (vFr.trans a3 b3)
          have hm' : mOK g2 55 (33 * v) n p := mOK_eq hm (fun k hk => F _ _ (by omega) (by omega))
          have hm2' : mOK g2 55 (33 * w) n2 p2 := mOK_eq hm2 (fun k hk => F _ _ (by omega) (by omega))
          have mx : max n n2 ≤ 480 := by omega
          have lk := alk_L (L := L) (xs := xs) (r := r) (rs := rs) hv hw hm'.2.2.2 hm2'.2.2.2 (nI t) xN 0 (by omega) (by unfold xN; omega)
          rw [ct_tail a2.2.2.1 mx, ct_tail b2.2.2.1 mx, show fb_ct (fun t => jB 0 (p t) (p2 t)) (15 * 0) = 0 from rfl, show fb_ct (fun t => jB 1 (p t) (p2 t)) (15 * 0) = 0 from rfl, show 1 + 0 = 1 from rfl] at lk
          have lA := fb_ct_le (fun k => jB 0 (p k) (p2 k)) (max n n2)
          have lB := fb_ct_le (fun k => jB 1 (p k) (p2 k)) (max n n2)
          have lAB : fb_ct (fun k => jB 0 (p k) (p2 k)) (max n n2) ≤ fb_ct (fun k => jB 1 (p k) (p2 k)) (max n n2) := fb_ct_sub (fun k _ => by
            show jB 0 (p k) (p2 k) = true → jB 1 (p k) (p2 k) = true
            cases p k <;> cases p2 k <;> decide)
          generalize fb_ct (fun k => jB 0 (p k) (p2 k)) (max n n2) = A at a4 lk lA lAB
          generalize fb_ct (fun k => jB 1 (p k) (p2 k)) (max n n2) = B at b4 lk lB lAB
          by_cases hA : A = 0
          · subst hA
            refine ⟨nI t, g2, r, rs, g2, ?_, ?_, rel_scr R (fun c k x1 x2 x3 => F c k x1 (by omega)), by omega, by omega⟩
            · unfold f_X11_alike
              rw [V1 hv, ob_s, if_neg n1, V1 hw, ob_s, if_neg n1, if_neg (q_pos ht), if_pos (show nI t ≤ (1 : Int32) by rw [l_1, q_le ht (by omega)]; exact e), wr_3_4, ob_s, wr_3_1, ob_s, wq5v hv, ob_s, ob_s, wq5v hw, ob_s, wk8, if_pos rfl, a1', ob_s, wr_3_4, ob_s, wk8, if_pos rfl, a4, ob_s]
              dsimp only
              rw [wr_3_4, ob_s, wr_3_1, ob_s, wq5v hv, ob_s, ob_s, wq5v hw, ob_s, wk8, if_pos rfl, b1', ob_s, wr_3_4, ob_s, wk8, if_pos rfl, b4, ob_s, if_pos (by decide)]
            · unfold f_X12_alike
              rw [V2 hv, ob_s, if_neg n1, V2 hw, ob_s, if_neg n1, l_0, l_1, in_n ht (by omega), if_pos e, ob_s, if_neg (show ¬ nI 1 = nI 0 by decide), lk, ob_s]
              dsimp only
              have eB : (if nI B = nI 0 then nI 1 else nI B) = nI (if B = 0 then 1 else B) := by
                by_cases hB : B = 0
                · subst hB; rfl
                · rw [if_neg (by rw [q_eq (by omega) (by omega)]; exact hB), if_neg hB]
              rw [eB]
              have hB1 : 0 < (if B = 0 then 1 else B) := by split <;> omega
              have hB2 : (if B = 0 then 1 else B) ≤ 480 := by split <;> omega
              generalize (if B = 0 then 1 else B) = C at hB1 hB2
              rw [gcd_m _ _ _ _ xN 0 C (by unfold xN; omega) (by omega) (by omega), ob_s, Nat.gcd_zero_left]
              dsimp only
              rw [if_neg (show ¬ nI C = nI 0 by rw [q_eq (by omega) (by omega)]; omega), if_neg (show ¬ nI C = nI 0 by rw [q_eq (by omega) (by omega)]; omega), q_div (by omega) hB1 (by omega), q_div (by omega) hB1 (by omega), Nat.zero_div, Nat.div_self hB1]
              rcases (show t = 0 ∨ t = 1 by omega) with e0 | e0 <;> subst e0 <;> rfl
          · have gp : 0 < Nat.gcd A B := Nat.gcd_pos_of_pos_left _ (by omega)
            have gl : Nat.gcd A B ≤ A := Nat.gcd_le_left _ (by omega)
            refine ⟨nI ((if t = 0 then A else B) / Nat.gcd A B), g2, r, rs, g2, ?_, ?_, rel_scr R (fun c k x1 x2 x3 => F c k x1 (by omega)), by omega, by omega⟩
            · unfold f_X11_alike
              rw [V1 hv, ob_s, if_neg n1, V1 hw, ob_s, if_neg n1, if_neg (q_pos ht), if_pos (show nI t ≤ (1 : Int32) by rw [l_1, q_le ht (by omega)]; exact e), wr_3_4, ob_s, wr_3_1, ob_s, wq5v hv, ob_s, ob_s, wq5v hw, ob_s, wk8, if_pos rfl, a1', ob_s, wr_3_4, ob_s, wk8, if_pos rfl, a4, ob_s]
              dsimp only
              rw [wr_3_4, ob_s, wr_3_1, ob_s, wq5v hv, ob_s, ob_s, wq5v hw, ob_s, wk8, if_pos rfl, b1', ob_s, wr_3_4, ob_s, wk8, if_pos rfl, b4, ob_s, if_neg (i_nz (by omega) hA)]
              unfold f_X11_commonDivisor
              obtain ⟨u, eu⟩ := gcd_c (wH L xs g2 r rs) xN B A 0 (by omega) (by unfold xN; omega) (by omega)
              dsimp only
              rw [l_0, eu, ob_s, Nat.gcd_comm B A]
              dsimp only
              have e1 : (if (1 : Int32) < nI (Nat.gcd A B) then nI (Nat.gcd A B) else (1 : Int32)) = nI (Nat.gcd A B) := by
                by_cases h1 : Nat.gcd A B = 1
                · rw [h1]; rfl
                · rw [if_pos (by rw [l_1, q_lt (by omega) (by omega)]; omega)]
              rw [ob_s]
              dsimp only
              rw [e1, if_neg (show ¬ nI (Nat.gcd A B) = nI 0 by rw [q_eq (by omega) (by omega)]; omega), if_neg (show ¬ nI (Nat.gcd A B) = nI 0 by rw [q_eq (by omega) (by omega)]; omega), q_div (by omega) gp (by omega), q_div (by omega) gp (by omega)]
              rcases (show t = 0 ∨ t = 1 by omega) with e0 | e0 <;> subst e0 <;> rfl
            · unfold f_X12_alike
              rw [V2 hv, ob_s, if_neg n1, V2 hw, ob_s, if_neg n1, l_0, l_1, in_n ht (by omega), if_pos e, ob_s, if_neg (show ¬ nI 1 = nI 0 by decide), lk, ob_s]
              dsimp only
              rw [if_neg (show ¬ nI B = nI 0 by rw [q_eq (by omega) (by omega)]; omega), gcd_m _ _ _ _ xN A B (by unfold xN; omega) (by omega) (by omega), ob_s]
              dsimp only
              rw [if_neg (show ¬ nI (Nat.gcd A B) = nI 0 by rw [q_eq (by omega) (by omega)]; omega), if_neg (show ¬ nI (Nat.gcd A B) = nI 0 by rw [q_eq (by omega) (by omega)]; omega), q_div (by omega) gp (by omega), q_div (by omega) gp (by omega)]
              rcases (show t = 0 ∨ t = 1 by omega) with e0 | e0 <;> subst e0 <;> rfl
        · refine RO.op ?_ R
          unfold RO f_X11_alike f_X12_alike
          exact ⟨-1000001, by simp (disch := omega) only [q_pos, q_pos', q_lt, q_le, q_eq, q_add, q_sub, q_mul, ob_s, if_pos, if_neg, not_false_eq_true, q_m1', q_div, rm_N, l_0, l_1, l_2, l_3, l_4, l_5, l_6, l_7, l_8, l_10, l_11, l_12, l_13, l_14, l_15, l_16, l_18, l_20, l_21, l_22, l_23, l_24, l_32, l_33, l_40, l_44, l_48, l_57, l_59, l_60, l_63, l_64, l_97, l_98, l_99, l_100, l_111, l_116, l_122, l_132, l_200, l_240, l_255, l_480, l_1000, l_1452, if_true, if_false, true_or, or_true, in_neg, in_m1, in_n, V1, V2, R1, R2, B1, B2, eq_self, wk_3, wk_10, wk_37, wk_42, wr_3_0, wr_3_1, wr_3_2, wr_3_3, wr_3_4, wr_3_5, wr_3_6, wr_3_7, wr_3_8, wi_3_9, wi_3_10, wi_3_11, wp_3_9, wp_3_10, wp_3_11, wr_10_0, wr_10_1, wi_10_2, wi_10_3, wp_10_2, wp_10_3, wr_37_0, wr_37_1, wr_37_2, wi_37_3, wp_37_3, wi_37_4, wp_37_4, wi_37_5, wp_37_5, wi_37_6, wp_37_6, wi_37_7, wp_37_7, wi_37_8, wp_37_8, wr_42_0, wi_42_1, wp_42_1, wk_84, wr_84_0, wr_84_1, wr_84_2, wr_84_3, wr_84_5, wr_84_13, wr_84_14, wr_84_15, wr_84_17, wr_84_18, wr_84_20, wr_84_21, wr_84_23, wr_84_24, wr_84_25, wr_84_26, wi_84_4, wp_84_4, wi_84_6, wp_84_6, wi_84_7, wp_84_7, wi_84_8, wp_84_8, wi_84_9, wp_84_9, wi_84_10, wp_84_10, wi_84_11, wp_84_11, wi_84_12, wp_84_12, wi_84_16, wp_84_16, wi_84_19, wp_84_19, wi_84_22, wp_84_22, wi_84_27, wp_84_27, wq5v, wkv, wiv, wrv, wav'], by simp (disch := omega) only [q_pos, q_pos', q_lt, q_le, q_eq, q_add, q_sub, q_mul, ob_s, if_pos, if_neg, not_false_eq_true, q_m1', q_div, rm_N, l_0, l_1, l_2, l_3, l_4, l_5, l_6, l_7, l_8, l_10, l_11, l_12, l_13, l_14, l_15, l_16, l_18, l_20, l_21, l_22, l_23, l_24, l_32, l_33, l_40, l_44, l_48, l_57, l_59, l_60, l_63, l_64, l_97, l_98, l_99, l_100, l_111, l_116, l_122, l_132, l_200, l_240, l_255, l_480, l_1000, l_1452, if_true, if_false, true_or, or_true, in_neg, in_m1, in_n, V1, V2, R1, R2, B1, B2, eq_self, wk_3, wk_10, wk_37, wk_42, wr_3_0, wr_3_1, wr_3_2, wr_3_3, wr_3_4, wr_3_5, wr_3_6, wr_3_7, wr_3_8, wi_3_9, wi_3_10, wi_3_11, wp_3_9, wp_3_10, wp_3_11, wr_10_0, wr_10_1, wi_10_2, wi_10_3, wp_10_2, wp_10_3, wr_37_0, wr_37_1, wr_37_2, wi_37_3, wp_37_3, wi_37_4, wp_37_4, wi_37_5, wp_37_5, wi_37_6, wp_37_6, wi_37_7, wp_37_7, wi_37_8, wp_37_8, wr_42_0, wi_42_1, wp_42_1, wk_84, wr_84_0, wr_84_1, wr_84_2, wr_84_3, wr_84_5, wr_84_13, wr_84_14, wr_84_15, wr_84_17, wr_84_18, wr_84_20, wr_84_21, wr_84_23, wr_84_24, wr_84_25, wr_84_26, wi_84_4, wp_84_4, wi_84_6, wp_84_6, wi_84_7, wp_84_7, wi_84_8, wp_84_8, wi_84_9, wp_84_9, wi_84_10, wp_84_10, wi_84_11, wp_84_11, wi_84_12, wp_84_12, wi_84_16, wp_84_16, wi_84_19, wp_84_19, wi_84_22, wp_84_22, wi_84_27, wp_84_27, wq5v, wkv, wiv, wrv, wav']⟩
    · refine RO.op ?_ R
      unfold RO f_X11_alike f_X12_alike
      exact ⟨-1000001, by simp (disch := omega) only [q_pos, q_pos', q_lt, q_le, q_eq, q_add, q_sub, q_mul, ob_s, if_pos, if_neg, not_false_eq_true, q_m1', q_div, rm_N, l_0, l_1, l_2, l_3, l_4, l_5, l_6, l_7, l_8, l_10, l_11, l_12, l_13, l_14, l_15, l_16, l_18, l_20, l_21, l_22, l_23, l_24, l_32, l_33, l_40, l_44, l_48, l_57, l_59, l_60, l_63, l_64, l_97, l_98, l_99, l_100, l_111, l_116, l_122, l_132, l_200, l_240, l_255, l_480, l_1000, l_1452, if_true, if_false, true_or, or_true, in_neg, in_m1, in_n, V1, V2, R1, R2, B1, B2, eq_self, wk_3, wk_10, wk_37, wk_42, wr_3_0, wr_3_1, wr_3_2, wr_3_3, wr_3_4, wr_3_5, wr_3_6, wr_3_7, wr_3_8, wi_3_9, wi_3_10, wi_3_11, wp_3_9, wp_3_10, wp_3_11, wr_10_0, wr_10_1, wi_10_2, wi_10_3, wp_10_2, wp_10_3, wr_37_0, wr_37_1, wr_37_2, wi_37_3, wp_37_3, wi_37_4, wp_37_4, wi_37_5, wp_37_5, wi_37_6, wp_37_6, wi_37_7, wp_37_7, wi_37_8, wp_37_8, wr_42_0, wi_42_1, wp_42_1, wk_84, wr_84_0, wr_84_1, wr_84_2, wr_84_3, wr_84_5, wr_84_13, wr_84_14, wr_84_15, wr_84_17, wr_84_18, wr_84_20, wr_84_21, wr_84_23, wr_84_24, wr_84_25, wr_84_26, wi_84_4, wp_84_4, wi_84_6, wp_84_6, wi_84_7, wp_84_7, wi_84_8, wp_84_8, wi_84_9, wp_84_9, wi_84_10, wp_84_10, wi_84_11, wp_84_11, wi_84_12, wp_84_12, wi_84_16, wp_84_16, wi_84_19, wp_84_19, wi_84_22, wp_84_22, wi_84_27, wp_84_27, wq5v, wkv, wiv, wrv, wav', h1], by simp (disch := omega) only [q_pos, q_pos', q_lt, q_le, q_eq, q_add, q_sub, q_mul, ob_s, if_pos, if_neg, not_false_eq_true, q_m1', q_div, rm_N, l_0, l_1, l_2, l_3, l_4, l_5, l_6, l_7, l_8, l_10, l_11, l_12, l_13, l_14, l_15, l_16, l_18, l_20, l_21, l_22, l_23, l_24, l_32, l_33, l_40, l_44, l_48, l_57, l_59, l_60, l_63, l_64, l_97, l_98, l_99, l_100, l_111, l_116, l_122, l_132, l_200, l_240, l_255, l_480, l_1000, l_1452, if_true, if_false, true_or, or_true, in_neg, in_m1, in_n, V1, V2, R1, R2, B1, B2, eq_self, wk_3, wk_10, wk_37, wk_42, wr_3_0, wr_3_1, wr_3_2, wr_3_3, wr_3_4, wr_3_5, wr_3_6, wr_3_7, wr_3_8, wi_3_9, wi_3_10, wi_3_11, wp_3_9, wp_3_10, wp_3_11, wr_10_0, wr_10_1, wi_10_2, wi_10_3, wp_10_2, wp_10_3, wr_37_0, wr_37_1, wr_37_2, wi_37_3, wp_37_3, wi_37_4, wp_37_4, wi_37_5, wp_37_5, wi_37_6, wp_37_6, wi_37_7, wp_37_7, wi_37_8, wp_37_8, wr_42_0, wi_42_1, wp_42_1, wk_84, wr_84_0, wr_84_1, wr_84_2, wr_84_3, wr_84_5, wr_84_13, wr_84_14, wr_84_15, wr_84_17, wr_84_18, wr_84_20, wr_84_21, wr_84_23, wr_84_24, wr_84_25, wr_84_26, wi_84_4, wp_84_4, wi_84_6, wp_84_6, wi_84_7, wp_84_7, wi_84_8, wp_84_8, wi_84_9, wp_84_9, wi_84_10, wp_84_10, wi_84_11, wp_84_11, wi_84_12, wp_84_12, wi_84_16, wp_84_16, wi_84_19, wp_84_19, wi_84_22, wp_84_22, wi_84_27, wp_84_27, wq5v, wkv, wiv, wrv, wav', h2]⟩
  · refine RO.op ?_ R
    unfold RO f_X11_alike f_X12_alike
    exact ⟨-1000001, by simp (disch := omega) only [q_pos, q_pos', q_lt, q_le, q_eq, q_add, q_sub, q_mul, ob_s, if_pos, if_neg, not_false_eq_true, q_m1', q_div, rm_N, l_0, l_1, l_2, l_3, l_4, l_5, l_6, l_7, l_8, l_10, l_11, l_12, l_13, l_14, l_15, l_16, l_18, l_20, l_21, l_22, l_23, l_24, l_32, l_33, l_40, l_44, l_48, l_57, l_59, l_60, l_63, l_64, l_97, l_98, l_99, l_100, l_111, l_116, l_122, l_132, l_200, l_240, l_255, l_480, l_1000, l_1452, if_true, if_false, true_or, or_true, in_neg, in_m1, in_n, V1, V2, R1, R2, B1, B2, eq_self, wk_3, wk_10, wk_37, wk_42, wr_3_0, wr_3_1, wr_3_2, wr_3_3, wr_3_4, wr_3_5, wr_3_6, wr_3_7, wr_3_8, wi_3_9, wi_3_10, wi_3_11, wp_3_9, wp_3_10, wp_3_11, wr_10_0, wr_10_1, wi_10_2, wi_10_3, wp_10_2, wp_10_3, wr_37_0, wr_37_1, wr_37_2, wi_37_3, wp_37_3, wi_37_4, wp_37_4, wi_37_5, wp_37_5, wi_37_6, wp_37_6, wi_37_7, wp_37_7, wi_37_8, wp_37_8, wr_42_0, wi_42_1, wp_42_1, h1], by simp (disch := omega) only [q_pos, q_pos', q_lt, q_le, q_eq, q_add, q_sub, q_mul, ob_s, if_pos, if_neg, not_false_eq_true, q_m1', q_div, rm_N, l_0, l_1, l_2, l_3, l_4, l_5, l_6, l_7, l_8, l_10, l_11, l_12, l_13, l_14, l_15, l_16, l_18, l_20, l_21, l_22, l_23, l_24, l_32, l_33, l_40, l_44, l_48, l_57, l_59, l_60, l_63, l_64, l_97, l_98, l_99, l_100, l_111, l_116, l_122, l_132, l_200, l_240, l_255, l_480, l_1000, l_1452, if_true, if_false, true_or, or_true, in_neg, in_m1, in_n, V1, V2, R1, R2, B1, B2, eq_self, wk_84, wr_84_0, wr_84_1, wr_84_2, wr_84_3, wr_84_5, wr_84_13, wr_84_14, wr_84_15, wr_84_17, wr_84_18, wr_84_20, wr_84_21, wr_84_23, wr_84_24, wr_84_25, wr_84_26, wi_84_4, wp_84_4, wi_84_6, wp_84_6, wi_84_7, wp_84_7, wi_84_8, wp_84_8, wi_84_9, wp_84_9, wi_84_10, wp_84_10, wi_84_11, wp_84_11, wi_84_12, wp_84_12, wi_84_16, wp_84_16, wi_84_19, wp_84_19, wi_84_22, wp_84_22, wi_84_27, wp_84_27, h2]⟩
end ALIKE
