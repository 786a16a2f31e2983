theorem ct_tail {q : Nat → Bool} {n m : Nat} (h : ∀ i, n ≤ i → q i = false) (hm : n ≤ m) : fb_ct q m = fb_ct q n := by
  obtain ⟨d, rfl⟩ : ∃ d, m = n + d := ⟨m - n, by omega⟩
  rw [fb_ct_split, fb_ct_zero.mpr (fun k _ => h (n + k) (by omega)), Nat.add_zero]
theorem gcd_st {a b : Nat} : Nat.gcd b (a % b) = Nat.gcd a b := by
  rw [Nat.gcd_comm a b, Nat.gcd_rec b a, Nat.gcd_comm]
/-- all but the scratch of both as it was -/
theorem rel_scr {g g' : xS} {r : Nat → Option Nat} {rs : xH} (R : Rel g r rs) (F : ∀ c k, ¬ (c = 1 ∧ k = 0) → c ≠ 20 → c ≠ 56 → g' c k = g c k) : Rel g' r rs := by
  refine ⟨rRow_c R.row (fun c k hc => F c k (by omega) (by omega) (by omega)), rTap_c R.tap (fun c k hc => F c k (by omega) (by omega) (by omega)), ⟨?_, ?_⟩, rVec_c R.vec (fun c k hc => F c k (by omega) (by omega) (by omega)), rImg_c R.img (fun c k hc => F c k (by omega) (by omega) (by omega)), rCh_c R.ch (fun k => F _ k (by omega) (by omega) (by omega)), rTr_c R.tr (fun c k hc => F c k (by omega) (by omega) (by omega)), rRun_c R.run (fun c k hc => F c k (by omega) (by omega) (by omega)), rHis_c R.his (fun c k hc => F c k (by omega) (by omega) (by omega))⟩
  · rw [F 0 10 (by omega) (by omega) (by omega), F 66 7 (by omega) (by omega) (by omega)]
    exact R.fs.1
  · rw [F 0 11 (by omega) (by omega) (by omega), F 66 4 (by omega) (by omega) (by omega)]
    exact R.fs.2
theorem gcd_c (h : xH) : ∀ m a b s, b + s ≤ 480 → b < m → a < 2147483648 → ∃ y, f_X11_commonDivisor_L7 m (nI a) (nI b) (nI s) h = some (nI (Nat.gcd a b), nI 0, y, h) := by
  intro m
  induction m with
  | zero => intro a b s h1 h2; omega
  | succ m ih =>
    intro a b s h1 h2 h3
    unfold f_X11_commonDivisor_L7
    by_cases hb : b = 0
    · subst hb
      refine ⟨nI s, ?_⟩
      rw [Nat.gcd_zero_right]
      by_cases hs : 480 ≤ s
      · rw [if_pos (show (480 : Int32) ≤ nI s by rw [l_480, q_le (by omega) (by omega)]; exact hs)]
      · rw [if_neg (show ¬ (480 : Int32) ≤ nI s by rw [l_480, q_le (by omega) (by omega)]; exact hs), if_pos (by decide)]
    · have hm := Nat.mod_lt a (show 0 < b by omega)
      obtain ⟨y, e⟩ := ih b (a % b) (s + 1) (by omega) (by omega) (by omega)
      refine ⟨y, ?_⟩
      rw [if_neg (show ¬ (480 : Int32) ≤ nI s by rw [l_480, q_le (by omega) (by omega)]; omega), if_neg (i_nz (by omega) hb), if_neg (i_nz (by omega) hb), q_rem h3 (by omega) (by omega), l_1, q_add, e, gcd_st]
theorem gcd_m (h : xH) (z u w : Int32) : ∀ m x y, y < m → x < 2147483648 → y < 2147483648 → f_X12_alike_L135 m z u w (nI x) (nI y) h = some (nI (Nat.gcd x y), nI 0, h) := by
  intro m
  induction m with
  | zero => intro x y h1; omega
  | succ m ih =>
    intro x y h1 h2 h3
    unfold f_X12_alike_L135
    by_cases hb : y = 0
    · subst hb
      rw [Nat.gcd_zero_right, if_pos (by decide)]
    · have hm := Nat.mod_lt x (show 0 < y by omega)
      rw [if_neg (i_nz (by omega) hb), if_neg (i_nz (by omega) hb), q_rem h2 (by omega) (by omega), ih y (x % y) (by omega) (by omega) (by omega), gcd_st]
section ALIKE
variable {L : Nat} {xs : Nat → Int32} {g : xS} {r : Nat → Option Nat} {rs : xH} {v w n n2 : Nat} {p p2 : Nat → Bool}
theorem wk8 : xk (wH L xs g r rs) 8 = some 1 := rfl
theorem alk_L (hv : v < 4) (hw : w < 4) (hm : mM g 55 (33 * v) p) (hm2 : mM g 55 (33 * w) p2) (z : Int32) : ∀ m k, k ≤ 32 → 32 < k + m → f_X12_alike_L35 m 84 (nI v) (nI w) z (nI (fb_ct (fun t => jB 0 (p t) (p2 t)) (15 * k))) (nI (fb_ct (fun t => jB 1 (p t) (p2 t)) (15 * k))) (nI (1 + k)) (wH L xs g r rs) = some (nI (fb_ct (fun t => jB 0 (p t) (p2 t)) 480), nI (fb_ct (fun t => jB 1 (p t) (p2 t)) 480), nI 33, wH L xs g r rs) := by
  intro m
  induction m with
  | zero => intro k h1 h2; omega
  | succ m ih =>
    intro k h1 h2
    unfold f_X12_alike_L35
    by_cases hk : k = 32
    · subst hk
      rw [if_pos (by decide)]
    · have ha : g 55 (33 * v + (1 + k)) = nI (mkN p k) := by rw [← Nat.add_assoc]; exact hm k (by omega)
      have hb : g 55 (33 * w + (1 + k)) = nI (mkN p2 k) := by rw [← Nat.add_assoc]; exact hm2 k (by omega)
      have j0 : nI (mkN p k) &&& nI (mkN p2 k) = nI (mkN (fun t => jB 0 (p t) (p2 t)) k) := jI_N (how := 0) p p2 k
      have j1 : nI (mkN p k) ||| nI (mkN p2 k) = nI (mkN (fun t => jB 1 (p t) (p2 t)) k) := jI_N (how := 1) p p2 k
      have c : ∀ q : Nat → Bool, fb_ct q (15 * k) + clN q k = fb_ct q (15 * (k + 1)) := fun q => by
        rw [show 15 * (k + 1) = 15 * k + 15 by omega, fb_ct_split]; rfl
      have e33 : (33 : Int32) * nI v + nI (1 + k) = nI (33 * v + (1 + k)) := by rw [show (33 : Int32) = nI 33 from rfl, q_mul, q_add]
      have e33' : (33 : Int32) * nI w + nI (1 + k) = nI (33 * w + (1 + k)) := by rw [show (33 : Int32) = nI 33 from rfl, q_mul, q_add]
      rw [if_neg (show ¬ (33 : Int32) ≤ nI (1 + k) by rw [show (33 : Int32) = nI 33 from rfl, q_le (by omega) (by omega)]; omega), wr_84_13, ob_s, e33, wa_90' (by omega), ob_s, ob_s, e33', wa_90' (by omega), ob_s, ha, hb, j0, m_sortOf (mkN_lt _ _), ob_s]
      dsimp only
      rw [wr_84_13, ob_s, wa_90' (by omega), ob_s, ob_s, wa_90' (by omega), ob_s, ha, hb, j1, m_sortOf (mkN_lt _ _), ob_s]
      dsimp only
      rw [mk_ct, mk_ct, q_add, q_add, l_1, q_add, c, c, Nat.add_assoc]
      exact ih (k + 1) (by omega) (by omega)
theorem o_alike (R : Rel g r rs) (x y z : Int32) : Op L xs g r rs (f_X11_alike 3 x y z) (f_X12_alike 84 x y z) := by
  have n1 : ¬ nI 1 = (0 : Int32) := by decide
  rcases sV x with ⟨v, hv, rfl⟩ | ⟨h1, h2⟩
  · rcases sV y with ⟨w, hw, rfl⟩ | ⟨h1, h2⟩
    · obtain ⟨n, p, hc, hm⟩ := R.vec v hv
      obtain ⟨n2, p2, hc2, hm2⟩ := R.vec w hw
      rcases a_sp z with hz | ⟨t, ht, rfl⟩
      · refine RO.op ?_ R
        unfold RO f_X11_alike f_X12_alike
        exact ⟨-1000001, by simp (disch := omega) only [q_pos, q_pos', q_lt, q_le, q_eq, q_add, q_sub, q_mul, ob_s, if_pos, if_neg, not_false_eq_true, q_m1', q_div, rm_N, l_0, l_1, l_2, l_3, l_4, l_5, l_6, l_7, l_8, l_10, l_11, l_12, l_13, l_14, l_15, l_16, l_18, l_20, l_21, l_22, l_23, l_24, l_32, l_33, l_40, l_44, l_48, l_57, l_59, l_60, l_63, l_64, l_97, l_98, l_99, l_100, l_111, l_116, l_122, l_132, l_200, l_240, l_255, l_480, l_1000, l_1452, if_true, if_false, true_or, or_true, in_neg, in_m1, in_n, V1, V2, R1, R2, B1, B2, eq_self, wk_3, wk_10, wk_37, wk_42, wr_3_0, wr_3_1, wr_3_2, wr_3_3, wr_3_4, wr_3_5, wr_3_6, wr_3_7, wr_3_8, wi_3_9, wi_3_10, wi_3_11, wp_3_9, wp_3_10, wp_3_11, wr_10_0, wr_10_1, wi_10_2, wi_10_3, wp_10_2, wp_10_3, wr_37_0, wr_37_1, wr_37_2, wi_37_3, wp_37_3, wi_37_4, wp_37_4, wi_37_5, wp_37_5, wi_37_6, wp_37_6, wi_37_7, wp_37_7, wi_37_8, wp_37_8, wr_42_0, wi_42_1, wp_42_1, wk_84, wr_84_0, wr_84_1, wr_84_2, wr_84_3, wr_84_5, wr_84_13, wr_84_14, wr_84_15, wr_84_17, wr_84_18, wr_84_20, wr_84_21, wr_84_23, wr_84_24, wr_84_25, wr_84_26, wi_84_4, wp_84_4, wi_84_6, wp_84_6, wi_84_7, wp_84_7, wi_84_8, wp_84_8, wi_84_9, wp_84_9, wi_84_10, wp_84_10, wi_84_11, wp_84_11, wi_84_12, wp_84_12, wi_84_16, wp_84_16, wi_84_19, wp_84_19, wi_84_22, wp_84_22, wi_84_27, wp_84_27, wq5v, wkv, wiv, wrv, wav', ng1 hz], by simp (disch := omega) only [q_pos, q_pos', q_lt, q_le, q_eq, q_add, q_sub, q_mul, ob_s, if_pos, if_neg, not_false_eq_true, q_m1', q_div, rm_N, l_0, l_1, l_2, l_3, l_4, l_5, l_6, l_7, l_8, l_10, l_11, l_12, l_13, l_14, l_15, l_16, l_18, l_20, l_21, l_22, l_23, l_24, l_32, l_33, l_40, l_44, l_48, l_57, l_59, l_60, l_63, l_64, l_97, l_98, l_99, l_100, l_111, l_116, l_122, l_132, l_200, l_240, l_255, l_480, l_1000, l_1452, if_true, if_false, true_or, or_true, in_neg, in_m1, in_n, V1, V2, R1, R2, B1, B2, eq_self, wk_3, wk_10, wk_37, wk_42, wr_3_0, wr_3_1, wr_3_2, wr_3_3, wr_3_4, wr_3_5, wr_3_6, wr_3_7, wr_3_8, wi_3_9, wi_3_10, wi_3_11, wp_3_9, wp_3_10, wp_3_11, wr_10_0, wr_10_1, wi_10_2, wi_10_3, wp_10_2, wp_10_3, wr_37_0, wr_37_1, wr_37_2, wi_37_3, wp_37_3, wi_37_4, wp_37_4, wi_37_5, wp_37_5, wi_37_6, wp_37_6, wi_37_7, wp_37_7, wi_37_8, wp_37_8, wr_42_0, wi_42_1, wp_42_1, wk_84, wr_84_0, wr_84_1, wr_84_2, wr_84_3, wr_84_5, wr_84_13, wr_84_14, wr_84_15, wr_84_17, wr_84_18, wr_84_20, wr_84_21, wr_84_23, wr_84_24, wr_84_25, wr_84_26, wi_84_4, wp_84_4, wi_84_6, wp_84_6, wi_84_7, wp_84_7, wi_84_8, wp_84_8, wi_84_9, wp_84_9, wi_84_10, wp_84_10, wi_84_11, wp_84_11, wi_84_12, wp_84_12, wi_84_16, wp_84_16, wi_84_19, wp_84_19, wi_84_22, wp_84_22, wi_84_27, wp_84_27, wq5v, wkv, wiv, wrv, wav', in_neg hz]⟩
      · by_cases e : t ≤ 1
        · have hn := hc.1
          have hn2 := hc2.1
          obtain ⟨g1, a1, a2, a3⟩ := e_becomeJoined (L := L) (xs := xs) (r := r) (rs := rs) (j := 0) (how := 0) (by omega) (show 13 + v < 25 by omega) (show 13 + w < 25 by omega) (by omega) hc hc2
          have hc' := vOK_fr hc a3 (by omega)
          have hc2' := vOK_fr hc2 a3 (by omega)
          obtain ⟨g2, b1, b2, b3⟩ := e_becomeJoined (L := L) (xs := xs) (r := r) (rs := rs) (j := 0) (how := 1) (by omega) (show 13 + v < 25 by omega) (show 13 + w < 25 by omega) (by omega) hc' hc2'
          have a1' : f_X1_becomeJoined 8 (0 : Int32) (vO (13 + v)) (vO (13 + w)) (wH L xs g r rs) = some (wH L xs g1 r rs) := a1
          have b1' : f_X1_becomeJoined 8 (1 : Int32) (vO (13 + v)) (vO (13 + w)) (wH L xs g1 r rs) = some (wH L xs g2 r rs) := b1
          have a4 : f_X1_countOnes 8 (wH L xs g1 r rs) = some (nI (fb_ct (fun k => jB 0 (p k) (p2 k)) (max n n2)), wH L xs g1 r rs) := e_countOnes (j := 0) (by omega) a2
          have b4 : f_X1_countOnes 8 (wH L xs g2 r rs) = some (nI (fb_ct (fun k => jB 1 (p k) (p2 k)) (max n n2)), wH L xs g2 r rs) := e_countOnes (j := 0) (by omega) b2
          have F := vFr_q (vFr.trans a3 b3)
          have hm' : mOK g2 55 (33 * v) n p := mOK_eq hm (fun k hk => F _ _ (by omega) (by omega))
          have hm2' : mOK g2 55 (33 * w) n2 p2 := mOK_eq hm2 (fun k hk => F _ _ (by omega) (by omega))
          have mx : max n n2 ≤ 480 := by omega
          have lk := alk_L (L := L) (xs := xs) (r := r) (rs := rs) hv hw hm'.2.2.2 hm2'.2.2.2 (nI t) xN 0 (by omega) (by unfold xN; omega)
          rw [ct_tail a2.2.2.1 mx, ct_tail b2.2.2.1 mx, show fb_ct (fun t => jB 0 (p t) (p2 t)) (15 * 0) = 0 from rfl, show fb_ct (fun t => jB 1 (p t) (p2 t)) (15 * 0) = 0 from rfl, show 1 + 0 = 1 from rfl] at lk
          have lA := fb_ct_le (fun k => jB 0 (p k) (p2 k)) (max n n2)
          have lB := fb_ct_le (fun k => jB 1 (p k) (p2 k)) (max n n2)
          have lAB : fb_ct (fun k => jB 0 (p k) (p2 k)) (max n n2) ≤ fb_ct (fun k => jB 1 (p k) (p2 k)) (max n n2) := fb_ct_sub (fun k _ => by
            show jB 0 (p k) (p2 k) = true → jB 1 (p k) (p2 k) = true
            cases p k <;> cases p2 k <;> decide)
          generalize fb_ct (fun k => jB 0 (p k) (p2 k)) (max n n2) = A at a4 lk lA lAB
          generalize fb_ct (fun k => jB 1 (p k) (p2 k)) (max n n2) = B at b4 lk lB lAB
          by_cases hA : A = 0
          · subst hA
            refine ⟨nI t, g2, r, rs, g2, ?_, ?_, rel_scr R (fun c k x1 x2 x3 => F c k x1 (by omega)), by omega, by omega⟩
            · unfold f_X11_alike
              rw [V1 hv, ob_s, if_neg n1, V1 hw, ob_s, if_neg n1, if_neg (q_pos ht), if_pos (show nI t ≤ (1 : Int32) by rw [l_1, q_le ht (by omega)]; exact e), wr_3_4, ob_s, wr_3_1, ob_s, wq5v hv, ob_s, ob_s, wq5v hw, ob_s, wk8, if_pos rfl, a1', ob_s, wr_3_4, ob_s, wk8, if_pos rfl, a4, ob_s]
              dsimp only
              rw [wr_3_4, ob_s, wr_3_1, ob_s, wq5v hv, ob_s, ob_s, wq5v hw, ob_s, wk8, if_pos rfl, b1', ob_s, wr_3_4, ob_s, wk8, if_pos rfl, b4, ob_s, if_pos (by decide)]
            · unfold f_X12_alike
              rw [V2 hv, ob_s, if_neg n1, V2 hw, ob_s, if_neg n1, l_0, l_1, in_n ht (by omega), if_pos e, ob_s, if_neg (show ¬ nI 1 = nI 0 by decide), lk, ob_s]
              dsimp only
              have eB : (if nI B = nI 0 then nI 1 else nI B) = nI (if B = 0 then 1 else B) := by
                by_cases hB : B = 0
                · subst hB; rfl
                · rw [if_neg (by rw [q_eq (by omega) (by omega)]; exact hB), if_neg hB]
              rw [eB]
              have hB1 : 0 < (if B = 0 then 1 else B) := by split <;> omega
              have hB2 : (if B = 0 then 1 else B) ≤ 480 := by split <;> omega
              generalize (if B = 0 then 1 else B) = C at hB1 hB2
              rw [gcd_m _ _ _ _ xN 0 C (by unfold xN; omega) (by omega) (by omega), ob_s, Nat.gcd_zero_left]
              dsimp only
              rw [if_neg (show ¬ nI C = nI 0 by rw [q_eq (by omega) (by omega)]; omega), if_neg (show ¬ nI C = nI 0 by rw [q_eq (by omega) (by omega)]; omega), q_div (by omega) hB1 (by omega), q_div (by omega) hB1 (by omega), Nat.zero_div, Nat.div_self hB1]
              rcases (show t = 0 ∨ t = 1 by omega) with e0 | e0 <;> subst e0 <;> rfl
          · have gp : 0 < Nat.gcd A B := Nat.gcd_pos_of_pos_left _ (by omega)
            have gl : Nat.gcd A B ≤ A := Nat.gcd_le_left _ (by omega)
            refine ⟨nI ((if t = 0 then A else B) / Nat.gcd A B), g2, r, rs, g2, ?_, ?_, rel_scr R (fun c k x1 x2 x3 => F c k x1 (by omega)), by omega, by omega⟩
            · unfold f_X11_alike
              rw [V1 hv, ob_s, if_neg n1, V1 hw, ob_s, if_neg n1, if_neg (q_pos ht), if_pos (show nI t ≤ (1 : Int32) by rw [l_1, q_le ht (by omega)]; exact e), wr_3_4, ob_s, wr_3_1, ob_s, wq5v hv, ob_s, ob_s, wq5v hw, ob_s, wk8, if_pos rfl, a1', ob_s, wr_3_4, ob_s, wk8, if_pos rfl, a4, ob_s]
              dsimp only
              rw [wr_3_4, ob_s, wr_3_1, ob_s, wq5v hv, ob_s, ob_s, wq5v hw, ob_s, wk8, if_pos rfl, b1', ob_s, wr_3_4, ob_s, wk8, if_pos rfl, b4, ob_s, if_neg (i_nz (by omega) hA)]
              unfold f_X11_commonDivisor
              obtain ⟨u, eu⟩ := gcd_c (wH L xs g2 r rs) xN B A 0 (by omega) (by unfold xN; omega) (by omega)
              dsimp only
              rw [l_0, eu, ob_s, Nat.gcd_comm B A]
              dsimp only
              have e1 : (if (1 : Int32) < nI (Nat.gcd A B) then nI (Nat.gcd A B) else (1 : Int32)) = nI (Nat.gcd A B) := by
                by_cases h1 : Nat.gcd A B = 1
                · rw [h1]; rfl
                · rw [if_pos (by rw [l_1, q_lt (by omega) (by omega)]; omega)]
              rw [ob_s]
              dsimp only
              rw [e1, if_neg (show ¬ nI (Nat.gcd A B) = nI 0 by rw [q_eq (by omega) (by omega)]; omega), if_neg (show ¬ nI (Nat.gcd A B) = nI 0 by rw [q_eq (by omega) (by omega)]; omega), q_div (by omega) gp (by omega), q_div (by omega) gp (by omega)]
              rcases (show t = 0 ∨ t = 1 by omega) with e0 | e0 <;> subst e0 <;> rfl
            · unfold f_X12_alike
              rw [V2 hv, ob_s, if_neg n1, V2 hw, ob_s, if_neg n1, l_0, l_1, in_n ht (by omega), if_pos e, ob_s, if_neg (show ¬ nI 1 = nI 0 by decide), lk, ob_s]
              dsimp only
              rw [if_neg (show ¬ nI B = nI 0 by rw [q_eq (by omega) (by omega)]; omega), gcd_m _ _ _ _ xN A B (by unfold xN; omega) (by omega) (by omega), ob_s]
              dsimp only
              rw [if_neg (show ¬ nI (Nat.gcd A B) = nI 0 by rw [q_eq (by omega) (by omega)]; omega), if_neg (show ¬ nI (Nat.gcd A B) = nI 0 by rw [q_eq (by omega) (by omega)]; omega), q_div (by omega) gp (by omega), q_div (by omega) gp (by omega)]
              rcases (show t = 0 ∨ t = 1 by omega) with e0 | e0 <;> subst e0 <;> rfl
        · refine RO.op ?_ R
          unfold RO f_X11_alike f_X12_alike
          exact ⟨-1000001, by simp (disch := omega) only [q_pos, q_pos', q_lt, q_le, q_eq, q_add, q_sub, q_mul, ob_s, if_pos, if_neg, not_false_eq_true, q_m1', q_div, rm_N, l_0, l_1, l_2, l_3, l_4, l_5, l_6, l_7, l_8, l_10, l_11, l_12, l_13, l_14, l_15, l_16, l_18, l_20, l_21, l_22, l_23, l_24, l_32, l_33, l_40, l_44, l_48, l_57, l_59, l_60, l_63, l_64, l_97, l_98, l_99, l_100, l_111, l_116, l_122, l_132, l_200, l_240, l_255, l_480, l_1000, l_1452, if_true, if_false, true_or, or_true, in_neg, in_m1, in_n, V1, V2, R1, R2, B1, B2, eq_self, wk_3, wk_10, wk_37, wk_42, wr_3_0, wr_3_1, wr_3_2, wr_3_3, wr_3_4, wr_3_5, wr_3_6, wr_3_7, wr_3_8, wi_3_9, wi_3_10, wi_3_11, wp_3_9, wp_3_10, wp_3_11, wr_10_0, wr_10_1, wi_10_2, wi_10_3, wp_10_2, wp_10_3, wr_37_0, wr_37_1, wr_37_2, wi_37_3, wp_37_3, wi_37_4, wp_37_4, wi_37_5, wp_37_5, wi_37_6, wp_37_6, wi_37_7, wp_37_7, wi_37_8, wp_37_8, wr_42_0, wi_42_1, wp_42_1, wk_84, wr_84_0, wr_84_1, wr_84_2, wr_84_3, wr_84_5, wr_84_13, wr_84_14, wr_84_15, wr_84_17, wr_84_18, wr_84_20, wr_84_21, wr_84_23, wr_84_24, wr_84_25, wr_84_26, wi_84_4, wp_84_4, wi_84_6, wp_84_6, wi_84_7, wp_84_7, wi_84_8, wp_84_8, wi_84_9, wp_84_9, wi_84_10, wp_84_10, wi_84_11, wp_84_11, wi_84_12, wp_84_12, wi_84_16, wp_84_16, wi_84_19, wp_84_19, wi_84_22, wp_84_22, wi_84_27, wp_84_27, wq5v, wkv, wiv, wrv, wav'], by simp (disch := omega) only [q_pos, q_pos', q_lt, q_le, q_eq, q_add, q_sub, q_mul, ob_s, if_pos, if_neg, not_false_eq_true, q_m1', q_div, rm_N, l_0, l_1, l_2, l_3, l_4, l_5, l_6, l_7, l_8, l_10, l_11, l_12, l_13, l_14, l_15, l_16, l_18, l_20, l_21, l_22, l_23, l_24, l_32, l_33, l_40, l_44, l_48, l_57, l_59, l_60, l_63, l_64, l_97, l_98, l_99, l_100, l_111, l_116, l_122, l_132, l_200, l_240, l_255, l_480, l_1000, l_1452, if_true, if_false, true_or, or_true, in_neg, in_m1, in_n, V1, V2, R1, R2, B1, B2, eq_self, wk_3, wk_10, wk_37, wk_42, wr_3_0, wr_3_1, wr_3_2, wr_3_3, wr_3_4, wr_3_5, wr_3_6, wr_3_7, wr_3_8, wi_3_9, wi_3_10, wi_3_11, wp_3_9, wp_3_10, wp_3_11, wr_10_0, wr_10_1, wi_10_2, wi_10_3, wp_10_2, wp_10_3, wr_37_0, wr_37_1, wr_37_2, wi_37_3, wp_37_3, wi_37_4, wp_37_4, wi_37_5, wp_37_5, wi_37_6, wp_37_6, wi_37_7, wp_37_7, wi_37_8, wp_37_8, wr_42_0, wi_42_1, wp_42_1, wk_84, wr_84_0, wr_84_1, wr_84_2, wr_84_3, wr_84_5, wr_84_13, wr_84_14, wr_84_15, wr_84_17, wr_84_18, wr_84_20, wr_84_21, wr_84_23, wr_84_24, wr_84_25, wr_84_26, wi_84_4, wp_84_4, wi_84_6, wp_84_6, wi_84_7, wp_84_7, wi_84_8, wp_84_8, wi_84_9, wp_84_9, wi_84_10, wp_84_10, wi_84_11, wp_84_11, wi_84_12, wp_84_12, wi_84_16, wp_84_16, wi_84_19, wp_84_19, wi_84_22, wp_84_22, wi_84_27, wp_84_27, wq5v, wkv, wiv, wrv, wav']⟩
    · refine RO.op ?_ R
      unfold RO f_X11_alike f_X12_alike
      exact ⟨-1000001, by simp (disch := omega) only [q_pos, q_pos', q_lt, q_le, q_eq, q_add, q_sub, q_mul, ob_s, if_pos, if_neg, not_false_eq_true, q_m1', q_div, rm_N, l_0, l_1, l_2, l_3, l_4, l_5, l_6, l_7, l_8, l_10, l_11, l_12, l_13, l_14, l_15, l_16, l_18, l_20, l_21, l_22, l_23, l_24, l_32, l_33, l_40, l_44, l_48, l_57, l_59, l_60, l_63, l_64, l_97, l_98, l_99, l_100, l_111, l_116, l_122, l_132, l_200, l_240, l_255, l_480, l_1000, l_1452, if_true, if_false, true_or, or_true, in_neg, in_m1, in_n, V1, V2, R1, R2, B1, B2, eq_self, wk_3, wk_10, wk_37, wk_42, wr_3_0, wr_3_1, wr_3_2, wr_3_3, wr_3_4, wr_3_5, wr_3_6, wr_3_7, wr_3_8, wi_3_9, wi_3_10, wi_3_11, wp_3_9, wp_3_10, wp_3_11, wr_10_0, wr_10_1, wi_10_2, wi_10_3, wp_10_2, wp_10_3, wr_37_0, wr_37_1, wr_37_2, wi_37_3, wp_37_3, wi_37_4, wp_37_4, wi_37_5, wp_37_5, wi_37_6, wp_37_6, wi_37_7, wp_37_7, wi_37_8, wp_37_8, wr_42_0, wi_42_1, wp_42_1, wk_84, wr_84_0, wr_84_1, wr_84_2, wr_84_3, wr_84_5, wr_84_13, wr_84_14, wr_84_15, wr_84_17, wr_84_18, wr_84_20, wr_84_21, wr_84_23, wr_84_24, wr_84_25, wr_84_26, wi_84_4, wp_84_4, wi_84_6, wp_84_6, wi_84_7, wp_84_7, wi_84_8, wp_84_8, wi_84_9, wp_84_9, wi_84_10, wp_84_10, wi_84_11, wp_84_11, wi_84_12, wp_84_12, wi_84_16, wp_84_16, wi_84_19, wp_84_19, wi_84_22, wp_84_22, wi_84_27, wp_84_27, wq5v, wkv, wiv, wrv, wav', h1], by simp (disch := omega) only [q_pos, q_pos', q_lt, q_le, q_eq, q_add, q_sub, q_mul, ob_s, if_pos, if_neg, not_false_eq_true, q_m1', q_div, rm_N, l_0, l_1, l_2, l_3, l_4, l_5, l_6, l_7, l_8, l_10, l_11, l_12, l_13, l_14, l_15, l_16, l_18, l_20, l_21, l_22, l_23, l_24, l_32, l_33, l_40, l_44, l_48, l_57, l_59, l_60, l_63, l_64, l_97, l_98, l_99, l_100, l_111, l_116, l_122, l_132, l_200, l_240, l_255, l_480, l_1000, l_1452, if_true, if_false, true_or, or_true, in_neg, in_m1, in_n, V1, V2, R1, R2, B1, B2, eq_self, wk_3, wk_10, wk_37, wk_42, wr_3_0, wr_3_1, wr_3_2, wr_3_3, wr_3_4, wr_3_5, wr_3_6, wr_3_7, wr_3_8, wi_3_9, wi_3_10, wi_3_11, wp_3_9, wp_3_10, wp_3_11, wr_10_0, wr_10_1, wi_10_2, wi_10_3, wp_10_2, wp_10_3, wr_37_0, wr_37_1, wr_37_2, wi_37_3, wp_37_3, wi_37_4, wp_37_4, wi_37_5, wp_37_5, wi_37_6, wp_37_6, wi_37_7, wp_37_7, wi_37_8, wp_37_8, wr_42_0, wi_42_1, wp_42_1, wk_84, wr_84_0, wr_84_1, wr_84_2, wr_84_3, wr_84_5, wr_84_13, wr_84_14, wr_84_15, wr_84_17, wr_84_18, wr_84_20, wr_84_21, wr_84_23, wr_84_24, wr_84_25, wr_84_26, wi_84_4, wp_84_4, wi_84_6, wp_84_6, wi_84_7, wp_84_7, wi_84_8, wp_84_8, wi_84_9, wp_84_9, wi_84_10, wp_84_10, wi_84_11, wp_84_11, wi_84_12, wp_84_12, wi_84_16, wp_84_16, wi_84_19, wp_84_19, wi_84_22, wp_84_22, wi_84_27, wp_84_27, wq5v, wkv, wiv, wrv, wav', h2]⟩
  · refine RO.op ?_ R
    unfold RO f_X11_alike f_X12_alike
    exact ⟨-1000001, by simp (disch := omega) only [q_pos, q_pos', q_lt, q_le, q_eq, q_add, q_sub, q_mul, ob_s, if_pos, if_neg, not_false_eq_true, q_m1', q_div, rm_N, l_0, l_1, l_2, l_3, l_4, l_5, l_6, l_7, l_8, l_10, l_11, l_12, l_13, l_14, l_15, l_16, l_18, l_20, l_21, l_22, l_23, l_24, l_32, l_33, l_40, l_44, l_48, l_57, l_59, l_60, l_63, l_64, l_97, l_98, l_99, l_100, l_111, l_116, l_122, l_132, l_200, l_240, l_255, l_480, l_1000, l_1452, if_true, if_false, true_or, or_true, in_neg, in_m1, in_n, V1, V2, R1, R2, B1, B2, eq_self, wk_3, wk_10, wk_37, wk_42, wr_3_0, wr_3_1, wr_3_2, wr_3_3, wr_3_4, wr_3_5, wr_3_6, wr_3_7, wr_3_8, wi_3_9, wi_3_10, wi_3_11, wp_3_9, wp_3_10, wp_3_11, wr_10_0, wr_10_1, wi_10_2, wi_10_3, wp_10_2, wp_10_3, wr_37_0, wr_37_1, wr_37_2, wi_37_3, wp_37_3, wi_37_4, wp_37_4, wi_37_5, wp_37_5, wi_37_6, wp_37_6, wi_37_7, wp_37_7, wi_37_8, wp_37_8, wr_42_0, wi_42_1, wp_42_1, h1], by simp (disch := omega) only [q_pos, q_pos', q_lt, q_le, q_eq, q_add, q_sub, q_mul, ob_s, if_pos, if_neg, not_false_eq_true, q_m1', q_div, rm_N, l_0, l_1, l_2, l_3, l_4, l_5, l_6, l_7, l_8, l_10, l_11, l_12, l_13, l_14, l_15, l_16, l_18, l_20, l_21, l_22, l_23, l_24, l_32, l_33, l_40, l_44, l_48, l_57, l_59, l_60, l_63, l_64, l_97, l_98, l_99, l_100, l_111, l_116, l_122, l_132, l_200, l_240, l_255, l_480, l_1000, l_1452, if_true, if_false, true_or, or_true, in_neg, in_m1, in_n, V1, V2, R1, R2, B1, B2, eq_self, wk_84, wr_84_0, wr_84_1, wr_84_2, wr_84_3, wr_84_5, wr_84_13, wr_84_14, wr_84_15, wr_84_17, wr_84_18, wr_84_20, wr_84_21, wr_84_23, wr_84_24, wr_84_25, wr_84_26, wi_84_4, wp_84_4, wi_84_6, wp_84_6, wi_84_7, wp_84_7, wi_84_8, wp_84_8, wi_84_9, wp_84_9, wi_84_10, wp_84_10, wi_84_11, wp_84_11, wi_84_12, wp_84_12, wi_84_16, wp_84_16, wi_84_19, wp_84_19, wi_84_22, wp_84_22, wi_84_27, wp_84_27, h2]⟩
end ALIKE

def drX (X : Nat) : Nat := X * 16807 % 2147483647
/-- the bits after t draws -/
def drQ (n : Nat) : Nat → Nat → (Nat → Bool) → Nat → Bool
  | 0, _, q => q
  | t + 1, X, q => drQ n t (drX X) (fun k => if k = drX X % n then !q (drX X % n) else q k)
theorem drX_lt (X : Nat) : drX X < 2147483647 := Nat.mod_lt _ (by decide)
theorem dr_x {X : Nat} (h : X < 2147483648) : (lN X * (16807 : Int64)) - (lN X * (16807 : Int64)) / (2147483647 : Int64) * (2147483647 : Int64) = lN (drX X) := by
  rw [show (16807 : Int64) = lN 16807 from rfl, lN_mul, show (2147483647 : Int64) = lN 2147483647 from rfl, pk_lRem (by omega) (by omega) (by omega)]
  rfl
theorem dr_p {Y n : Nat} (h : Y < 2147483648) (h0 : 0 < n) (hn : n ≤ 480) : ((lN Y) - (lN Y) / (nI n).toInt64 * (nI n).toInt64).toInt32 = nI (Y % n) := by
  rw [nI_l (by omega), pk_lRem (by omega) h0 (by omega), lN_i]
theorem dr_z {n : Nat} (h0 : 0 < n) (hn : n ≤ 480) : ¬ (nI n).toInt64 = 0 := by
  rw [nI_l (by omega), show (0 : Int64) = lN 0 from rfl, pk_lEQ (by omega) (by omega)]
  omega
theorem b_flip (b : Bool) : (1 : Int32) - nI b.toNat = nI (!b).toNat := by cases b <;> decide
section DRAWN
variable {L : Nat} {xs : Nat → Int32} {g : xS} {r : Nat → Option Nat} {rs : xH} {v n : Nat} {p : Nat → Bool}
theorem wi8 : xgI [1] (wH L xs g r rs) 8 1 = some (g 1 0) := rfl
theorem edr_L (h0 : 0 < n) (z : Int32) {N : Nat} (hN : N ≤ 200) : ∀ t m k X g q, k + t = N → t < m → X < 2147483648 → vOK g 0 n q → ∃ g' y, f_X11_drawn_L63 m 3 (nI N) z (lN X) (nI k) (wH L xs g r rs) = some (y, nI N, wH L xs g' r rs) ∧ vOK g' 0 n (drQ n t X q) ∧ vFr 0 g g' := by
  intro t
  induction t with
  | zero =>
    intro m k X g q h1 h2 h3 hq
    obtain ⟨m, rfl⟩ : ∃ j, m = j + 1 := ⟨m - 1, by omega⟩
    have : k = N := by omega
    subst this
    refine ⟨g, lN X, ?_, hq, vFr.rfl'⟩
    unfold f_X11_drawn_L63
    rw [if_pos (Int32.le_refl _)]
  | succ t ih =>
    intro m k X g q h1 h2 h3 hq
    obtain ⟨m, rfl⟩ : ∃ j, m = j + 1 := ⟨m - 1, by omega⟩
    have hn := hq.1
    have hP := Nat.mod_lt (drX X) h0
    have hX := drX_lt X
    obtain ⟨g1, a1, a2, a3⟩ := e_write (L := L) (xs := xs) (r := r) (rs := rs) (j := 0) (by omega) hq hP (!q (drX X % n))
    obtain ⟨g', y, b1, b2, b3⟩ := ih m (k + 1) (drX X) g1 _ (by omega) (by omega) (by omega) a2
    refine ⟨g', y, ?_, b2, a3.trans b3⟩
    have a1' : f_X1_write 8 (nI (drX X % n)) (nI (!q (drX X % n)).toNat) (wH L xs g r rs) = some (wH L xs g1 r rs) := a1
    have bt : f_X1_bitAt 8 (nI (drX X % n)) (wH L xs g r rs) = some (nI (q (drX X % n)).toNat, wH L xs g r rs) := e_bitAt (j := 0) (by omega) hq hP
    have h8 : ¬ nI n ≤ (0 : Int32) := by rw [l_0, q_le (by omega) (by omega)]; omega
    unfold f_X11_drawn_L63
    rw [if_neg (show ¬ nI N ≤ nI k by rw [q_le (by omega) (by omega)]; omega), wr_3_4, ob_s, wi8, ob_s, hq.2.1, if_neg h8, ob_s, wi8, ob_s, hq.2.1, if_neg (dr_z h0 hn), ob_s, ob_s, wk8, if_pos rfl, dr_x h3, dr_p (by omega) h0 hn, bt, ob_s]
    dsimp only
    rw [wk8, if_pos rfl, b_flip, a1', ob_s, l_1, q_add, b1]
theorem mdr_L (hv : v < 4) (hn : n ≤ 480) (h0 : 0 < n) (z : Int32) {N : Nat} (hN : N ≤ 200) : ∀ t m k X g q, k + t = N → t < m → X < 2147483648 → mM g 56 (33 * v) q → ∃ g' y, f_X12_drawn_L68 m 84 (nI v) (nI N) z (nI n) (lN X) (nI k) (wH L xs g r rs) = some (y, nI N, wH L xs g' r rs) ∧ mM g' 56 (33 * v) (drQ n t X q) ∧ mFr 56 (33 * v + 1) (33 * v + 33) g g' := by
  intro t
  induction t with
  | zero =>
    intro m k X g q h1 h2 h3 hq
    obtain ⟨m, rfl⟩ : ∃ j, m = j + 1 := ⟨m - 1, by omega⟩
    have : k = N := by omega
    subst this
    refine ⟨g, lN X, ?_, hq, mFr.rfl'⟩
    unfold f_X12_drawn_L68
    rw [if_pos (Int32.le_refl _)]
  | succ t ih =>
    intro m k X g q h1 h2 h3 hq
    obtain ⟨m, rfl⟩ : ∃ j, m = j + 1 := ⟨m - 1, by omega⟩
    have hP := Nat.mod_lt (drX X) h0
    have hX := drX_lt X
    obtain ⟨g1, a1, a2, a3⟩ := m_puts (L := L) (xs := xs) (r := r) (rs := rs) hr91 hw91 hv hq (show drX X % n < 480 by omega) (!q (drX X % n))
    obtain ⟨g', y, b1, b2, b3⟩ := ih m (k + 1) (drX X) g1 _ (by omega) (by omega) (by omega) a2
    refine ⟨g', y, ?_, b2, a3.trans b3⟩
    have h8 : ¬ nI n ≤ (0 : Int32) := by rw [l_0, q_le (by omega) (by omega)]; omega
    unfold f_X12_drawn_L68
    rw [if_neg (show ¬ nI N ≤ nI k by rw [q_le (by omega) (by omega)]; omega), if_neg h8, if_neg (dr_z h0 hn), wr_84_14, ob_s, ob_s, dr_x h3, dr_p (by omega) h0 hn, m_bit hr91 hv hq (by omega), ob_s]
    dsimp only
    rw [b_flip, a1, ob_s, l_1, q_add, b1]
/-- no bits: nothing is drawn -/
theorem edr_0 (m : Nat) (z : Int32) (X : Int64) {N : Nat} (hN : N ≤ 200) (h : g 1 0 = nI 0) : f_X11_drawn_L63 (m + 1) 3 (nI N) z X (nI 0) (wH L xs g r rs) = some (X, nI 0, wH L xs g r rs) := by
  unfold f_X11_drawn_L63
  by_cases e : N = 0
  · subst e
    rw [if_pos (Int32.le_refl _)]
  · rw [if_neg (show ¬ nI N ≤ nI 0 by rw [q_le (by omega) (by omega)]; omega), wr_3_4, ob_s, wi8, ob_s, h, if_pos (by decide)]
theorem mdr_0 (m : Nat) (z : Int32) (X : Int64) {N : Nat} (hN : N ≤ 200) (x : Int32) : f_X12_drawn_L68 (m + 1) 84 x (nI N) z (nI 0) X (nI 0) (wH L xs g r rs) = some (X, nI 0, wH L xs g r rs) := by
  unfold f_X12_drawn_L68
  by_cases e : N = 0
  · subst e
    rw [if_pos (Int32.le_refl _)]
  · rw [if_neg (show ¬ nI N ≤ nI 0 by rw [q_le (by omega) (by omega)]; omega), if_pos (by decide)]
/-- both, whatever there is to draw from -/
theorem edr (z : Int32) {N X : Nat} (hN : N ≤ 200) (hX : X < 2147483648) (hq : vOK g 0 n p) : ∃ g' y u, f_X11_drawn_L63 xN 3 (nI N) z (lN X) (nI 0) (wH L xs g r rs) = some (y, u, wH L xs g' r rs) ∧ vOK g' 0 n (if n = 0 then p else drQ n N X p) ∧ vFr 0 g g' := by
  by_cases e : n = 0
  · subst e
    exact ⟨g, _, _, edr_0 1999 z _ hN hq.2.1, by rw [if_pos rfl]; exact hq, vFr.rfl'⟩
  · obtain ⟨g', y, a1, a2, a3⟩ := edr_L (L := L) (xs := xs) (r := r) (rs := rs) (show 0 < n by omega) z hN N xN 0 X g p (by omega) (by unfold xN; omega) hX hq
    exact ⟨g', y, _, a1, by rw [if_neg e]; exact a2, a3⟩
theorem mdr (hv : v < 4) (hn : n ≤ 480) (z : Int32) {N X : Nat} (hN : N ≤ 200) (hX : X < 2147483648) (hq : mM g 56 (33 * v) p) : ∃ g' y u, f_X12_drawn_L68 xN 84 (nI v) (nI N) z (nI n) (lN X) (nI 0) (wH L xs g r rs) = some (y, u, wH L xs g' r rs) ∧ mM g' 56 (33 * v) (if n = 0 then p else drQ n N X p) ∧ mFr 56 (33 * v + 1) (33 * v + 33) g g' := by
  by_cases e : n = 0
  · subst e
    exact ⟨g, _, _, mdr_0 1999 z _ hN _, by rw [if_pos rfl]; exact hq, mFr.rfl'⟩
  · obtain ⟨g', y, a1, a2, a3⟩ := mdr_L (L := L) (xs := xs) (r := r) (rs := rs) hv hn (show 0 < n by omega) z hN N xN 0 X g p (by omega) (by unfold xN; omega) hX hq
    exact ⟨g', y, _, a1, by rw [if_neg e]; exact a2, a3⟩
theorem o_drawn (R : Rel g r rs) (x y z u : Int32) : Op L xs g r rs (f_X11_drawn 3 x y z u) (f_X12_drawn 84 x y z u) := by
  have n1 : ¬ nI 1 = (0 : Int32) := by decide
  have l_m : (999999 : Int32) = nI 999999 := rfl
  rcases sV x with ⟨v, hv, rfl⟩ | ⟨h1, h2⟩
  · obtain ⟨n, p, hc, hm⟩ := R.vec v hv
    have hn := hc.1
    rcases a_sp y with hy | ⟨N, hN, rfl⟩
    · refine RO.op ?_ R
      unfold RO f_X11_drawn f_X12_drawn
      exact ⟨-1000001, by simp (disch := omega) only [q_pos, q_pos', q_lt, q_le, q_eq, q_add, q_sub, q_mul, ob_s, if_pos, if_neg, not_false_eq_true, q_m1', q_div, rm_N, l_0, l_1, l_2, l_3, l_4, l_5, l_6, l_7, l_8, l_10, l_11, l_12, l_13, l_14, l_15, l_16, l_18, l_20, l_21, l_22, l_23, l_24, l_32, l_33, l_40, l_44, l_48, l_57, l_59, l_60, l_63, l_64, l_97, l_98, l_99, l_100, l_111, l_116, l_122, l_132, l_200, l_240, l_255, l_480, l_1000, l_1452, if_true, if_false, true_or, or_true, in_neg, in_m1, in_n, V1, V2, R1, R2, B1, B2, eq_self, wk_3, wk_10, wk_37, wk_42, wr_3_0, wr_3_1, wr_3_2, wr_3_3, wr_3_4, wr_3_5, wr_3_6, wr_3_7, wr_3_8, wi_3_9, wi_3_10, wi_3_11, wp_3_9, wp_3_10, wp_3_11, wr_10_0, wr_10_1, wi_10_2, wi_10_3, wp_10_2, wp_10_3, wr_37_0, wr_37_1, wr_37_2, wi_37_3, wp_37_3, wi_37_4, wp_37_4, wi_37_5, wp_37_5, wi_37_6, wp_37_6, wi_37_7, wp_37_7, wi_37_8, wp_37_8, wr_42_0, wi_42_1, wp_42_1, wk_84, wr_84_0, wr_84_1, wr_84_2, wr_84_3, wr_84_5, wr_84_13, wr_84_14, wr_84_15, wr_84_17, wr_84_18, wr_84_20, wr_84_21, wr_84_23, wr_84_24, wr_84_25, wr_84_26, wi_84_4, wp_84_4, wi_84_6, wp_84_6, wi_84_7, wp_84_7, wi_84_8, wp_84_8, wi_84_9, wp_84_9, wi_84_10, wp_84_10, wi_84_11, wp_84_11, wi_84_12, wp_84_12, wi_84_16, wp_84_16, wi_84_19, wp_84_19, wi_84_22, wp_84_22, wi_84_27, wp_84_27, wq5v, wkv, wiv, wrv, wav', ng1 hy], by simp (disch := omega) only [q_pos, q_pos', q_lt, q_le, q_eq, q_add, q_sub, q_mul, ob_s, if_pos, if_neg, not_false_eq_true, q_m1', q_div, rm_N, l_0, l_1, l_2, l_3, l_4, l_5, l_6, l_7, l_8, l_10, l_11, l_12, l_13, l_14, l_15, l_16, l_18, l_20, l_21, l_22, l_23, l_24, l_32, l_33, l_40, l_44, l_48, l_57, l_59, l_60, l_63, l_64, l_97, l_98, l_99, l_100, l_111, l_116, l_122, l_132, l_200, l_240, l_255, l_480, l_1000, l_1452, if_true, if_false, true_or, or_true, in_neg, in_m1, in_n, V1, V2, R1, R2, B1, B2, eq_self, wk_3, wk_10, wk_37, wk_42, wr_3_0, wr_3_1, wr_3_2, wr_3_3, wr_3_4, wr_3_5, wr_3_6, wr_3_7, wr_3_8, wi_3_9, wi_3_10, wi_3_11, wp_3_9, wp_3_10, wp_3_11, wr_10_0, wr_10_1, wi_10_2, wi_10_3, wp_10_2, wp_10_3, wr_37_0, wr_37_1, wr_37_2, wi_37_3, wp_37_3, wi_37_4, wp_37_4, wi_37_5, wp_37_5, wi_37_6, wp_37_6, wi_37_7, wp_37_7, wi_37_8, wp_37_8, wr_42_0, wi_42_1, wp_42_1, wk_84, wr_84_0, wr_84_1, wr_84_2, wr_84_3, wr_84_5, wr_84_13, wr_84_14, wr_84_15, wr_84_17, wr_84_18, wr_84_20, wr_84_21, wr_84_23, wr_84_24, wr_84_25, wr_84_26, wi_84_4, wp_84_4, wi_84_6, wp_84_6, wi_84_7, wp_84_7, wi_84_8, wp_84_8, wi_84_9, wp_84_9, wi_84_10, wp_84_10, wi_84_11, wp_84_11, wi_84_12, wp_84_12, wi_84_16, wp_84_16, wi_84_19, wp_84_19, wi_84_22, wp_84_22, wi_84_27, wp_84_27, wq5v, wkv, wiv, wrv, wav', in_neg hy]⟩
    · by_cases e1 : N ≤ 200
      · rcases a_sp z with hz | ⟨X, hX, rfl⟩
        · refine RO.op ?_ R
          unfold RO f_X11_drawn f_X12_drawn
          exact ⟨-1000001, by simp (disch := omega) only [q_pos, q_pos', q_lt, q_le, q_eq, q_add, q_sub, q_mul, ob_s, if_pos, if_neg, not_false_eq_true, q_m1', q_div, rm_N, l_0, l_1, l_2, l_3, l_4, l_5, l_6, l_7, l_8, l_10, l_11, l_12, l_13, l_14, l_15, l_16, l_18, l_20, l_21, l_22, l_23, l_24, l_32, l_33, l_40, l_44, l_48, l_57, l_59, l_60, l_63, l_64, l_97, l_98, l_99, l_100, l_111, l_116, l_122, l_132, l_200, l_240, l_255, l_480, l_1000, l_1452, if_true, if_false, true_or, or_true, in_neg, in_m1, in_n, V1, V2, R1, R2, B1, B2, eq_self, wk_3, wk_10, wk_37, wk_42, wr_3_0, wr_3_1, wr_3_2, wr_3_3, wr_3_4, wr_3_5, wr_3_6, wr_3_7, wr_3_8, wi_3_9, wi_3_10, wi_3_11, wp_3_9, wp_3_10, wp_3_11, wr_10_0, wr_10_1, wi_10_2, wi_10_3, wp_10_2, wp_10_3, wr_37_0, wr_37_1, wr_37_2, wi_37_3, wp_37_3, wi_37_4, wp_37_4, wi_37_5, wp_37_5, wi_37_6, wp_37_6, wi_37_7, wp_37_7, wi_37_8, wp_37_8, wr_42_0, wi_42_1, wp_42_1, wk_84, wr_84_0, wr_84_1, wr_84_2, wr_84_3, wr_84_5, wr_84_13, wr_84_14, wr_84_15, wr_84_17, wr_84_18, wr_84_20, wr_84_21, wr_84_23, wr_84_24, wr_84_25, wr_84_26, wi_84_4, wp_84_4, wi_84_6, wp_84_6, wi_84_7, wp_84_7, wi_84_8, wp_84_8, wi_84_9, wp_84_9, wi_84_10, wp_84_10, wi_84_11, wp_84_11, wi_84_12, wp_84_12, wi_84_16, wp_84_16, wi_84_19, wp_84_19, wi_84_22, wp_84_22, wi_84_27, wp_84_27, wq5v, wkv, wiv, wrv, wav', ng1 hz], by simp (disch := omega) only [q_pos, q_pos', q_lt, q_le, q_eq, q_add, q_sub, q_mul, ob_s, if_pos, if_neg, not_false_eq_true, q_m1', q_div, rm_N, l_0, l_1, l_2, l_3, l_4, l_5, l_6, l_7, l_8, l_10, l_11, l_12, l_13, l_14, l_15, l_16, l_18, l_20, l_21, l_22, l_23, l_24, l_32, l_33, l_40, l_44, l_48, l_57, l_59, l_60, l_63, l_64, l_97, l_98, l_99, l_100, l_111, l_116, l_122, l_132, l_200, l_240, l_255, l_480, l_1000, l_1452, if_true, if_false, true_or, or_true, in_neg, in_m1, in_n, V1, V2, R1, R2, B1, B2, eq_self, wk_3, wk_10, wk_37, wk_42, wr_3_0, wr_3_1, wr_3_2, wr_3_3, wr_3_4, wr_3_5, wr_3_6, wr_3_7, wr_3_8, wi_3_9, wi_3_10, wi_3_11, wp_3_9, wp_3_10, wp_3_11, wr_10_0, wr_10_1, wi_10_2, wi_10_3, wp_10_2, wp_10_3, wr_37_0, wr_37_1, wr_37_2, wi_37_3, wp_37_3, wi_37_4, wp_37_4, wi_37_5, wp_37_5, wi_37_6, wp_37_6, wi_37_7, wp_37_7, wi_37_8, wp_37_8, wr_42_0, wi_42_1, wp_42_1, wk_84, wr_84_0, wr_84_1, wr_84_2, wr_84_3, wr_84_5, wr_84_13, wr_84_14, wr_84_15, wr_84_17, wr_84_18, wr_84_20, wr_84_21, wr_84_23, wr_84_24, wr_84_25, wr_84_26, wi_84_4, wp_84_4, wi_84_6, wp_84_6, wi_84_7, wp_84_7, wi_84_8, wp_84_8, wi_84_9, wp_84_9, wi_84_10, wp_84_10, wi_84_11, wp_84_11, wi_84_12, wp_84_12, wi_84_16, wp_84_16, wi_84_19, wp_84_19, wi_84_22, wp_84_22, wi_84_27, wp_84_27, wq5v, wkv, wiv, wrv, wav', in_neg1 hz]⟩
        · by_cases e2 : 1 ≤ X ∧ X ≤ 999999
          · rcases a_sp u with hu | ⟨t, ht, rfl⟩
            · refine RO.op ?_ R
              unfold RO f_X11_drawn f_X12_drawn
              exact ⟨-1000001, by simp (disch := omega) only [q_pos, q_pos', q_lt, q_le, q_eq, q_add, q_sub, q_mul, ob_s, if_pos, if_neg, not_false_eq_true, q_m1', q_div, rm_N, l_0, l_1, l_2, l_3, l_4, l_5, l_6, l_7, l_8, l_10, l_11, l_12, l_13, l_14, l_15, l_16, l_18, l_20, l_21, l_22, l_23, l_24, l_32, l_33, l_40, l_44, l_48, l_57, l_59, l_60, l_63, l_64, l_97, l_98, l_99, l_100, l_111, l_116, l_122, l_132, l_200, l_240, l_255, l_480, l_1000, l_1452, if_true, if_false, true_or, or_true, in_neg, in_m1, in_n, V1, V2, R1, R2, B1, B2, eq_self, wk_3, wk_10, wk_37, wk_42, wr_3_0, wr_3_1, wr_3_2, wr_3_3, wr_3_4, wr_3_5, wr_3_6, wr_3_7, wr_3_8, wi_3_9, wi_3_10, wi_3_11, wp_3_9, wp_3_10, wp_3_11, wr_10_0, wr_10_1, wi_10_2, wi_10_3, wp_10_2, wp_10_3, wr_37_0, wr_37_1, wr_37_2, wi_37_3, wp_37_3, wi_37_4, wp_37_4, wi_37_5, wp_37_5, wi_37_6, wp_37_6, wi_37_7, wp_37_7, wi_37_8, wp_37_8, wr_42_0, wi_42_1, wp_42_1, wk_84, wr_84_0, wr_84_1, wr_84_2, wr_84_3, wr_84_5, wr_84_13, wr_84_14, wr_84_15, wr_84_17, wr_84_18, wr_84_20, wr_84_21, wr_84_23, wr_84_24, wr_84_25, wr_84_26, wi_84_4, wp_84_4, wi_84_6, wp_84_6, wi_84_7, wp_84_7, wi_84_8, wp_84_8, wi_84_9, wp_84_9, wi_84_10, wp_84_10, wi_84_11, wp_84_11, wi_84_12, wp_84_12, wi_84_16, wp_84_16, wi_84_19, wp_84_19, wi_84_22, wp_84_22, wi_84_27, wp_84_27, wq5v, wkv, wiv, wrv, wav', l_m, in_1, ng1 hu], by simp (disch := omega) only [q_pos, q_pos', q_lt, q_le, q_eq, q_add, q_sub, q_mul, ob_s, if_pos, if_neg, not_false_eq_true, q_m1', q_div, rm_N, l_0, l_1, l_2, l_3, l_4, l_5, l_6, l_7, l_8, l_10, l_11, l_12, l_13, l_14, l_15, l_16, l_18, l_20, l_21, l_22, l_23, l_24, l_32, l_33, l_40, l_44, l_48, l_57, l_59, l_60, l_63, l_64, l_97, l_98, l_99, l_100, l_111, l_116, l_122, l_132, l_200, l_240, l_255, l_480, l_1000, l_1452, if_true, if_false, true_or, or_true, in_neg, in_m1, in_n, V1, V2, R1, R2, B1, B2, eq_self, wk_3, wk_10, wk_37, wk_42, wr_3_0, wr_3_1, wr_3_2, wr_3_3, wr_3_4, wr_3_5, wr_3_6, wr_3_7, wr_3_8, wi_3_9, wi_3_10, wi_3_11, wp_3_9, wp_3_10, wp_3_11, wr_10_0, wr_10_1, wi_10_2, wi_10_3, wp_10_2, wp_10_3, wr_37_0, wr_37_1, wr_37_2, wi_37_3, wp_37_3, wi_37_4, wp_37_4, wi_37_5, wp_37_5, wi_37_6, wp_37_6, wi_37_7, wp_37_7, wi_37_8, wp_37_8, wr_42_0, wi_42_1, wp_42_1, wk_84, wr_84_0, wr_84_1, wr_84_2, wr_84_3, wr_84_5, wr_84_13, wr_84_14, wr_84_15, wr_84_17, wr_84_18, wr_84_20, wr_84_21, wr_84_23, wr_84_24, wr_84_25, wr_84_26, wi_84_4, wp_84_4, wi_84_6, wp_84_6, wi_84_7, wp_84_7, wi_84_8, wp_84_8, wi_84_9, wp_84_9, wi_84_10, wp_84_10, wi_84_11, wp_84_11, wi_84_12, wp_84_12, wi_84_16, wp_84_16, wi_84_19, wp_84_19, wi_84_22, wp_84_22, wi_84_27, wp_84_27, wq5v, wkv, wiv, wrv, wav', l_m, in_1, in_neg hu]⟩
            · by_cases e3 : t ≤ 1
              · obtain ⟨g1, a1, a2, a3⟩ := e_copyFrom (L := L) (xs := xs) (r := r) (rs := rs) (j := 0) (by omega) (show 13 + v < 25 by omega) hc
                obtain ⟨g2, y2, u2, b1, b2, b3⟩ := edr (L := L) (xs := xs) (r := r) (rs := rs) (nI t) e1 hX a2
                have F := vFr_q (vFr.trans a3 b3)
                obtain ⟨g3, c1, c2, c3, c4⟩ := m_copies (L := L) (xs := xs) (r := r) (rs := rs) (g := g2) (pa := 90) (ca := 55) (NA := 132) (pb := 91) (cb := 56) (NB := 132) (A := 0) (B := 0) (fun _ _ h => wa_90' h) (fun _ _ _ h => wu_91' h) (by omega) (by omega) (by omega)
                have hm2 : mOK g2 55 (33 * v) n p := mOK_eq hm (fun k hk => F _ _ (by omega) (by omega))
                have hm3 : mOK g3 55 (33 * v) n p := mOK_eq hm2 (fun k hk => by rw [c2 55 (by omega)])
                have hm3' : mOK g3 56 (33 * v) n p := mOK_eq hm2 (fun k hk => by
                  have := c3 (33 * v + k) (by omega)
                  rw [Nat.zero_add] at this
                  exact this)
                obtain ⟨g4, y4, u4, d1, d2, d3⟩ := mdr (L := L) (xs := xs) (r := r) (rs := rs) hv hn (nI t) e1 hX hm3'.2.2.2
                have hm4 : mOK g4 56 (33 * v) n (if n = 0 then p else drQ n N X p) := ⟨hn, by rw [d3.2 _ (by omega)]; exact hm3'.2.1, b2.2.2.1, d2⟩
                have ch4 : ∀ k, k < 256 → g4 64 k = CHf k := fun k hk => by
                  rw [d3.1 64 (by omega), c2 64 (by omega), F 64 k (by omega) (by omega)]
                  exact R.ch k hk
                have RR : Rel g4 r rs := rel_scr R (fun c k x1 x2 x3 => by rw [d3.1 c x3, c2 c x3, F c k x1 (by omega)])
                have eX : (nI X).toInt64 = lN X := nI_l (by omega)
                have a1' : f_X1_copyFrom 8 (vO (13 + v)) (wH L xs g r rs) = some (wH L xs g1 r rs) := a1
                have hv0 : f_X1_countOnes 8 (wH L xs g2 r rs) = some (nI (fb_ct (if n = 0 then p else drQ n N X p) n), wH L xs g2 r rs) := e_countOnes (j := 0) (by omega) b2
                have hv1 : f_X1_payloadBits 8 (wH L xs g2 r rs) = some (nI (bgN (if n = 0 then p else drQ n N X p) ((n + 14) / 15)), wH L xs g2 r rs) := e_payloadBits (j := 0) (by omega) b2
                have hA : f_X11_drawn 3 (nI v) (nI N) (nI X) (nI t) (wH L xs g r rs) = some ((if t = 0 then nI (fb_ct (if n = 0 then p else drQ n N X p) n) else nI (bgN (if n = 0 then p else drQ n N X p) ((n + 14) / 15))), wH L xs g2 r rs) := by
                  unfold f_X11_drawn
                  rw [V1 hv, ob_s, if_neg n1, if_neg (q_pos hN), if_neg (show ¬ (200 : Int32) < nI N by rw [l_200, q_lt (by omega) (by omega)]; omega), if_neg (show ¬ nI X < (1 : Int32) by rw [l_1, q_lt (by omega) (by omega)]; omega), if_neg (show ¬ (999999 : Int32) < nI X by rw [l_m, q_lt (by omega) (by omega)]; omega), if_neg (q_pos ht), if_pos (show nI t ≤ (1 : Int32) by rw [l_1, q_le ht (by omega)]; exact e3), wr_3_4, ob_s, wr_3_1, ob_s, wq5v hv, ob_s, wk8, if_pos rfl, a1', ob_s, eX, show (0 : Int32) = nI 0 from rfl, b1, ob_s]
                  dsimp only
                  rw [wr_3_4, ob_s, ob_s, wk8, if_pos rfl, if_pos rfl, hv0, hv1, ob_s, ob_s]
                  rcases (show t = 0 ∨ t = 1 by omega) with e0 | e0 <;> subst e0 <;> rfl
                have hB : f_X12_drawn 84 (nI v) (nI N) (nI X) (nI t) (wH L xs g2 r rs) = some ((if t = 0 then nI (fb_ct (if n = 0 then p else drQ n N X p) n) else nI (bgN (if n = 0 then p else drQ n N X p) ((n + 14) / 15))), wH L xs g4 r rs) := by
                  unfold f_X12_drawn
                  rw [V2 hv, ob_s, if_neg n1, show (0 : Int32) = nI 0 from rfl, l_200, in_n hN (by omega), if_pos e1, ob_s, if_neg (show ¬ nI 1 = nI 0 by decide), l_1, l_m, in_1 hX (by omega), if_pos e2, ob_s, if_neg (show ¬ nI 1 = nI 0 by decide), in_n ht (by omega), if_pos e3, ob_s, if_neg (show ¬ nI 1 = nI 0 by decide), wr_84_13, ob_s, wr_84_14, ob_s, c1, ob_s, wk_84, if_pos rfl, m_bitsOf hv hm3, ob_s, eX, d1, ob_s]
                  dsimp only
                  rw [wr_84_14, ob_s, ob_s, ob_s, m_onesAhead hr91 hv hm4.2.2.2 hn, ob_s, m_blocks hr91 hv hm4, ob_s]
                  dsimp only
                  rw [wk_84, if_pos rfl, m_begins ch4 hr91 hv hm4.2.2.2 (by omega), ob_s]
                  rcases (show t = 0 ∨ t = 1 by omega) with e0 | e0 <;> subst e0 <;> rfl
                exact ⟨_, g2, r, rs, g4, hA, hB, RR, by omega, by omega⟩
              · refine RO.op ?_ R
                unfold RO f_X11_drawn f_X12_drawn
                exact ⟨-1000001, by simp (disch := omega) only [q_pos, q_pos', q_lt, q_le, q_eq, q_add, q_sub, q_mul, ob_s, if_pos, if_neg, not_false_eq_true, q_m1', q_div, rm_N, l_0, l_1, l_2, l_3, l_4, l_5, l_6, l_7, l_8, l_10, l_11, l_12, l_13, l_14, l_15, l_16, l_18, l_20, l_21, l_22, l_23, l_24, l_32, l_33, l_40, l_44, l_48, l_57, l_59, l_60, l_63, l_64, l_97, l_98, l_99, l_100, l_111, l_116, l_122, l_132, l_200, l_240, l_255, l_480, l_1000, l_1452, if_true, if_false, true_or, or_true, in_neg, in_m1, in_n, V1, V2, R1, R2, B1, B2, eq_self, wk_3, wk_10, wk_37, wk_42, wr_3_0, wr_3_1, wr_3_2, wr_3_3, wr_3_4, wr_3_5, wr_3_6, wr_3_7, wr_3_8, wi_3_9, wi_3_10, wi_3_11, wp_3_9, wp_3_10, wp_3_11, wr_10_0, wr_10_1, wi_10_2, wi_10_3, wp_10_2, wp_10_3, wr_37_0, wr_37_1, wr_37_2, wi_37_3, wp_37_3, wi_37_4, wp_37_4, wi_37_5, wp_37_5, wi_37_6, wp_37_6, wi_37_7, wp_37_7, wi_37_8, wp_37_8, wr_42_0, wi_42_1, wp_42_1, wk_84, wr_84_0, wr_84_1, wr_84_2, wr_84_3, wr_84_5, wr_84_13, wr_84_14, wr_84_15, wr_84_17, wr_84_18, wr_84_20, wr_84_21, wr_84_23, wr_84_24, wr_84_25, wr_84_26, wi_84_4, wp_84_4, wi_84_6, wp_84_6, wi_84_7, wp_84_7, wi_84_8, wp_84_8, wi_84_9, wp_84_9, wi_84_10, wp_84_10, wi_84_11, wp_84_11, wi_84_12, wp_84_12, wi_84_16, wp_84_16, wi_84_19, wp_84_19, wi_84_22, wp_84_22, wi_84_27, wp_84_27, wq5v, wkv, wiv, wrv, wav', l_m, in_1], by simp (disch := omega) only [q_pos, q_pos', q_lt, q_le, q_eq, q_add, q_sub, q_mul, ob_s, if_pos, if_neg, not_false_eq_true, q_m1', q_div, rm_N, l_0, l_1, l_2, l_3, l_4, l_5, l_6, l_7, l_8, l_10, l_11, l_12, l_13, l_14, l_15, l_16, l_18, l_20, l_21, l_22, l_23, l_24, l_32, l_33, l_40, l_44, l_48, l_57, l_59, l_60, l_63, l_64, l_97, l_98, l_99, l_100, l_111, l_116, l_122, l_132, l_200, l_240, l_255, l_480, l_1000, l_1452, if_true, if_false, true_or, or_true, in_neg, in_m1, in_n, V1, V2, R1, R2, B1, B2, eq_self, wk_3, wk_10, wk_37, wk_42, wr_3_0, wr_3_1, wr_3_2, wr_3_3, wr_3_4, wr_3_5, wr_3_6, wr_3_7, wr_3_8, wi_3_9, wi_3_10, wi_3_11, wp_3_9, wp_3_10, wp_3_11, wr_10_0, wr_10_1, wi_10_2, wi_10_3, wp_10_2, wp_10_3, wr_37_0, wr_37_1, wr_37_2, wi_37_3, wp_37_3, wi_37_4, wp_37_4, wi_37_5, wp_37_5, wi_37_6, wp_37_6, wi_37_7, wp_37_7, wi_37_8, wp_37_8, wr_42_0, wi_42_1, wp_42_1, wk_84, wr_84_0, wr_84_1, wr_84_2, wr_84_3, wr_84_5, wr_84_13, wr_84_14, wr_84_15, wr_84_17, wr_84_18, wr_84_20, wr_84_21, wr_84_23, wr_84_24, wr_84_25, wr_84_26, wi_84_4, wp_84_4, wi_84_6, wp_84_6, wi_84_7, wp_84_7, wi_84_8, wp_84_8, wi_84_9, wp_84_9, wi_84_10, wp_84_10, wi_84_11, wp_84_11, wi_84_12, wp_84_12, wi_84_16, wp_84_16, wi_84_19, wp_84_19, wi_84_22, wp_84_22, wi_84_27, wp_84_27, wq5v, wkv, wiv, wrv, wav', l_m, in_1]⟩
          · refine RO.op ?_ R
            unfold RO f_X11_drawn f_X12_drawn
            refine ⟨-1000001, ?_, ?_⟩
            · by_cases e4 : X = 0
              · simp (disch := omega) only [q_pos, q_pos', q_lt, q_le, q_eq, q_add, q_sub, q_mul, ob_s, if_pos, if_neg, not_false_eq_true, q_m1', q_div, rm_N, l_0, l_1, l_2, l_3, l_4, l_5, l_6, l_7, l_8, l_10, l_11, l_12, l_13, l_14, l_15, l_16, l_18, l_20, l_21, l_22, l_23, l_24, l_32, l_33, l_40, l_44, l_48, l_57, l_59, l_60, l_63, l_64, l_97, l_98, l_99, l_100, l_111, l_116, l_122, l_132, l_200, l_240, l_255, l_480, l_1000, l_1452, if_true, if_false, true_or, or_true, in_neg, in_m1, in_n, V1, V2, R1, R2, B1, B2, eq_self, wk_3, wk_10, wk_37, wk_42, wr_3_0, wr_3_1, wr_3_2, wr_3_3, wr_3_4, wr_3_5, wr_3_6, wr_3_7, wr_3_8, wi_3_9, wi_3_10, wi_3_11, wp_3_9, wp_3_10, wp_3_11, wr_10_0, wr_10_1, wi_10_2, wi_10_3, wp_10_2, wp_10_3, wr_37_0, wr_37_1, wr_37_2, wi_37_3, wp_37_3, wi_37_4, wp_37_4, wi_37_5, wp_37_5, wi_37_6, wp_37_6, wi_37_7, wp_37_7, wi_37_8, wp_37_8, wr_42_0, wi_42_1, wp_42_1, wk_84, wr_84_0, wr_84_1, wr_84_2, wr_84_3, wr_84_5, wr_84_13, wr_84_14, wr_84_15, wr_84_17, wr_84_18, wr_84_20, wr_84_21, wr_84_23, wr_84_24, wr_84_25, wr_84_26, wi_84_4, wp_84_4, wi_84_6, wp_84_6, wi_84_7, wp_84_7, wi_84_8, wp_84_8, wi_84_9, wp_84_9, wi_84_10, wp_84_10, wi_84_11, wp_84_11, wi_84_12, wp_84_12, wi_84_16, wp_84_16, wi_84_19, wp_84_19, wi_84_22, wp_84_22, wi_84_27, wp_84_27, wq5v, wkv, wiv, wrv, wav', l_m]
              · simp (disch := omega) only [q_pos, q_pos', q_lt, q_le, q_eq, q_add, q_sub, q_mul, ob_s, if_pos, if_neg, not_false_eq_true, q_m1', q_div, rm_N, l_0, l_1, l_2, l_3, l_4, l_5, l_6, l_7, l_8, l_10, l_11, l_12, l_13, l_14, l_15, l_16, l_18, l_20, l_21, l_22, l_23, l_24, l_32, l_33, l_40, l_44, l_48, l_57, l_59, l_60, l_63, l_64, l_97, l_98, l_99, l_100, l_111, l_116, l_122, l_132, l_200, l_240, l_255, l_480, l_1000, l_1452, if_true, if_false, true_or, or_true, in_neg, in_m1, in_n, V1, V2, R1, R2, B1, B2, eq_self, wk_3, wk_10, wk_37, wk_42, wr_3_0, wr_3_1, wr_3_2, wr_3_3, wr_3_4, wr_3_5, wr_3_6, wr_3_7, wr_3_8, wi_3_9, wi_3_10, wi_3_11, wp_3_9, wp_3_10, wp_3_11, wr_10_0, wr_10_1, wi_10_2, wi_10_3, wp_10_2, wp_10_3, wr_37_0, wr_37_1, wr_37_2, wi_37_3, wp_37_3, wi_37_4, wp_37_4, wi_37_5, wp_37_5, wi_37_6, wp_37_6, wi_37_7, wp_37_7, wi_37_8, wp_37_8, wr_42_0, wi_42_1, wp_42_1, wk_84, wr_84_0, wr_84_1, wr_84_2, wr_84_3, wr_84_5, wr_84_13, wr_84_14, wr_84_15, wr_84_17, wr_84_18, wr_84_20, wr_84_21, wr_84_23, wr_84_24, wr_84_25, wr_84_26, wi_84_4, wp_84_4, wi_84_6, wp_84_6, wi_84_7, wp_84_7, wi_84_8, wp_84_8, wi_84_9, wp_84_9, wi_84_10, wp_84_10, wi_84_11, wp_84_11, wi_84_12, wp_84_12, wi_84_16, wp_84_16, wi_84_19, wp_84_19, wi_84_22, wp_84_22, wi_84_27, wp_84_27, wq5v, wkv, wiv, wrv, wav', l_m]
            · simp (disch := omega) only [q_pos, q_pos', q_lt, q_le, q_eq, q_add, q_sub, q_mul, ob_s, if_pos, if_neg, not_false_eq_true, q_m1', q_div, rm_N, l_0, l_1, l_2, l_3, l_4, l_5, l_6, l_7, l_8, l_10, l_11, l_12, l_13, l_14, l_15, l_16, l_18, l_20, l_21, l_22, l_23, l_24, l_32, l_33, l_40, l_44, l_48, l_57, l_59, l_60, l_63, l_64, l_97, l_98, l_99, l_100, l_111, l_116, l_122, l_132, l_200, l_240, l_255, l_480, l_1000, l_1452, if_true, if_false, true_or, or_true, in_neg, in_m1, in_n, V1, V2, R1, R2, B1, B2, eq_self, wk_3, wk_10, wk_37, wk_42, wr_3_0, wr_3_1, wr_3_2, wr_3_3, wr_3_4, wr_3_5, wr_3_6, wr_3_7, wr_3_8, wi_3_9, wi_3_10, wi_3_11, wp_3_9, wp_3_10, wp_3_11, wr_10_0, wr_10_1, wi_10_2, wi_10_3, wp_10_2, wp_10_3, wr_37_0, wr_37_1, wr_37_2, wi_37_3, wp_37_3, wi_37_4, wp_37_4, wi_37_5, wp_37_5, wi_37_6, wp_37_6, wi_37_7, wp_37_7, wi_37_8, wp_37_8, wr_42_0, wi_42_1, wp_42_1, wk_84, wr_84_0, wr_84_1, wr_84_2, wr_84_3, wr_84_5, wr_84_13, wr_84_14, wr_84_15, wr_84_17, wr_84_18, wr_84_20, wr_84_21, wr_84_23, wr_84_24, wr_84_25, wr_84_26, wi_84_4, wp_84_4, wi_84_6, wp_84_6, wi_84_7, wp_84_7, wi_84_8, wp_84_8, wi_84_9, wp_84_9, wi_84_10, wp_84_10, wi_84_11, wp_84_11, wi_84_12, wp_84_12, wi_84_16, wp_84_16, wi_84_19, wp_84_19, wi_84_22, wp_84_22, wi_84_27, wp_84_27, wq5v, wkv, wiv, wrv, wav', l_m, in_1]
      · refine RO.op ?_ R
        unfold RO f_X11_drawn f_X12_drawn
        exact ⟨-1000001, by simp (disch := omega) only [q_pos, q_pos', q_lt, q_le, q_eq, q_add, q_sub, q_mul, ob_s, if_pos, if_neg, not_false_eq_true, q_m1', q_div, rm_N, l_0, l_1, l_2, l_3, l_4, l_5, l_6, l_7, l_8, l_10, l_11, l_12, l_13, l_14, l_15, l_16, l_18, l_20, l_21, l_22, l_23, l_24, l_32, l_33, l_40, l_44, l_48, l_57, l_59, l_60, l_63, l_64, l_97, l_98, l_99, l_100, l_111, l_116, l_122, l_132, l_200, l_240, l_255, l_480, l_1000, l_1452, if_true, if_false, true_or, or_true, in_neg, in_m1, in_n, V1, V2, R1, R2, B1, B2, eq_self, wk_3, wk_10, wk_37, wk_42, wr_3_0, wr_3_1, wr_3_2, wr_3_3, wr_3_4, wr_3_5, wr_3_6, wr_3_7, wr_3_8, wi_3_9, wi_3_10, wi_3_11, wp_3_9, wp_3_10, wp_3_11, wr_10_0, wr_10_1, wi_10_2, wi_10_3, wp_10_2, wp_10_3, wr_37_0, wr_37_1, wr_37_2, wi_37_3, wp_37_3, wi_37_4, wp_37_4, wi_37_5, wp_37_5, wi_37_6, wp_37_6, wi_37_7, wp_37_7, wi_37_8, wp_37_8, wr_42_0, wi_42_1, wp_42_1, wk_84, wr_84_0, wr_84_1, wr_84_2, wr_84_3, wr_84_5, wr_84_13, wr_84_14, wr_84_15, wr_84_17, wr_84_18, wr_84_20, wr_84_21, wr_84_23, wr_84_24, wr_84_25, wr_84_26, wi_84_4, wp_84_4, wi_84_6, wp_84_6, wi_84_7, wp_84_7, wi_84_8, wp_84_8, wi_84_9, wp_84_9, wi_84_10, wp_84_10, wi_84_11, wp_84_11, wi_84_12, wp_84_12, wi_84_16, wp_84_16, wi_84_19, wp_84_19, wi_84_22, wp_84_22, wi_84_27, wp_84_27, wq5v, wkv, wiv, wrv, wav'], by simp (disch := omega) only [q_pos, q_pos', q_lt, q_le, q_eq, q_add, q_sub, q_mul, ob_s, if_pos, if_neg, not_false_eq_true, q_m1', q_div, rm_N, l_0, l_1, l_2, l_3, l_4, l_5, l_6, l_7, l_8, l_10, l_11, l_12, l_13, l_14, l_15, l_16, l_18, l_20, l_21, l_22, l_23, l_24, l_32, l_33, l_40, l_44, l_48, l_57, l_59, l_60, l_63, l_64, l_97, l_98, l_99, l_100, l_111, l_116, l_122, l_132, l_200, l_240, l_255, l_480, l_1000, l_1452, if_true, if_false, true_or, or_true, in_neg, in_m1, in_n, V1, V2, R1, R2, B1, B2, eq_self, wk_3, wk_10, wk_37, wk_42, wr_3_0, wr_3_1, wr_3_2, wr_3_3, wr_3_4, wr_3_5, wr_3_6, wr_3_7, wr_3_8, wi_3_9, wi_3_10, wi_3_11, wp_3_9, wp_3_10, wp_3_11, wr_10_0, wr_10_1, wi_10_2, wi_10_3, wp_10_2, wp_10_3, wr_37_0, wr_37_1, wr_37_2, wi_37_3, wp_37_3, wi_37_4, wp_37_4, wi_37_5, wp_37_5, wi_37_6, wp_37_6, wi_37_7, wp_37_7, wi_37_8, wp_37_8, wr_42_0, wi_42_1, wp_42_1, wk_84, wr_84_0, wr_84_1, wr_84_2, wr_84_3, wr_84_5, wr_84_13, wr_84_14, wr_84_15, wr_84_17, wr_84_18, wr_84_20, wr_84_21, wr_84_23, wr_84_24, wr_84_25, wr_84_26, wi_84_4, wp_84_4, wi_84_6, wp_84_6, wi_84_7, wp_84_7, wi_84_8, wp_84_8, wi_84_9, wp_84_9, wi_84_10, wp_84_10, wi_84_11, wp_84_11, wi_84_12, wp_84_12, wi_84_16, wp_84_16, wi_84_19, wp_84_19, wi_84_22, wp_84_22, wi_84_27, wp_84_27, wq5v, wkv, wiv, wrv, wav']⟩
  · refine RO.op ?_ R
    unfold RO f_X11_drawn f_X12_drawn
    exact ⟨-1000001, by simp (disch := omega) only [q_pos, q_pos', q_lt, q_le, q_eq, q_add, q_sub, q_mul, ob_s, if_pos, if_neg, not_false_eq_true, q_m1', q_div, rm_N, l_0, l_1, l_2, l_3, l_4, l_5, l_6, l_7, l_8, l_10, l_11, l_12, l_13, l_14, l_15, l_16, l_18, l_20, l_21, l_22, l_23, l_24, l_32, l_33, l_40, l_44, l_48, l_57, l_59, l_60, l_63, l_64, l_97, l_98, l_99, l_100, l_111, l_116, l_122, l_132, l_200, l_240, l_255, l_480, l_1000, l_1452, if_true, if_false, true_or, or_true, in_neg, in_m1, in_n, V1, V2, R1, R2, B1, B2, eq_self, wk_3, wk_10, wk_37, wk_42, wr_3_0, wr_3_1, wr_3_2, wr_3_3, wr_3_4, wr_3_5, wr_3_6, wr_3_7, wr_3_8, wi_3_9, wi_3_10, wi_3_11, wp_3_9, wp_3_10, wp_3_11, wr_10_0, wr_10_1, wi_10_2, wi_10_3, wp_10_2, wp_10_3, wr_37_0, wr_37_1, wr_37_2, wi_37_3, wp_37_3, wi_37_4, wp_37_4, wi_37_5, wp_37_5, wi_37_6, wp_37_6, wi_37_7, wp_37_7, wi_37_8, wp_37_8, wr_42_0, wi_42_1, wp_42_1, h1], by simp (disch := omega) only [q_pos, q_pos', q_lt, q_le, q_eq, q_add, q_sub, q_mul, ob_s, if_pos, if_neg, not_false_eq_true, q_m1', q_div, rm_N, l_0, l_1, l_2, l_3, l_4, l_5, l_6, l_7, l_8, l_10, l_11, l_12, l_13, l_14, l_15, l_16, l_18, l_20, l_21, l_22, l_23, l_24, l_32, l_33, l_40, l_44, l_48, l_57, l_59, l_60, l_63, l_64, l_97, l_98, l_99, l_100, l_111, l_116, l_122, l_132, l_200, l_240, l_255, l_480, l_1000, l_1452, if_true, if_false, true_or, or_true, in_neg, in_m1, in_n, V1, V2, R1, R2, B1, B2, eq_self, wk_84, wr_84_0, wr_84_1, wr_84_2, wr_84_3, wr_84_5, wr_84_13, wr_84_14, wr_84_15, wr_84_17, wr_84_18, wr_84_20, wr_84_21, wr_84_23, wr_84_24, wr_84_25, wr_84_26, wi_84_4, wp_84_4, wi_84_6, wp_84_6, wi_84_7, wp_84_7, wi_84_8, wp_84_8, wi_84_9, wp_84_9, wi_84_10, wp_84_10, wi_84_11, wp_84_11, wi_84_12, wp_84_12, wi_84_16, wp_84_16, wi_84_19, wp_84_19, wi_84_22, wp_84_22, wi_84_27, wp_84_27, h2]⟩
end DRAWN

/-! payload: the words of all offsets one behind another -/
theorem pf_lI {a : Nat} (h : a < 2 ^ 63) : (lN a).toInt = (a : Int) := lg_ofNat_toInt h
theorem pf_shr {a d : Nat} {D : Int64} (hD : (D.toBitVec.smod 64).toNat = d) (h : a < 2 ^ 62) : lN a >>> D = lN (a / 2 ^ d) := by
  have hd : a / 2 ^ d ≤ a := Nat.div_le_self _ _
  apply Int64.toInt_inj.mp
  have e : (lN a >>> D).toInt = (lN a).toInt >>> d := by
    rw [← hD]
    exact BitVec.toInt_sshiftRight ..
  rw [e, Int.shiftRight_eq_div_pow, pf_lI (by omega), pf_lI (by omega)]
  rfl
theorem wb_sar {a d : Nat} (ha : a < 2 ^ 62) (hd : d < 64) : lN a >>> ((nI d).toInt64 &&& 63) = lN (a / 2 ^ d) := by
  rw [wb_c d hd]
  exact pf_shr (by rw [wb_tb, wb_sm d hd, BitVec.toNat_ofNat, Nat.mod_eq_of_lt (by omega)]) ha
theorem chP : ∀ k, k < 15 → ∀ c, c < 16 → chN (16 * k + c) ≤ chN (16 * (k + 1) + c) ∧ (c < 15 → chN (16 * k + c) + chN (16 * k + (c + 1)) ≤ chN (16 * (k + 1) + (c + 1))) := by decide +kernel
theorem ofN_lt {m : Nat} : ∀ k, k ≤ 15 → ofN m k < chN (16 * k + fb_ct (fun k => m.testBit k) k)
  | 0, _ => by
    show 0 < chN 0
    decide
  | k + 1, h => by
    have ih := ofN_lt (m := m) k (by omega)
    have hl := fb_ct_le (fun k => m.testBit k) k
    have hP := chP k (by omega) (fb_ct (fun k => m.testBit k) k) (by omega)
    have hs : ofN m (k + 1) = ofN m k + ofT m k := fb_sm_succ _ _
    by_cases hb : m.testBit k = true
    · have h1 := ct_ge1 hb
      have ht : ofT m k = chN (16 * k + fb_ct (fun k => m.testBit k) (k + 1)) := by unfold ofT; rw [if_pos hb]
      rw [hs, ht, h1]
      have := hP.2 (by omega)
      omega
    · have hb' : m.testBit k = false := by simpa using hb
      have ht : ofT m k = 0 := by unfold ofT; rw [if_neg hb]
      rw [hs, ht, ct_no hb']
      have := hP.1
      omega
theorem of_wd (p : Nat → Bool) (b : Nat) : ofN (mkN p b) 15 < 2 ^ wdN (clN p b) := by
  have h := ofN_lt (m := mkN p b) 15 (by omega)
  rw [mk_ct, show 16 * 15 + clN p b = 240 + clN p b from rfl] at h
  exact Nat.lt_of_lt_of_le h (wd_ch (clN p b) (Nat.lt_succ_of_le (clN_le p b))).1
def pyD (o P k j : Nat) : Nat := ((o % 2 ^ j) * 2 ^ P / 2 ^ (64 * k)) % 2 ^ 64
theorem pyD_bit (o P k j t : Nat) : (pyD o P k j).testBit t = (decide (t < 64) && (decide (P ≤ t + 64 * k) && (decide (t + 64 * k - P < j) && o.testBit (t + 64 * k - P)))) := by
  unfold pyD
  rw [Nat.testBit_mod_two_pow, Nat.testBit_div_two_pow, Nat.testBit_mul_two_pow, Nat.testBit_mod_two_pow]
theorem pyD_lt (o P k j : Nat) : pyD o P k j < 2 ^ 64 := Nat.mod_lt _ (by decide)
theorem pyD_z (o P k : Nat) : pyD o P k 0 = 0 := by
  unfold pyD
  rw [Nat.pow_zero, Nat.mod_one, Nat.zero_mul, Nat.zero_div, Nat.zero_mod]
theorem pyD_0 {o P k w : Nat} (h : 64 * k + 64 ≤ P ∨ P + w ≤ 64 * k) : pyD o P k w = 0 := Nat.eq_of_testBit_eq (fun t => by
  rw [pyD_bit, Nat.zero_testBit]
  by_cases h1 : t < 64
  · by_cases h2 : P ≤ t + 64 * k
    · rw [decide_eq_false (show ¬ t + 64 * k - P < w by omega)]
      simp
    · simp [h2]
  · simp [h1])
theorem pyD_c {o P k w : Nat} (ho : o < 2 ^ w) (h1 : 64 * k ≤ P) : pyD o P k w = o * 2 ^ (P - 64 * k) % 2 ^ 64 := by
  unfold pyD
  rw [Nat.mod_eq_of_lt ho, wb_pw h1, Nat.mul_comm (2 ^ (64 * k)), ← Nat.mul_assoc, Nat.mul_div_cancel _ (Nat.two_pow_pos _)]
theorem pyD_d {o P k w : Nat} (ho : o < 2 ^ w) (h1 : P ≤ 64 * k) (h2 : o < 2 ^ 64) : pyD o P k w = o / 2 ^ (64 * k - P) := by
  unfold pyD
  rw [Nat.mod_eq_of_lt ho, wb_pw h1, Nat.mul_comm o, Nat.mul_div_mul_left _ _ (Nat.two_pow_pos P), Nat.mod_eq_of_lt (Nat.lt_of_le_of_lt (Nat.div_le_self _ _) h2)]
theorem bt_no {b : Bool} {s t : Nat} (h : ¬ s = t) : (b.toNat * 2 ^ s).testBit t = false := by
  cases b
  · simp
  · simp [Nat.testBit_two_pow, h]
theorem bt_ye {b : Bool} {t : Nat} : (b.toNat * 2 ^ t).testBit t = b := by
  cases b
  · simp
  · simp [Nat.testBit_two_pow]
theorem pyD_n {o P k j : Nat} (h : ¬ (P + j) / 64 = k) : pyD o P k (j + 1) = pyD o P k j := Nat.eq_of_testBit_eq (fun t => by
  rw [pyD_bit, pyD_bit]
  by_cases ht : t < 64
  · by_cases hP : P ≤ t + 64 * k
    · have e : decide (t + 64 * k - P < j + 1) = decide (t + 64 * k - P < j) := decide_eq_decide.mpr (by omega)
      rw [e]
    · simp [hP]
  · simp [ht])
theorem pyD_s {o P k j : Nat} (h : (P + j) / 64 = k) : pyD o P k (j + 1) = pyD o P k j ||| o / 2 ^ j % 2 * 2 ^ ((P + j) % 64) := Nat.eq_of_testBit_eq (fun t => by
  rw [Nat.testBit_or, pyD_bit, pyD_bit, ← Nat.toNat_testBit]
  by_cases ht : t < 64
  · by_cases hP : P ≤ t + 64 * k
    · by_cases he : t + 64 * k - P = j
      · have es : (P + j) % 64 = t := by omega
        rw [he, es, bt_ye]
        simp [ht, hP]
      · have es : ¬ (P + j) % 64 = t := by omega
        have e : decide (t + 64 * k - P < j + 1) = decide (t + 64 * k - P < j) := decide_eq_decide.mpr (by omega)
        rw [bt_no es, Bool.or_false, e]
    · have es : ¬ (P + j) % 64 = t := by omega
      rw [bt_no es]
      simp [hP]
  · have es : ¬ (P + j) % 64 = t := by omega
    rw [bt_no es]
    simp [ht])
theorem bg_t {P K : Nat} (hP : P < 1000000) (hK : K < 1000000) : (nI P - nI K).toInt = (P : Int) - (K : Int) := by
  have h1 : (nI P).toInt = (P : Int) := nI_toInt (by omega)
  have h2 : (nI K).toInt = (K : Int) := nI_toInt (by omega)
  rw [fb_subI (by omega) (by omega), h1, h2]
theorem bg_add {P K w : Nat} (hP : P + w < 1000000) (hK : K < 1000000) : nI P - nI K + nI w = nI (P + w) - nI K := by
  apply Int32.toInt_inj.mp
  have h2 : (nI w).toInt = (w : Int) := nI_toInt (by omega)
  have h3 := bg_t (show P < 1000000 by omega) hK
  have h4 := bg_t hP hK
  rw [fb_addI (by omega) (by omega), h3, h2, h4]
  omega
theorem bg_64 {P K : Nat} (hP : P < 1000000) (hK : K < 1000000) : (nI 64 ≤ nI P - nI K) = (K + 64 ≤ P) := by
  have h := bg_t hP hK
  have h4 : (nI 64).toInt = 64 := by decide
  apply propext
  rw [Int32.le_iff_toInt_le, h, h4]
  omega
theorem bg_0 {P K : Nat} (hP : P < 1000000) (hK : K < 1000000) : (nI P - nI K ≤ nI 0) = (P ≤ K) := by
  have h := bg_t hP hK
  have h4 : (nI 0).toInt = 0 := by decide
  apply propext
  rw [Int32.le_iff_toInt_le, h, h4]
  omega
theorem bg_n {P K : Nat} (hP : P < 1000000) (hK : K < 1000000) : (nI P - nI K < nI 0) = (P < K) := by
  have h := bg_t hP hK
  have h4 : (nI 0).toInt = 0 := by decide
  apply propext
  rw [Int32.lt_iff_toInt_lt, h, h4]
  omega
theorem bg_neg {P K : Nat} (hP : P < 1000000) (hK : K < 1000000) (h1 : P ≤ K) : -(nI P - nI K) = nI (K - P) := by
  have h := bg_t hP hK
  apply Int32.toInt_inj.mp
  have h4 : (nI (K - P)).toInt = ((K - P : Nat) : Int) := nI_toInt (by omega)
  rw [fb_negI (by omega), h, h4]
  omega
theorem bg_i : ∀ k, k < 7 → -(nI (64 * k)) = nI 0 - nI (64 * k) := by decide +kernel
def pyW (p : Nat → Bool) (k : Nat) : Nat → Nat
  | 0 => 0
  | b + 1 => pyW p k b ||| pyD (ofN (mkN p b) 15) (bgN p b) k (wdN (clN p b))
theorem pyW_lt (p : Nat → Bool) (k : Nat) : ∀ b, pyW p k b < 2 ^ 64
  | 0 => by
    show 0 < 2 ^ 64
    decide
  | b + 1 => Nat.or_lt_two_pow (pyW_lt p k b) (pyD_lt _ _ _ _)
theorem lz_or {x : Nat} (hx : x < 2 ^ 64) : lN x ||| (0 : Int64) = lN x := by
  rw [show (0 : Int64) = lN 0 from rfl, wb_or hx (by decide), Nat.or_zero]
theorem pow13 {w : Nat} (h : w ≤ 13) : 2 ^ w ≤ 8192 := Nat.pow_le_pow_right (n := 2) (by decide) h
section PAY
variable {L : Nat} {xs : Nat → Int32} {g : xS} {r : Nat → Option Nat} {rs : xH} {j n v : Nat} {p : Nat → Bool}
theorem e_pw_L (hj : j < 25) (hv : vOK g j n p) {k : Nat} (hk : k ≤ 6) : ∀ f b, b ≤ (n + 14) / 15 → (n + 14) / 15 < b + f → ∃ y z, f_X1_payloadWord_L9 f (vO j) (lN (pyW p k b)) (nI (bgN p b) - nI (64 * k)) (nI b) (wH L xs g r rs) = some (lN (pyW p k ((n + 14) / 15)), y, z, wH L xs g r rs) := by
  have hn := hv.1
  intro f
  induction f with
  | zero => intro b h1 h2; omega
  | succ f ih =>
    intro b h1 h2
    unfold f_X1_payloadWord_L9
    rw [wkv hj, if_pos rfl, e_blockCount hj hv, ob_s]
    dsimp only
    by_cases hb : b = (n + 14) / 15
    · refine ⟨nI (bgN p b) - nI (64 * k), nI b, ?_⟩
      rw [if_pos (by rw [q_le (by omega) (by omega)]; omega), hb]
    · have hcl := clN_le p b
      have hwd := wdN_le (clN p b)
      have hbg := bgN_le p b
      have hs : bgN p (b + 1) = bgN p b + wdN (clN p b) := fb_sm_succ _ _
      have ho := of_wd p b
      have h13 := pow13 hwd
      have hg := hv.2.2.2 b (by omega)
      have e0 : xaI (wH L xs g r rs) 1 (nI (clN p b)) = some (nI (wdN (clN p b))) := by rw [wa_1' (by omega), WDf_N _ (by omega)]
      have eN : nI (bgN p b) - nI (64 * k) + nI (wdN (clN p b)) = nI (bgN p (b + 1)) - nI (64 * k) := by rw [bg_add (by omega) (by omega), hs]
      have lW := pyW_lt p k b
      obtain ⟨y, z, e⟩ := ih (b + 1) (by omega) (by omega)
      refine ⟨y, z, ?_⟩
      rw [if_neg (by rw [q_le (by omega) (by omega)]; omega), wkv hj, if_pos rfl, e_classOf hj hv (by omega), ob_s]
      dsimp only
      rw [e0, ob_s, eN, l_64, l_1, q_add]
      by_cases hA : 64 * k + 64 ≤ bgN p b
      · rw [if_pos (by rw [bg_64 (by omega) (by omega)]; exact hA)]
        have eW : pyW p k (b + 1) = pyW p k b := by
          show pyW p k b ||| _ = _
          rw [pyD_0 (Or.inl hA), Nat.or_zero]
        rw [eW] at e
        exact e
      · rw [if_neg (by rw [bg_64 (by omega) (by omega)]; exact hA)]
        by_cases hB : bgN p (b + 1) ≤ 64 * k
        · rw [l_0, if_pos (by rw [bg_0 (by omega) (by omega)]; exact hB)]
          have eW : pyW p k (b + 1) = pyW p k b := by
            show pyW p k b ||| _ = _
            rw [pyD_0 (Or.inr (by omega)), Nat.or_zero]
          rw [eW] at e
          exact e
        · rw [l_0, if_neg (by rw [bg_0 (by omega) (by omega)]; exact hB), wrv hj, ob_s, wav' hj (by omega), ob_s, hg, e_offsetOf (mkN_lt p b), ob_s]
          dsimp only
          rw [nI_l (by omega)]
          have ex : (if nI (bgN p b) - nI (64 * k) < nI 0 then lN (ofN (mkN p b) 15) >>> ((-(nI (bgN p b) - nI (64 * k))).toInt64 &&& 63) else lN (ofN (mkN p b) 15) <<< ((nI (bgN p b) - nI (64 * k)).toInt64 &&& 63)) = lN (pyD (ofN (mkN p b) 15) (bgN p b) k (wdN (clN p b))) := by
            by_cases hC : bgN p b < 64 * k
            · rw [if_pos (by rw [bg_n (by omega) (by omega)]; exact hC), bg_neg (by omega) (by omega) (by omega), wb_sar (by omega) (by omega), pyD_d ho (by omega) (by omega)]
            · rw [if_neg (by rw [bg_n (by omega) (by omega)]; exact hC), q_sub (by omega), wb_shl _ (by omega), pyD_c ho (by omega)]
              exact wb_mod _
          rw [ex, wb_or lW (pyD_lt _ _ _ _)]
          exact e
theorem e_pword (hj : j < 25) (hv : vOK g j n p) {k : Nat} (hk : k ≤ 6) : f_X1_payloadWord (vO j) (nI (64 * k)) (wH L xs g r rs) = some (lN (pyW p k ((n + 14) / 15)), wH L xs g r rs) := by
  have hn := hv.1
  obtain ⟨y, z, e⟩ := e_pw_L (L := L) (xs := xs) (r := r) (rs := rs) hj hv hk xN 0 (by omega) (by unfold xN; omega)
  rw [show pyW p k 0 = 0 from rfl, show bgN p 0 = 0 from rfl, show lN 0 = (0 : Int64) from rfl] at e
  unfold f_X1_payloadWord
  rw [bg_i k (by omega), l_0, e]
  rfl
theorem m_pw_in {a : Nat} {x z : Int32} {k o P w W : Nat} {h : xH} (hk : k ≤ 6) (hP : P ≤ 1000) (ho : o < 8192) (hw : w ≤ 13) (hW : W < 2 ^ 64) : ∀ f t, t ≤ w → w < t + f → ∃ y, f_X12_payload_L81 f a x (nI k) (lN (W ||| pyD o P k t)) (nI P) z (lN o) (nI w) (nI t) h = some (lN (W ||| pyD o P k w), y, h) := by
  intro f
  induction f with
  | zero => intro t h1 h2; omega
  | succ f ih =>
    intro t h1 h2
    unfold f_X12_payload_L81
    by_cases ht : t = w
    · refine ⟨nI t, ?_⟩
      rw [if_pos (by rw [q_le (by omega) (by omega)]; omega), ht]
    · obtain ⟨y, e⟩ := ih (t + 1) (by omega) (by omega)
      have lD := pyD_lt o P k t
      have lO := Nat.or_lt_two_pow hW lD
      refine ⟨y, ?_⟩
      rw [if_neg (by rw [q_le (by omega) (by omega)]; omega), q_add, l_64, l_1, q_add]
      by_cases hq : (P + t) / 64 = k
      · have hb : o / 2 ^ t % 2 ≤ 1 := by omega
        have hm : (P + t) % 64 ≤ 63 := by omega
        have hp : 2 ^ ((P + t) % 64) ≤ 2 ^ 63 := Nat.pow_le_pow_right (n := 2) (by decide) hm
        have hs : o / 2 ^ t % 2 * 2 ^ ((P + t) % 64) < 2 ^ 64 := Nat.lt_of_le_of_lt (Nat.mul_le_mul hb hp) (by decide)
        have hdv : o / 2 ^ t ≤ o := Nat.div_le_self _ _
        rw [if_pos (by rw [q_div (by omega) (by omega) (by omega), q_eq (by omega) (by omega)]; exact hq), q_rem (by omega) (by omega) (by omega), wb_sar (by omega) (by omega), wb_a1 (by omega), wb_shl _ (by omega), wb_or lO hs, Nat.or_assoc, ← pyD_s hq]
        exact e
      · rw [if_neg (by rw [q_div (by omega) (by omega) (by omega), q_eq (by omega) (by omega)]; exact hq), lz_or lO, ← pyD_n hq]
        exact e
theorem m_pw_L (hch : ∀ k, k < 256 → g 64 k = CHf k) (hv : v < 4) (hm : mOK g 55 (33 * v) n p) {k : Nat} (hk : k ≤ 6) : ∀ f b, b ≤ (n + 14) / 15 → (n + 14) / 15 < b + f → ∃ y z, f_X12_payload_L29 f 84 (nI v) (nI k) (lN (pyW p k b)) (nI (bgN p b)) (nI b) (wH L xs g r rs) = some (lN (pyW p k ((n + 14) / 15)), y, z, wH L xs g r rs) := by
  have hn := hm.1
  intro f
  induction f with
  | zero => intro b h1 h2; omega
  | succ f ih =>
    intro b h1 h2
    unfold f_X12_payload_L29
    rw [wr_84_13, ob_s, m_blocks hr90 hv hm, ob_s]
    dsimp only
    by_cases hb : b = (n + 14) / 15
    · refine ⟨nI (bgN p b), nI b, ?_⟩
      rw [if_pos (by rw [q_le (by omega) (by omega)]; omega), hb]
    · have hcl := clN_le p b
      have hwd := wdN_le (clN p b)
      have hbg := bgN_le p b
      have hs : bgN p (b + 1) = bgN p b + wdN (clN p b) := fb_sm_succ _ _
      have ho := of_wd p b
      have h13 := pow13 hwd
      have hg := hm.2.2.2 b (by omega)
      have lW := pyW_lt p k b
      obtain ⟨y, z, e⟩ := ih (b + 1) (by omega) (by omega)
      obtain ⟨u, ei⟩ := m_pw_in (a := 84) (x := nI v) (z := nI b) (k := k) (o := ofN (mkN p b) 15) (P := bgN p b) (w := wdN (clN p b)) (W := pyW p k b) (h := wH L xs g r rs) hk (by omega) (by omega) (by omega) lW xN 0 (by omega) (by unfold xN; omega)
      rw [pyD_z, Nat.or_zero] at ei
      refine ⟨y, z, ?_⟩
      rw [if_neg (by rw [q_le (by omega) (by omega)]; omega), wr_84_13, ob_s, l_33, q_mul, l_1, q_add, q_add, wa_90' (by omega), ob_s, hg, wk_84, if_pos rfl, m_offsetOf hch (mkN_lt p b), ob_s]
      dsimp only
      rw [m_sortOf (mkN_lt p b), ob_s, mk_ct]
      dsimp only
      rw [wk_84, if_pos rfl, m_widthOf hch (by omega), ob_s]
      dsimp only
      rw [nI_l (by omega), l_0, ei, ob_s]
      dsimp only
      rw [q_add, q_add, ← hs]
      exact e
theorem o_payload (R : Rel g r rs) (x y : Int32) : RO L xs g r rs (f_X11_payload 3 x y) (f_X12_payload 84 x y) := by
  unfold RO f_X11_payload f_X12_payload
  rcases sV x with ⟨v, hv, rfl⟩ | ⟨h1, h2⟩
  · obtain ⟨n, p, hc, hm⟩ := R.vec v hv
    have hn := hc.1
    have hj : 13 + v < 25 := by omega
    rcases a_sp y with hy | ⟨i, hi, rfl⟩
    · exact ⟨-1000001, by simp (disch := omega) only [q_pos, q_pos', q_lt, q_le, q_eq, q_add, q_sub, q_mul, ob_s, if_pos, if_neg, not_false_eq_true, q_m1', q_div, rm_N, l_0, l_1, l_2, l_3, l_4, l_5, l_6, l_7, l_8, l_10, l_11, l_12, l_13, l_14, l_15, l_16, l_18, l_20, l_21, l_22, l_23, l_24, l_32, l_33, l_40, l_44, l_48, l_57, l_59, l_60, l_63, l_64, l_97, l_98, l_99, l_100, l_111, l_116, l_122, l_132, l_200, l_240, l_255, l_480, l_1000, l_1452, if_true, if_false, true_or, or_true, in_neg, in_m1, in_n, V1, V2, R1, R2, B1, B2, eq_self, wk_3, wk_10, wk_37, wk_42, wr_3_0, wr_3_1, wr_3_2, wr_3_3, wr_3_4, wr_3_5, wr_3_6, wr_3_7, wr_3_8, wi_3_9, wi_3_10, wi_3_11, wp_3_9, wp_3_10, wp_3_11, wr_10_0, wr_10_1, wi_10_2, wi_10_3, wp_10_2, wp_10_3, wr_37_0, wr_37_1, wr_37_2, wi_37_3, wp_37_3, wi_37_4, wp_37_4, wi_37_5, wp_37_5, wi_37_6, wp_37_6, wi_37_7, wp_37_7, wi_37_8, wp_37_8, wr_42_0, wi_42_1, wp_42_1, wk_84, wr_84_0, wr_84_1, wr_84_2, wr_84_3, wr_84_5, wr_84_13, wr_84_14, wr_84_15, wr_84_17, wr_84_18, wr_84_20, wr_84_21, wr_84_23, wr_84_24, wr_84_25, wr_84_26, wi_84_4, wp_84_4, wi_84_6, wp_84_6, wi_84_7, wp_84_7, wi_84_8, wp_84_8, wi_84_9, wp_84_9, wi_84_10, wp_84_10, wi_84_11, wp_84_11, wi_84_12, wp_84_12, wi_84_16, wp_84_16, wi_84_19, wp_84_19, wi_84_22, wp_84_22, wi_84_27, wp_84_27, wq5v, wkv, wiv, wrv, wav', ng1 hy], by simp (disch := omega) only [q_pos, q_pos', q_lt, q_le, q_eq, q_add, q_sub, q_mul, ob_s, if_pos, if_neg, not_false_eq_true, q_m1', q_div, rm_N, l_0, l_1, l_2, l_3, l_4, l_5, l_6, l_7, l_8, l_10, l_11, l_12, l_13, l_14, l_15, l_16, l_18, l_20, l_21, l_22, l_23, l_24, l_32, l_33, l_40, l_44, l_48, l_57, l_59, l_60, l_63, l_64, l_97, l_98, l_99, l_100, l_111, l_116, l_122, l_132, l_200, l_240, l_255, l_480, l_1000, l_1452, if_true, if_false, true_or, or_true, in_neg, in_m1, in_n, V1, V2, R1, R2, B1, B2, eq_self, wk_3, wk_10, wk_37, wk_42, wr_3_0, wr_3_1, wr_3_2, wr_3_3, wr_3_4, wr_3_5, wr_3_6, wr_3_7, wr_3_8, wi_3_9, wi_3_10, wi_3_11, wp_3_9, wp_3_10, wp_3_11, wr_10_0, wr_10_1, wi_10_2, wi_10_3, wp_10_2, wp_10_3, wr_37_0, wr_37_1, wr_37_2, wi_37_3, wp_37_3, wi_37_4, wp_37_4, wi_37_5, wp_37_5, wi_37_6, wp_37_6, wi_37_7, wp_37_7, wi_37_8, wp_37_8, wr_42_0, wi_42_1, wp_42_1, wk_84, wr_84_0, wr_84_1, wr_84_2, wr_84_3, wr_84_5, wr_84_13, wr_84_14, wr_84_15, wr_84_17, wr_84_18, wr_84_20, wr_84_21, wr_84_23, wr_84_24, wr_84_25, wr_84_26, wi_84_4, wp_84_4, wi_84_6, wp_84_6, wi_84_7, wp_84_7, wi_84_8, wp_84_8, wi_84_9, wp_84_9, wi_84_10, wp_84_10, wi_84_11, wp_84_11, wi_84_12, wp_84_12, wi_84_16, wp_84_16, wi_84_19, wp_84_19, wi_84_22, wp_84_22, wi_84_27, wp_84_27, wq5v, wkv, wiv, wrv, wav', in_neg hy]⟩
    · by_cases e : i < 7
      · have e1 := e_pword (L := L) (xs := xs) (r := r) (rs := rs) hj hc (show i ≤ 6 by omega)
        obtain ⟨u, z, e2⟩ := m_pw_L (L := L) (xs := xs) (r := r) (rs := rs) R.ch hv hm (show i ≤ 6 by omega) xN 0 (by omega) (by unfold xN; omega)
        rw [show pyW p i 0 = 0 from rfl, show bgN p 0 = 0 from rfl, show lN 0 = (0 : Int64) from rfl] at e2
        exact ⟨lN (pyW p i ((n + 14) / 15)), by simp (disch := omega) only [q_pos, q_pos', q_lt, q_le, q_eq, q_add, q_sub, q_mul, ob_s, if_pos, if_neg, not_false_eq_true, q_m1', q_div, rm_N, l_0, l_1, l_2, l_3, l_4, l_5, l_6, l_7, l_8, l_10, l_11, l_12, l_13, l_14, l_15, l_16, l_18, l_20, l_21, l_22, l_23, l_24, l_32, l_33, l_40, l_44, l_48, l_57, l_59, l_60, l_63, l_64, l_97, l_98, l_99, l_100, l_111, l_116, l_122, l_132, l_200, l_240, l_255, l_480, l_1000, l_1452, if_true, if_false, true_or, or_true, in_neg, in_m1, in_n, V1, V2, R1, R2, B1, B2, eq_self, wk_3, wk_10, wk_37, wk_42, wr_3_0, wr_3_1, wr_3_2, wr_3_3, wr_3_4, wr_3_5, wr_3_6, wr_3_7, wr_3_8, wi_3_9, wi_3_10, wi_3_11, wp_3_9, wp_3_10, wp_3_11, wr_10_0, wr_10_1, wi_10_2, wi_10_3, wp_10_2, wp_10_3, wr_37_0, wr_37_1, wr_37_2, wi_37_3, wp_37_3, wi_37_4, wp_37_4, wi_37_5, wp_37_5, wi_37_6, wp_37_6, wi_37_7, wp_37_7, wi_37_8, wp_37_8, wr_42_0, wi_42_1, wp_42_1, wk_84, wr_84_0, wr_84_1, wr_84_2, wr_84_3, wr_84_5, wr_84_13, wr_84_14, wr_84_15, wr_84_17, wr_84_18, wr_84_20, wr_84_21, wr_84_23, wr_84_24, wr_84_25, wr_84_26, wi_84_4, wp_84_4, wi_84_6, wp_84_6, wi_84_7, wp_84_7, wi_84_8, wp_84_8, wi_84_9, wp_84_9, wi_84_10, wp_84_10, wi_84_11, wp_84_11, wi_84_12, wp_84_12, wi_84_16, wp_84_16, wi_84_19, wp_84_19, wi_84_22, wp_84_22, wi_84_27, wp_84_27, wq5v, wkv, wiv, wrv, wav', e1], by simp (disch := omega) only [q_pos, q_pos', q_lt, q_le, q_eq, q_add, q_sub, q_mul, ob_s, if_pos, if_neg, not_false_eq_true, q_m1', q_div, rm_N, l_0, l_1, l_2, l_3, l_4, l_5, l_6, l_7, l_8, l_10, l_11, l_12, l_13, l_14, l_15, l_16, l_18, l_20, l_21, l_22, l_23, l_24, l_32, l_33, l_40, l_44, l_48, l_57, l_59, l_60, l_63, l_64, l_97, l_98, l_99, l_100, l_111, l_116, l_122, l_132, l_200, l_240, l_255, l_480, l_1000, l_1452, if_true, if_false, true_or, or_true, in_neg, in_m1, in_n, V1, V2, R1, R2, B1, B2, eq_self, wk_3, wk_10, wk_37, wk_42, wr_3_0, wr_3_1, wr_3_2, wr_3_3, wr_3_4, wr_3_5, wr_3_6, wr_3_7, wr_3_8, wi_3_9, wi_3_10, wi_3_11, wp_3_9, wp_3_10, wp_3_11, wr_10_0, wr_10_1, wi_10_2, wi_10_3, wp_10_2, wp_10_3, wr_37_0, wr_37_1, wr_37_2, wi_37_3, wp_37_3, wi_37_4, wp_37_4, wi_37_5, wp_37_5, wi_37_6, wp_37_6, wi_37_7, wp_37_7, wi_37_8, wp_37_8, wr_42_0, wi_42_1, wp_42_1, wk_84, wr_84_0, wr_84_1, wr_84_2, wr_84_3, wr_84_5, wr_84_13, wr_84_14, wr_84_15, wr_84_17, wr_84_18, wr_84_20, wr_84_21, wr_84_23, wr_84_24, wr_84_25, wr_84_26, wi_84_4, wp_84_4, wi_84_6, wp_84_6, wi_84_7, wp_84_7, wi_84_8, wp_84_8, wi_84_9, wp_84_9, wi_84_10, wp_84_10, wi_84_11, wp_84_11, wi_84_12, wp_84_12, wi_84_16, wp_84_16, wi_84_19, wp_84_19, wi_84_22, wp_84_22, wi_84_27, wp_84_27, wq5v, wkv, wiv, wrv, wav', e2]⟩
      · exact ⟨-1000001, by simp (disch := omega) only [q_pos, q_pos', q_lt, q_le, q_eq, q_add, q_sub, q_mul, ob_s, if_pos, if_neg, not_false_eq_true, q_m1', q_div, rm_N, l_0, l_1, l_2, l_3, l_4, l_5, l_6, l_7, l_8, l_10, l_11, l_12, l_13, l_14, l_15, l_16, l_18, l_20, l_21, l_22, l_23, l_24, l_32, l_33, l_40, l_44, l_48, l_57, l_59, l_60, l_63, l_64, l_97, l_98, l_99, l_100, l_111, l_116, l_122, l_132, l_200, l_240, l_255, l_480, l_1000, l_1452, if_true, if_false, true_or, or_true, in_neg, in_m1, in_n, V1, V2, R1, R2, B1, B2, eq_self, wk_3, wk_10, wk_37, wk_42, wr_3_0, wr_3_1, wr_3_2, wr_3_3, wr_3_4, wr_3_5, wr_3_6, wr_3_7, wr_3_8, wi_3_9, wi_3_10, wi_3_11, wp_3_9, wp_3_10, wp_3_11, wr_10_0, wr_10_1, wi_10_2, wi_10_3, wp_10_2, wp_10_3, wr_37_0, wr_37_1, wr_37_2, wi_37_3, wp_37_3, wi_37_4, wp_37_4, wi_37_5, wp_37_5, wi_37_6, wp_37_6, wi_37_7, wp_37_7, wi_37_8, wp_37_8, wr_42_0, wi_42_1, wp_42_1, wk_84, wr_84_0, wr_84_1, wr_84_2, wr_84_3, wr_84_5, wr_84_13, wr_84_14, wr_84_15, wr_84_17, wr_84_18, wr_84_20, wr_84_21, wr_84_23, wr_84_24, wr_84_25, wr_84_26, wi_84_4, wp_84_4, wi_84_6, wp_84_6, wi_84_7, wp_84_7, wi_84_8, wp_84_8, wi_84_9, wp_84_9, wi_84_10, wp_84_10, wi_84_11, wp_84_11, wi_84_12, wp_84_12, wi_84_16, wp_84_16, wi_84_19, wp_84_19, wi_84_22, wp_84_22, wi_84_27, wp_84_27, wq5v, wkv, wiv, wrv, wav'], by simp (disch := omega) only [q_pos, q_pos', q_lt, q_le, q_eq, q_add, q_sub, q_mul, ob_s, if_pos, if_neg, not_false_eq_true, q_m1', q_div, rm_N, l_0, l_1, l_2, l_3, l_4, l_5, l_6, l_7, l_8, l_10, l_11, l_12, l_13, l_14, l_15, l_16, l_18, l_20, l_21, l_22, l_23, l_24, l_32, l_33, l_40, l_44, l_48, l_57, l_59, l_60, l_63, l_64, l_97, l_98, l_99, l_100, l_111, l_116, l_122, l_132, l_200, l_240, l_255, l_480, l_1000, l_1452, if_true, if_false, true_or, or_true, in_neg, in_m1, in_n, V1, V2, R1, R2, B1, B2, eq_self, wk_3, wk_10, wk_37, wk_42, wr_3_0, wr_3_1, wr_3_2, wr_3_3, wr_3_4, wr_3_5, wr_3_6, wr_3_7, wr_3_8, wi_3_9, wi_3_10, wi_3_11, wp_3_9, wp_3_10, wp_3_11, wr_10_0, wr_10_1, wi_10_2, wi_10_3, wp_10_2, wp_10_3, wr_37_0, wr_37_1, wr_37_2, wi_37_3, wp_37_3, wi_37_4, wp_37_4, wi_37_5, wp_37_5, wi_37_6, wp_37_6, wi_37_7, wp_37_7, wi_37_8, wp_37_8, wr_42_0, wi_42_1, wp_42_1, wk_84, wr_84_0, wr_84_1, wr_84_2, wr_84_3, wr_84_5, wr_84_13, wr_84_14, wr_84_15, wr_84_17, wr_84_18, wr_84_20, wr_84_21, wr_84_23, wr_84_24, wr_84_25, wr_84_26, wi_84_4, wp_84_4, wi_84_6, wp_84_6, wi_84_7, wp_84_7, wi_84_8, wp_84_8, wi_84_9, wp_84_9, wi_84_10, wp_84_10, wi_84_11, wp_84_11, wi_84_12, wp_84_12, wi_84_16, wp_84_16, wi_84_19, wp_84_19, wi_84_22, wp_84_22, wi_84_27, wp_84_27, wq5v, wkv, wiv, wrv, wav']⟩
  · exact ⟨-1000001, by simp (disch := omega) only [q_pos, q_pos', q_lt, q_le, q_eq, q_add, q_sub, q_mul, ob_s, if_pos, if_neg, not_false_eq_true, q_m1', q_div, rm_N, l_0, l_1, l_2, l_3, l_4, l_5, l_6, l_7, l_8, l_10, l_11, l_12, l_13, l_14, l_15, l_16, l_18, l_20, l_21, l_22, l_23, l_24, l_32, l_33, l_40, l_44, l_48, l_57, l_59, l_60, l_63, l_64, l_97, l_98, l_99, l_100, l_111, l_116, l_122, l_132, l_200, l_240, l_255, l_480, l_1000, l_1452, if_true, if_false, true_or, or_true, in_neg, in_m1, in_n, V1, V2, R1, R2, B1, B2, eq_self, wk_3, wk_10, wk_37, wk_42, wr_3_0, wr_3_1, wr_3_2, wr_3_3, wr_3_4, wr_3_5, wr_3_6, wr_3_7, wr_3_8, wi_3_9, wi_3_10, wi_3_11, wp_3_9, wp_3_10, wp_3_11, wr_10_0, wr_10_1, wi_10_2, wi_10_3, wp_10_2, wp_10_3, wr_37_0, wr_37_1, wr_37_2, wi_37_3, wp_37_3, wi_37_4, wp_37_4, wi_37_5, wp_37_5, wi_37_6, wp_37_6, wi_37_7, wp_37_7, wi_37_8, wp_37_8, wr_42_0, wi_42_1, wp_42_1, h1], by simp (disch := omega) only [q_pos, q_pos', q_lt, q_le, q_eq, q_add, q_sub, q_mul, ob_s, if_pos, if_neg, not_false_eq_true, q_m1', q_div, rm_N, l_0, l_1, l_2, l_3, l_4, l_5, l_6, l_7, l_8, l_10, l_11, l_12, l_13, l_14, l_15, l_16, l_18, l_20, l_21, l_22, l_23, l_24, l_32, l_33, l_40, l_44, l_48, l_57, l_59, l_60, l_63, l_64, l_97, l_98, l_99, l_100, l_111, l_116, l_122, l_132, l_200, l_240, l_255, l_480, l_1000, l_1452, if_true, if_false, true_or, or_true, in_neg, in_m1, in_n, V1, V2, R1, R2, B1, B2, eq_self, wk_84, wr_84_0, wr_84_1, wr_84_2, wr_84_3, wr_84_5, wr_84_13, wr_84_14, wr_84_15, wr_84_17, wr_84_18, wr_84_20, wr_84_21, wr_84_23, wr_84_24, wr_84_25, wr_84_26, wi_84_4, wp_84_4, wi_84_6, wp_84_6, wi_84_7, wp_84_7, wi_84_8, wp_84_8, wi_84_9, wp_84_9, wi_84_10, wp_84_10, wi_84_11, wp_84_11, wi_84_12, wp_84_12, wi_84_16, wp_84_16, wi_84_19, wp_84_19, wi_84_22, wp_84_22, wi_84_27, wp_84_27, h2]⟩
end PAY
