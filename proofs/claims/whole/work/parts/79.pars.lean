/-! one turn of the loop of the reference, cut in two -/
def ld_S (n : Nat) (a1 a2 K x : Int32) (h : xH) : Option (Int32 × xH) := (xgI [11] h 84 11).bind fun v19 => (if xk h 84 = some 11 then f_X12_takes 84 (if v19 = (4 : Int32) then (1 : Int32) else (0 : Int32)) (1 : Int32) h else none).bind fun q21 => (if xk q21.2 84 = some 11 then f_X12_isWell 84 q21.2 else none).bind fun q22 => if q22.1 = 0 then ((if xk q22.2 84 = some 11 then f_X12_isWell 84 q22.2 else none).bind fun q23 => if q23.1 = 0 then (some (a2, q23.2)) else ((xgI [11] q23.2 84 11).bind fun v24 => if v24 = 0 then (some (a2, q23.2)) else (f_X12_load_L31 n 84 a1 a2 q23.2))) else ((xgR [11] q22.2 84 23).bind fun v25 => (xgI [11] q22.2 84 22).bind fun v26 => (xuI q22.2 v25 v26 K).bind fun h27 => (xgR [11] h27 84 24).bind fun v28 => (xgI [11] h27 84 22).bind fun v29 => (xuI h27 v28 v29 x).bind fun h30 => (xgI [11] h30 84 22).bind fun v31 => (xpI [11] h30 84 22 (v31 + (1 : Int32))).bind fun h32 => (if xk h32 84 = some 11 then f_X12_isWell 84 h32 else none).bind fun q33 => if q33.1 = 0 then (some (a2 + x, q33.2)) else ((xgI [11] q33.2 84 11).bind fun v34 => if v34 = 0 then (some (a2 + x, q33.2)) else (f_X12_load_L31 n 84 a1 (a2 + x) q33.2)))
def ld_R (n : Nat) (a1 a2 K : Int32) (h : xH) : Option (Int32 × xH) := (if xk h 84 = some 11 then f_X12_longer 84 a2 h else none).bind fun q18 => ld_S n a1 a2 K q18.1 q18.2
theorem ld_u (n : Nat) (a1 a2 : Int32) (h : xH) : f_X12_load_L31 (n + 1) 84 a1 a2 h = (xgI [11] h 84 11).bind fun v6 => (if v6 = (1 : Int32) then ((xgI [11] h 84 12).bind fun v7 => (f_X12_kindOf v7 h).bind fun q8 => some (q8.1, q8.2)) else (some ((0 : Int32), h)) : Option (Int32 × xH)).bind fun q9 => (if xk q9.2 84 = some 11 then f_X12_takes 84 (if q9.1 ≤ 0 then (0 : Int32) else (1 : Int32)) (1 : Int32) q9.2 else none).bind fun q11 => (if xk q11.2 84 = some 11 then f_X12_isWell 84 q11.2 else none).bind fun q12 => (if q12.1 = 0 then (some q12.2) else ((xgI [11] q12.2 84 22).bind fun v13 => if v13 = (12 : Int32) then ((xgI [11] q12.2 84 10).bind fun v14 => (xpI [11] q12.2 84 8 (v14 - (1 : Int32))).bind fun h15 => (xpI [11] h15 84 7 (3 : Int32)).bind fun h16 => some h16) else (some q12.2)) : Option (xH)).bind fun q17 => ld_R n a1 a2 q9.1 q17 := by
  conv => lhs; unfold f_X12_load_L31
  rfl
def RF (g g' : xS) : Prop := ∀ c i, c ≠ 62 → c ≠ 63 → ¬ (c = 66 ∧ (7 ≤ i ∧ i ≤ 12 ∨ i = 22)) → g' c i = g c i
theorem RF.rf {g : xS} : RF g g := fun _ _ _ _ _ => rfl
theorem RF.tr {g1 g2 g3 : xS} (h1 : RF g1 g2) (h2 : RF g2 g3) : RF g1 g3 := fun c i a b d => (h2 c i a b d).trans (h1 c i a b d)
theorem LF.r {g g' : xS} (h : LF g g') : RF g g' := fun c i _ _ d => h c i (by omega)
theorem RF_6 {g : xS} {i : Nat} {x : Int32} (h : 7 ≤ i ∧ i ≤ 12 ∨ i = 22) : RF g (gs g 66 i x) := fun c k _ _ h3 => gs_n (by omega)
theorem RF_2 {g : xS} {i : Nat} {x : Int32} : RF g (gs g 62 i x) := fun c k h1 _ _ => gs_n (by omega)
theorem RF_3 {g : xS} {i : Nat} {x : Int32} : RF g (gs g 63 i x) := fun c k _ h2 _ => gs_n (by omega)
def RS (g : xS) (m : Nat) (B : Nat → Nat) (P k : Nat) : Prop := TM g m B ∧ g 66 22 = nI k ∧ g 66 8 = -1 ∧ Lx g B P
section PARS
variable {L : Nat} {xs : Nat → Int32} {g : xS} {r : Nat → Option Nat} {rs : xH} {m i P Q k S K v a : Nat} {B : Nat → Nat}
theorem ld_Si (h : g 66 8 = nI Q) (hQ : Q < 1000) (n : Nat) (a1 a2 K x : Int32) : ld_S n a1 a2 K x (wH L xs g r rs) = some (a2, wH L xs g r rs) := by
  unfold ld_S
  rw [wi_84_11, ob_s, wk_84, if_pos rfl, tk_ill h hQ, ob_s]
  dsimp only
  rw [wk_84, if_pos rfl, well_n h hQ, ob_s]
  dsimp only
  rw [if_pos rfl, wk_84, if_pos rfl, well_n h hQ, ob_s]
  dsimp only
  rw [if_pos rfl]
theorem ld_Ri (h : g 66 8 = nI Q) (hQ : Q < 1000) (n : Nat) (a1 a2 K : Int32) : ld_R n a1 a2 K (wH L xs g r rs) = some (a2, wH L xs g r rs) := by
  unfold ld_R
  rw [wk_84, if_pos rfl, lon_ill h hQ, ob_s]
  dsimp only
  exact ld_Si h hQ n a1 a2 K _
theorem m_kind (hB : TB m B) (hX : Lx g B P) : (if g 66 11 = (1 : Int32) then ((xgI [11] (wH L xs g r rs) 84 12).bind fun v7 => (f_X12_kindOf v7 (wH L xs g r rs)).bind fun q8 => some (q8.1, q8.2)) else (some ((0 : Int32), (wH L xs g r rs))) : Option (Int32 × xH)) = some (nI (kL (B P)), wH L xs g r rs) := by
  obtain ⟨h10, h11, h1, -, -⟩ := hX
  have hl := tk_le B P
  by_cases e : tkT B P = 1
  · have hc : B P ≤ 255 := by
      rcases TB_le hB P with h | h
      · exact h
      · have := tk_0.mpr h; omega
    rw [h11, e, if_pos (show nI 1 = (1 : Int32) from rfl), wi_84_12, ob_s, (h1 e).1, m_kol hc, ob_s]
  · rw [h11, if_neg (show ¬ nI (tkT B P) = (1 : Int32) by rw [l_1, q_eq (by omega) (by omega)]; exact e), tk_k e] <;> rfl
theorem hd_A (hB : TB m B) (hw : g 66 8 = -1) (hX : Lx g B P) (hP : P < 1000) (a : kL (B P) = 0) (n : Nat) (x y : Int32) : f_X12_load_L31 (n + 1) 84 x y (wH L xs g r rs) = some (y, wH L xs (gs (gs g 66 8 (nI P)) 66 7 (1 : Int32)) r rs) := by
  have hq : gs (gs g 66 8 (nI P)) 66 7 (1 : Int32) 66 8 = nI P := by rw [gs_n (by omega), gs_same]
  rw [ld_u, wi_84_11, ob_s, m_kind hB hX, ob_s]
  dsimp only
  rw [wk_84, if_pos rfl, if_pos (show nI (kL (B P)) ≤ (0 : Int32) by rw [a]; decide), tk_no hw hX.1, ob_s]
  dsimp only
  rw [wk_84, if_pos rfl, well_n hq hP, ob_s]
  dsimp only
  rw [if_pos rfl, ob_s]
  exact ld_Ri hq hP n x y _
theorem hd_BC {g1 : xS} (hB : TB m B) (hk : k ≤ 12) (hw : g 66 8 = -1) (hX : Lx g B P) (hP : P < 900) (a : kL (B P) ≠ 0) (ha : f_X12_advances 84 (wH L xs g r rs) = some (wH L xs g1 r rs)) (w1 : g1 66 8 = -1) (h22 : g1 66 22 = nI k) (X1 : g1 66 10 = nI (P + 1)) (n : Nat) (x y : Int32) : f_X12_load_L31 (n + 1) 84 x y (wH L xs g r rs) = ld_R n x y (nI (kL (B P))) (if k = 12 then wH L xs (gs (gs g1 66 8 (nI P)) 66 7 (3 : Int32)) r rs else wH L xs g1 r rs) := by
  have hl := kL_le (B P)
  rw [ld_u, wi_84_11, ob_s, m_kind hB hX, ob_s]
  dsimp only
  rw [wk_84, if_pos rfl, if_neg (show ¬ nI (kL (B P)) ≤ (0 : Int32) by rw [l_0, q_le (by omega) (by omega)]; omega), tk_ye hw ha, ob_s]
  dsimp only
  rw [wk_84, if_pos rfl, well_y w1, ob_s]
  dsimp only
  rw [if_neg (by decide), wi_84_22, ob_s, h22]
  by_cases e : k = 12
  · rw [if_pos (show nI k = (12 : Int32) by rw [e]; rfl), wi_84_10, ob_s, X1, l_1, q_sub (by omega), Nat.add_sub_cancel, wp_84_8, ob_s, wp_84_7, ob_s, ob_s, if_pos e]
  · rw [if_neg (show ¬ nI k = (12 : Int32) by rw [l_12, q_eq (by omega) (by omega)]; exact e), ob_s, if_neg e]
theorem m_bad {f : Nat} (hB : TB m B) (hP : P ≤ m) (hk : k ≤ 12) (hS : S ≤ 480) (hC : RS g m B P k) (hR : RR B P k S f Q) (hf : f ≠ 0) (n : Nat) (x : Int32) : ∃ g', f_X12_load_L31 (n + 1) 84 x (nI S) (wH L xs g r rs) = some (nI S, wH L xs g' r rs) ∧ g' 66 7 = nI f ∧ g' 66 8 = nI Q ∧ RF g g' := by
  obtain ⟨hM, h22, hw, hX⟩ := hC
  have hm := hB.1
  rcases hR with ⟨a, rfl, rfl⟩ | ⟨a, hR⟩
  · exact ⟨_, hd_A hB hw hX (by omega) a n x _, gs_same, by rw [gs_n (by omega), gs_same], RF.tr (RF_6 (by omega)) (RF_6 (by omega))⟩
  · have t1 := tk_1 a
    obtain ⟨-, h9⟩ := hX.2.2.1 t1
    obtain ⟨g1, b1, b2, b3⟩ := m_adv (L := L) (xs := xs) (r := r) (rs := rs) hB hM (show P + 1 < 100 by omega) h9
    have w1 : g1 66 8 = -1 := (b3 _ _ (by omega)).trans hw
    have M1 := TM_f hM b3
    have k22 : g1 66 22 = nI k := (b3 _ _ (by omega)).trans h22
    have hh := hd_BC (L := L) (xs := xs) (r := r) (rs := rs) hB hk hw hX (by omega) a b1 w1 k22 b2.1 n x (nI S)
    have tl := tk_le B (P + 1)
    rcases hR with ⟨b, rfl, rfl⟩ | ⟨b, hR⟩
    · have hq : gs (gs g1 66 8 (nI Q)) 66 7 (3 : Int32) 66 8 = nI Q := by rw [gs_n (by omega), gs_same]
      refine ⟨gs (gs g1 66 8 (nI Q)) 66 7 (3 : Int32), ?_, gs_same, hq, RF.tr b3.r (RF.tr (RF_6 (by omega)) (RF_6 (by omega)))⟩
      rw [hh, if_pos (by omega)]
      exact ld_Ri hq (by omega) n x _ _
    · rw [if_neg (by omega)] at hh
      have hq : ∀ y, gs (gs g1 66 8 (nI (P + 1))) 66 7 y 66 8 = nI (P + 1) := fun y => by rw [gs_n (by omega), gs_same]
      have hF : ∀ z y, RF g (gs (gs g1 66 8 z) 66 7 y) := fun z y => RF.tr b3.r (RF.tr (RF_6 (by omega)) (RF_6 (by omega)))
      rcases hR with ⟨c, rfl, rfl⟩ | ⟨c, hR⟩
      · refine ⟨_, ?_, gs_same, hq _, hF _ _⟩
        rw [hh]
        unfold ld_R
        rw [wk_84, if_pos rfl, lon_no w1 b2.1 b2.2.1 tl (fun e => c (tk_2.mp e)), ob_s]
        exact ld_Si (hq _) (by omega) n x _ _ _
      · have t2 := tk_2.mpr c
        obtain ⟨v1, v2⟩ := b2.2.2.2.1 t2
        have h11 : g1 66 11 = nI 2 := by rw [b2.2.1, t2]
        have hv := vN_le c
        rcases hR with ⟨d, rfl, rfl⟩ | ⟨d, hR⟩
        · refine ⟨_, ?_, gs_same, hq _, hF _ _⟩
          rw [hh]
          unfold ld_R
          rw [wk_84, if_pos rfl, lon_0 w1 b2.1 h11 (by rw [v1, d]), ob_s]
          exact ld_Si (hq _) (by omega) n x _ _ _
        · rcases hR with ⟨e, rfl, rfl⟩ | ⟨e, hR⟩
          · refine ⟨_, ?_, gs_same, hq _, hF _ _⟩
            rw [hh]
            unfold ld_R
            rw [wk_84, if_pos rfl, lon_4 w1 b2.1 h11 v1 hv d hS e, ob_s]
            exact ld_Si (hq _) (by omega) n x _ _ _
          · have hd := dN_b B (P + 1)
            obtain ⟨g2, c1, c2, c3⟩ := m_adv (L := L) (xs := xs) (r := r) (rs := rs) hB M1 (show P + 1 + dN B (P + 1) < 100 by omega) v2
            have w2 : g2 66 8 = -1 := (c3 _ _ (by omega)).trans w1
            rcases hR with ⟨h, rfl, rfl⟩ | ⟨h, rfl, rfl⟩
            · have tl2 := tk_le B (P + 1 + dN B (P + 1))
              have n4 : ¬ nI (tkT B (P + 1 + dN B (P + 1))) = (4 : Int32) := by
                rw [l_4, q_eq (by omega) (by omega)]
                exact fun z => h (tk_4.mp z)
              have hq2 : gs (gs g2 66 8 (nI (P + 1 + dN B (P + 1)))) 66 7 (1 : Int32) 66 8 = nI (P + 1 + dN B (P + 1)) := by rw [gs_n (by omega), gs_same]
              refine ⟨_, ?_, gs_same, hq2, RF.tr b3.r (RF.tr c3.r (RF.tr (RF_6 (by omega)) (RF_6 (by omega))))⟩
              rw [hh]
              unfold ld_R
              rw [wk_84, if_pos rfl, lon_y w1 h11 v1 hv d hS e c1, ob_s]
              unfold ld_S
              dsimp only
              rw [wi_84_11, ob_s, c2.2.1, if_neg n4, wk_84, if_pos rfl, tk_no w2 c2.1, ob_s]
              dsimp only
              rw [wk_84, if_pos rfl, well_n hq2 (by omega), ob_s]
              dsimp only
              rw [if_pos rfl, wk_84, if_pos rfl, well_n hq2 (by omega), ob_s]
              dsimp only
              rw [if_pos rfl] <;> rfl
            · exact absurd rfl hf
theorem m_good (hB : TB m B) (hP : P ≤ m) (hk : k ≤ 12) (hS : S ≤ 480) (hC : RS g m B P k) (hR : RR B P k S 0 Q) (n : Nat) (x : Int32) : ∃ g', f_X12_load_L31 (n + 1) 84 x (nI S) (wH L xs g r rs) = (if B Q = 1000 then some (nI (S + vN B (P + 1)), wH L xs g' r rs) else f_X12_load_L31 n 84 x (nI (S + vN B (P + 1))) (wH L xs g' r rs)) ∧ RS g' m B Q (k + 1) ∧ g' 62 k = nI (kL (B P)) ∧ g' 63 k = nI (vN B (P + 1)) ∧ (∀ i, i ≠ k → g' 62 i = g 62 i ∧ g' 63 i = g 63 i) ∧ g' 66 7 = g 66 7 ∧ RF g g' := by
  obtain ⟨hM, h22, hw, hX⟩ := hC
  have hm := hB.1
  rcases hR with ⟨a, hf, rfl⟩ | ⟨a, hR⟩
  · omega
  · rcases hR with ⟨b, hf, rfl⟩ | ⟨b, hR⟩
    · omega
    · rcases hR with ⟨c, hf, rfl⟩ | ⟨c, hR⟩
      · omega
      · rcases hR with ⟨d, hf, rfl⟩ | ⟨d, hR⟩
        · omega
        · rcases hR with ⟨e, hf, rfl⟩ | ⟨e, hR⟩
          · omega
          · rcases hR with ⟨h, hf, rfl⟩ | ⟨h, hf, rfl⟩
            · omega
            · have t1 := tk_1 a
              obtain ⟨-, h9⟩ := hX.2.2.1 t1
              obtain ⟨g1, b1, b2, b3⟩ := m_adv (L := L) (xs := xs) (r := r) (rs := rs) hB hM (show P + 1 < 100 by omega) h9
              have w1 : g1 66 8 = -1 := (b3 _ _ (by omega)).trans hw
              have M1 := TM_f hM b3
              have k22 : g1 66 22 = nI k := (b3 _ _ (by omega)).trans h22
              have hh := hd_BC (L := L) (xs := xs) (r := r) (rs := rs) hB hk hw hX (by omega) a b1 w1 k22 b2.1 n x (nI S)
              rw [if_neg (by omega)] at hh
              have t2 := tk_2.mpr c
              obtain ⟨v1, v2⟩ := b2.2.2.2.1 t2
              have h11 : g1 66 11 = nI 2 := by rw [b2.2.1, t2]
              have hv := vN_le c
              have hd := dN_b B (P + 1)
              obtain ⟨g2, c1, c2, c3⟩ := m_adv (L := L) (xs := xs) (r := r) (rs := rs) hB M1 (show P + 1 + dN B (P + 1) < 100 by omega) v2
              have w2 : g2 66 8 = -1 := (c3 _ _ (by omega)).trans w1
              have M2 := TM_f M1 c3
              have t4 := tk_4.mpr h
              have k222 : g2 66 22 = nI k := (c3 _ _ (by omega)).trans k22
              obtain ⟨g3, d1, d2, d3⟩ := m_adv (L := L) (xs := xs) (r := r) (rs := rs) hB M2 (show P + 1 + dN B (P + 1) + 1 < 100 by omega) (c2.2.2.2.2 t4)
              have w3 : g3 66 8 = -1 := (d3 _ _ (by omega)).trans w2
              have M3 := TM_f M2 d3
              have k223 : g3 66 22 = nI k := (d3 _ _ (by omega)).trans k222
              have F3 : ∀ c i, ¬ (c = 66 ∧ 9 ≤ i ∧ i ≤ 12) → g3 c i = g c i := LF.tr b3 (LF.tr c3 d3)
              have tl3 := tk_le B (P + 1 + dN B (P + 1) + 1)
              have w4 : gs (gs (gs g3 62 k (nI (kL (B P)))) 63 k (nI (vN B (P + 1)))) 66 22 (nI (k + 1)) 66 8 = -1 := by rw [gs_n (by omega), gs_n (by omega), gs_n (by omega)]; exact w3
              refine ⟨gs (gs (gs g3 62 k (nI (kL (B P)))) 63 k (nI (vN B (P + 1)))) 66 22 (nI (k + 1)), ?_, ⟨⟨?_, fun i hi => ?_⟩, gs_same, w4, ?_⟩, ?_, ?_, fun i hi => ⟨?_, ?_⟩, ?_, RF.tr b3.r (RF.tr c3.r (RF.tr d3.r (RF.tr RF_2 (RF.tr RF_3 (RF_6 (by omega))))))⟩
              · rw [hh]
                unfold ld_R
                rw [wk_84, if_pos rfl, lon_y w1 h11 v1 hv d hS e c1, ob_s]
                unfold ld_S
                dsimp only
                rw [wi_84_11, ob_s, c2.2.1, t4, if_pos (show nI 4 = (4 : Int32) from rfl), wk_84, if_pos rfl, tk_ye w2 d1, ob_s]
                dsimp only
                rw [wk_84, if_pos rfl, well_y w3, ob_s]
                dsimp only
                rw [if_neg (by decide), wr_84_23, ob_s, wi_84_22, ob_s, k223, wu_97' b, ob_s, wr_84_24, ob_s, wi_84_22, ob_s, gs_n (by omega), k223, wu_98' b, ob_s, wi_84_22, ob_s, gs_n (by omega), gs_n (by omega), k223, l_1, q_add, wp_84_22, ob_s, wk_84, if_pos rfl, well_y w4, ob_s]
                dsimp only
                rw [q_add, if_neg (by decide), wi_84_11, ob_s, gs_n (by omega), gs_n (by omega), gs_n (by omega), d2.2.1]
                by_cases z : B (P + 1 + dN B (P + 1) + 1) = 1000
                · rw [if_pos z, tk_0.mpr z, if_pos (show nI 0 = (0 : Int32) from rfl)]
                · rw [if_neg z, if_neg (show ¬ nI (tkT B (P + 1 + dN B (P + 1) + 1)) = (0 : Int32) by rw [l_0, q_eq (by omega) (by omega)]; exact fun w => z (tk_0.mp w))]
              · rw [gs_n (by omega), gs_n (by omega), gs_n (by omega)]; exact M3.1
              · rw [gs_n (by omega), gs_n (by omega), gs_n (by omega)]; exact M3.2 i hi
              · obtain ⟨x1, x2, x3, x4, x5⟩ := d2
                have G : ∀ t, t ≠ 22 → gs (gs (gs g3 62 k (nI (kL (B P)))) 63 k (nI (vN B (P + 1)))) 66 22 (nI (k + 1)) 66 t = g3 66 t := fun t ht => by rw [gs_n (by omega), gs_n (by omega), gs_n (by omega)]
                unfold Lx
                rw [G 9 (by omega), G 10 (by omega), G 11 (by omega), G 12 (by omega)]
                exact ⟨x1, x2, x3, x4, x5⟩
              · rw [gs_n (by omega), gs_n (by omega), gs_same]
              · rw [gs_n (by omega), gs_same]
              · rw [gs_n (by omega), gs_n (by omega), gs_n (by omega)]; exact F3 _ _ (by omega)
              · rw [gs_n (by omega), gs_n (by omega), gs_n (by omega)]; exact F3 _ _ (by omega)
              · rw [gs_n (by omega), gs_n (by omega), gs_n (by omega)]; exact F3 _ _ (by omega)
end PARS
