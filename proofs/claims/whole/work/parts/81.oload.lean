theorem Kp_b {o h w n : Nat} {p : Nat → Bool} {g g0 g1 : xS} (hk : Kp o h w n p g0 g1) (e : ∀ c k, (c = 5 ∨ (c = 1 ∧ 1 ≤ k ∧ k < 13) ∨ (21 ≤ c ∧ c < 33)) → g0 c k = g c k) : Kp o h w n p g g1 := by
  obtain ⟨a1, a2, a3, a4, a5⟩ := hk
  exact ⟨a1, a2, a3, a4, fun c k hc => (a5 c k hc).trans (e c k (by omega))⟩
theorem tapB {g : xS} (h : rTap g) : ∃ (m : Nat) (B : Nat → Nat), TB m B ∧ TC g m B ∧ TM g m B := by
  obtain ⟨m, h1, h2, h3, h4, h5⟩ := h
  have key : ∀ i : Nat, ∃ c : Nat, (i < m → c ≤ 255 ∧ g 6 i = nI c) ∧ (m ≤ i → c = 1000) := fun i => by
    by_cases e : i < m
    · obtain ⟨c, c1, c2⟩ := h5 i e
      exact ⟨c, fun _ => ⟨c1, c2⟩, fun z => by omega⟩
    · exact ⟨1000, fun z => by omega, fun _ => rfl⟩
  obtain ⟨B, hB⟩ := Classical.axiomOfChoice key
  exact ⟨m, B, ⟨h1, fun i hi => ((hB i).1 hi).1, fun i hi => (hB i).2 hi⟩, ⟨h2, fun i hi => ((hB i).1 hi).2⟩, ⟨h3, fun i hi => by rw [← h4 i (by omega)]; exact ((hB i).1 hi).2⟩⟩
section OLOAD
variable {L : Nat} {xs : Nat → Int32} {g : xS} {r : Nat → Option Nat} {rs : xH} {v m : Nat} {B : Nat → Nat}
theorem e_readT {z : Int32 × Int32 × xH} (h : ((f_X7_readRun 37 (wH L xs (gs (gs (gs g 46 4 (nI 0)) 46 5 (nI 0)) 46 6 (nI 0)) r rs)).bind fun q => f_X7_readTape_L22 xN 37 q.1 (nI 0) q.2) = some z) : f_X7_readTape 37 (wH L xs g r rs) = some (z.1, z.2.2) := by
  unfold f_X7_readTape
  rw [l_0, wp_37_4, ob_s, wp_37_5, ob_s, wp_37_6, ob_s, wk_37, if_pos rfl]
  exact ob_a h
theorem e_empT : f_X7_emptyTape 37 (wH L xs g r rs) = some (wH L xs (gs g 46 3 (nI 0)) r rs) := by
  unfold f_X7_emptyTape
  rw [l_0, wp_37_3, ob_s]
theorem m_pre (hB : TB m B) (hM : TM g m B) : ∃ g1, f_X12_advances 84 (wH L xs (gs (gs (gs g 66 9 (nI 0)) 66 8 (-1)) 66 22 (nI 0)) r rs) = some (wH L xs g1 r rs) ∧ RS g1 m B 0 0 ∧ RF g g1 ∧ g1 66 7 = g 66 7 := by
  have M0 : TM (gs (gs (gs g 66 9 (nI 0)) 66 8 (-1)) 66 22 (nI 0)) m B := ⟨by rw [gs_n (by omega), gs_n (by omega), gs_n (by omega)]; exact hM.1, fun i hi => by rw [gs_n (by omega), gs_n (by omega), gs_n (by omega)]; exact hM.2 i hi⟩
  obtain ⟨g1, a1, a2, a3⟩ := m_adv (L := L) (xs := xs) (r := r) (rs := rs) (P := 0) hB M0 (by omega) (by rw [gs_n (by omega), gs_n (by omega), gs_same])
  refine ⟨g1, a1, ⟨TM_f M0 a3, (a3 _ _ (by omega)).trans gs_same, (a3 _ _ (by omega)).trans (by rw [gs_n (by omega), gs_same]), a2⟩, RF.tr (RF_6 (by omega)) (RF.tr (RF_6 (by omega)) (RF.tr (RF_6 (by omega)) a3.r)), ?_⟩
  rw [a3 _ _ (by omega), gs_n (by omega), gs_n (by omega), gs_n (by omega)]
theorem o_load (R : Rel g r rs) (x : Int32) : Op L xs g r rs (f_X11_load 3 x) (f_X12_load 84 x) := by
  rcases sV x with ⟨v, hv, rfl⟩ | ⟨h1, h2⟩
  · obtain ⟨m, B, hB, hT, hM⟩ := tapB R.tap
    have hm := hB.1
    have n1 : ¬ nI 1 = (0 : Int32) := by decide
    have F0 : CF g (gs (gs (gs g 46 4 (nI 0)) 46 5 (nI 0)) 46 6 (nI 0)) := CF.tr (CF_4 (by omega)) (CF.tr (CF_4 (by omega)) (CF_4 (by omega)))
    have C0 : CS (gs (gs (gs g 46 4 (nI 0)) 46 5 (nI 0)) 46 6 (nI 0)) m B 0 0 0 := ⟨TC_f hT F0, by rw [gs_n (by omega), gs_n (by omega), gs_same], by rw [gs_n (by omega), gs_same], gs_same⟩
    rcases parse (L := L) (xs := xs) (r := r) (rs := rs) hB 13 0 0 0 (fun _ => 0) (fun _ => 0) _ xN (by omega) (by unfold xN; omega) (by omega) (by omega) rfl (by omega) C0 (fun i hi => by omega) with ⟨f, Q, gc, y, f1, f2, f3, eC, e4, e5, eR⟩ | ⟨k, kd, ln, gc, y, k1, k2, eC, e3, e4, e5, eR⟩
    · have hA := e_readT eC
      have Fc : CF g gc := CF.tr F0 e5
      have M1 : TM (gs (gs gc 46 3 (nI 0)) 0 10 (nI f)) m B := ⟨by rw [gs_n (by omega), gs_n (by omega), Fc _ _ (by omega) (by omega) (by omega)]; exact hM.1, fun i hi => by rw [gs_n (by omega), gs_n (by omega), Fc _ _ (by omega) (by omega) (by omega)]; exact hM.2 i hi⟩
      obtain ⟨G1, p1, p2, p3, p4⟩ := m_pre (L := L) (xs := xs) (r := r) (rs := rs) hB M1
      obtain ⟨gr, y2, d1, d2, d3, d4⟩ := eR G1 r rs xN (nI v) (by unfold xN; omega) p2
      have F : ∀ c i, ¬ (c = 7 ∨ c = 8 ∨ (c = 46 ∧ 3 ≤ i) ∨ (c = 0 ∧ i = 10) ∨ c = 62 ∨ c = 63 ∨ (c = 66 ∧ (6 ≤ i ∧ i ≤ 12 ∨ i = 22))) → gs gr 66 6 (nI 0) c i = g c i := fun c i hc => by
        rw [gs_n (by omega), d4 _ _ (by omega) (by omega) (by omega), p3 _ _ (by omega) (by omega) (by omega), gs_n (by omega), gs_n (by omega), Fc _ _ (by omega) (by omega) (by omega)]
      refine ⟨-1000100 - nI Q, gs (gs gc 46 3 (nI 0)) 0 10 (nI f), r, rs, gs gr 66 6 (nI 0), ?_, ?_, ⟨rRow_c R.row (fun c k hc => F c k (by omega)), ⟨0, by omega, ?_, gs_same, fun i hi => ?_, fun i hi => by omega⟩, ⟨?_, ?_⟩, rVec_c R.vec (fun c k hc => F c k (by omega)), rImg_c R.img (fun c k hc => F c k (by omega)), rCh_c R.ch (fun k => F _ k (by omega)), rTr_c R.tr (fun c k hc => F c k (by omega)), rRun_c R.run (fun c k hc => F c k (by omega)), rHis_c R.his (fun c k hc => F c k (by omega))⟩, by omega, by omega⟩
      · unfold f_X11_load
        rw [V1 hv, ob_s]
        dsimp only
        rw [if_neg n1, wr_3_6, ob_s, wk_37, if_pos rfl, hA, ob_s]
        dsimp only
        rw [wr_3_6, ob_s, wk_37, if_pos rfl, e_empT, ob_s, if_neg (i_nz (by omega) (by omega)), wp_3_10, ob_s, wr_3_6, ob_s, wi_37_4, ob_s, gs_n (by omega), gs_n (by omega), e4]
      · unfold f_X12_load
        rw [V2 hv, ob_s]
        dsimp only
        rw [if_neg n1, l_0, wp_84_9, ob_s, wp_84_8, ob_s, wp_84_22, ob_s, wk_84, if_pos rfl, p1, ob_s, d1, ob_s]
        dsimp only
        rw [wp_84_6, ob_s, wk_84, if_pos rfl, well_n (Q := Q) (by rw [gs_n (by omega)]; exact d3) (by omega), ob_s]
        dsimp only
        rw [if_pos (show (0 : Int32) = nI 0 from rfl), wi_84_8, ob_s, gs_n (by omega), d3]
      · rw [gs_n (by omega), d4 _ _ (by omega) (by omega) (by omega), p3 _ _ (by omega) (by omega) (by omega), gs_n (by omega), gs_same]
      · rw [F 6 i (by omega), F 54 i (by omega)]
        obtain ⟨m', t1, t2, t3, t4, t5⟩ := R.tap
        exact t4 i hi
      · rw [gs_n (by omega), d4 _ _ (by omega) (by omega) (by omega), p3 _ _ (by omega) (by omega) (by omega), gs_same, gs_n (by omega), d2]
      · rw [F 0 11 (by omega), F 66 4 (by omega)]
        exact R.fs.2
    · have hA := e_readT eC
      have Fc : CF g gc := CF.tr F0 e5
      have hj : 13 + v < 25 := by omega
      obtain ⟨n, p, hc, hmv⟩ := R.vec v hv
      obtain ⟨o, h, hh⟩ := R.his
      have FB : ∀ c i, ¬ (c = 7 ∨ c = 8 ∨ (c = 46 ∧ 3 ≤ i) ∨ (c = 0 ∧ i = 9)) → gs (gs gc 46 3 (nI 0)) 0 9 (nI k) c i = g c i := fun c i hc => by
        rw [gs_n (by omega), gs_n (by omega), Fc _ _ (by omega) (by omega) (by omega)]
      have b9 : gs (gs gc 46 3 (nI 0)) 0 9 (nI k) 0 9 = nI k := gs_same
      have b3 : gs (gs gc 46 3 (nI 0)) 0 9 (nI k) 46 3 = nI 0 := by rw [gs_n (by omega), gs_same]
      have b7 : ∀ i, i < k → gs (gs gc 46 3 (nI 0)) 0 9 (nI k) 7 i = nI (kd i) ∧ gs (gs gc 46 3 (nI 0)) 0 9 (nI k) 8 i = nI (ln i) ∧ 1 ≤ kd i ∧ kd i ≤ 5 ∧ ln i ≤ 99 := fun i hi => by
        rw [gs_n (by omega), gs_n (by omega), gs_n (by omega), gs_n (by omega)]
        exact e4 i hi
      obtain ⟨r1, t1, t2, -⟩ := tko_L (L := L) (xs := xs) (rs := rs) k1 b9 b7 xN 0 12 r (by omega) (by unfold xN; omega)
      rw [Nat.min_eq_left (Nat.zero_le k), List.range_zero, List.map_nil, List.append_nil] at t1
      have rL : (rs ++ (List.range k).map (rO kd ln)).length ≤ rs.length + 12 := by simp; omega
      have rZ : xz (rs ++ (List.range k).map (rO kd ln)) ≤ xz rs + 600 := by rw [rO_z]; omega
      have rG : ∀ i, i < k → (rs ++ (List.range k).map (rO kd ln))[rs.length + i]? = some (rO kd ln i) := fun i hi => rO_get hi
      generalize rs ++ (List.range k).map (rO kd ln) = rs1 at t1 rL rZ rG
      have hlA : ∀ Y, f_X11_takeOverRuns 3 (wH L xs (gs gc 46 3 (nI 0)) r rs) = some Y ↔ Y = wH L xs (gs (gs gc 46 3 (nI 0)) 0 9 (nI k)) r1 rs1 := fun Y => by
        unfold f_X11_takeOverRuns
        rw [wr_3_6, ob_s, wi_37_5, ob_s, gs_n (by omega), e3, wp_3_9, ob_s, l_0, t1, ob_s]
        constructor
        · intro z; cases z; rfl
        · intro z; rw [z]
      have hlB := (hlA _).mpr rfl
      generalize gs (gs gc 46 3 (nI 0)) 0 9 (nI k) = gb at FB b9 b3 b7 hlB t1 hlA
      obtain ⟨gd, kk1, kk2, kk3⟩ := e_keep (L := L) (xs := xs) (r := r1) (rs := rs1) hv hh.1 hh.2.1 (by rw [FB _ _ (by omega)]; exact hh.2.2.1) (by rw [FB _ _ (by omega)]; exact hh.2.2.2.1) (vOK_eq hc (FB _ _ (by omega)) (fun b _ => FB _ _ (by omega)))
      obtain ⟨ge, c1, c2, c3⟩ := e_clearTo (L := L) (xs := xs) (r := r1) (rs := rs1) (g := gd) hj (show 0 ≤ 480 by omega)
      have c4 := vFr_q c3
      obtain ⟨gf, l1, l2, l3⟩ := ldr_L (L := L) (xs := xs) (r := r1) (rs := rs1) (A := rs.length) hj k1 k2 (fun i hi => ⟨t2 i (by omega) hi, rG i hi, (e4 i hi).2.2⟩) xN 0 k _ ge (by omega) (by unfold xN; omega) (by rw [c4 _ _ (by omega) (by omega), kk3 _ _ (by omega) (by omega) (by omega) (by omega)]; exact b9) (show vOK ge (13 + v) (fb_sm ln 0) (fun _ => false) from c2)
      have a4 := vFr_q (vFr.trans c3 l3)
      have FA : ∀ c i, ¬ (c = 7 ∨ c = 8 ∨ (c = 46 ∧ 3 ≤ i) ∨ (c = 0 ∧ i = 9) ∨ c = 47 ∨ c = 5 ∨ (c = 1 ∧ 1 ≤ i ∧ i < 13) ∨ (21 ≤ c ∧ c < 33) ∨ (c = 1 ∧ i = 13 + v) ∨ c = 33 + v) → gf c i = g c i := fun c i hc => by
        rw [a4 _ _ (by omega) (by omega), kk3 _ _ (by omega) (by omega) (by omega) (by omega), FB _ _ (by omega)]
      have M1 : TM gf m B := ⟨by rw [FA _ _ (by omega)]; exact hM.1, fun i hi => by rw [FA _ _ (by omega)]; exact hM.2 i hi⟩
      obtain ⟨G1, p1, p2, p3, p4⟩ := m_pre (L := L) (xs := xs) (r := r1) (rs := rs1) hB M1
      obtain ⟨gr, d1, d2, d3, d4, d5, d6⟩ := eR G1 r1 rs1 xN (nI v) (by unfold xN; omega) p2 (fun i hi => by omega)
      have Fg : ∀ c i, ¬ (c = 62 ∨ c = 63 ∨ (c = 66 ∧ (6 ≤ i ∧ i ≤ 12 ∨ i = 22))) → gs gr 66 6 (nI 0) c i = gf c i := fun c i hc => by
        rw [gs_n (by omega), d6 _ _ (by omega) (by omega) (by omega), p3 _ _ (by omega) (by omega) (by omega)]
      have w8 : gs gr 66 6 (nI 0) 66 8 = -1 := by rw [gs_n (by omega)]; exact d2
      have w7 : gs gr 66 6 (nI 0) 66 7 = g 66 7 := by rw [gs_n (by omega), d3, p4, FA _ _ (by omega)]
      have w22 : gs gr 66 6 (nI 0) 66 22 = nI k := by rw [gs_n (by omega)]; exact d4
      have w6 : gs gr 66 6 (nI 0) 66 6 = nI 0 := gs_same
      have w62 : ∀ i, i < k → gs gr 66 6 (nI 0) 62 i = nI (kd i) ∧ gs gr 66 6 (nI 0) 63 i = nI (ln i) := fun i hi => by
        rw [gs_n (by omega), gs_n (by omega)]
        exact d5 i hi
      have g16 : gs gr 66 6 (nI 0) 66 16 = nI h := by rw [Fg _ _ (by omega), FA _ _ (by omega)]; exact hh.2.2.2.2.1
      obtain ⟨gg, egg⟩ : ∃ gg, gg = gs gr 66 6 (nI 0) := ⟨_, rfl⟩
      rw [← egg] at Fg w8 w7 w22 w6 w62 g16
      obtain ⟨gh, m0, n2, n3⟩ := m_notes (L := L) (xs := xs) (r := r1) (rs := rs1) hh.2.1 g16
      obtain ⟨gi, m1, m2, m3⟩ := m_empties (L := L) (xs := xs) (r := r1) (rs := rs1) (g := gh) (n := 0) hv (by omega)
      have m4 := mFr_q m3
      have Fi : ∀ c i, ¬ (c = 57 ∨ (c = 66 ∧ i = 16) ∨ (c = 55 ∧ 33 * v ≤ i ∧ i < 33 * v + 33)) → gi c i = gg c i := fun c i hc => by
        rw [m4 _ _ (by omega), n3 _ _ (by omega) (by omega)]
      have i22 : gi 66 22 = nI k := by rw [Fi _ _ (by omega)]; exact w22
      obtain ⟨gk, u1, u2, u3, u4⟩ := mld_L (L := L) (xs := xs) (r := r1) (rs := rs1) hv k1 k2 (fun i hi => (e4 i hi).2.2) (nI (fb_sm ln k)) xN 0 k (fun _ => false) (gs gi 66 19 (nI k)) (by omega) (by unfold xN; omega) gs_same (fun t a b => by rw [gs_n (by omega), gs_n (by omega), Fi _ _ (by omega), Fi _ _ (by omega)]; exact w62 t b) (show mOK (gs gi 66 19 (nI k)) 55 (33 * v) (fb_sm ln 0) (fun _ => false) from mOK_eq m2 (fun t ht => gs_n (by omega)))
      have FK : ∀ c i, ¬ (c = 57 ∨ (c = 66 ∧ (i = 16 ∨ i = 19)) ∨ (c = 55 ∧ 33 * v ≤ i ∧ i < 33 * v + 33) ∨ c = 60 ∨ c = 61) → gk c i = gg c i := fun c i hc => by
        rw [u4 _ _ (by omega) (by omega) (by omega), gs_n (by omega), Fi _ _ (by omega)]
      have FT : ∀ c i, ¬ (c = 7 ∨ c = 8 ∨ (c = 46 ∧ 3 ≤ i) ∨ (c = 0 ∧ i = 9) ∨ c = 47 ∨ c = 5 ∨ (c = 1 ∧ 1 ≤ i ∧ i < 13) ∨ (21 ≤ c ∧ c < 33) ∨ (c = 1 ∧ i = 13 + v) ∨ c = 33 + v ∨ c = 62 ∨ c = 63 ∨ (c = 66 ∧ (6 ≤ i ∧ i ≤ 12 ∨ i = 22 ∨ i = 16 ∨ i = 19)) ∨ c = 57 ∨ (c = 55 ∧ 33 * v ≤ i ∧ i < 33 * v + 33) ∨ c = 60 ∨ c = 61) → gk c i = g c i := fun c i hc => by
        rw [FK _ _ (by omega), Fg _ _ (by omega), FA _ _ (by omega)]
      have k9 : gk 0 9 = nI k := by rw [FK _ _ (by omega), Fg _ _ (by omega), a4 _ _ (by omega) (by omega), kk3 _ _ (by omega) (by omega) (by omega) (by omega)]; exact b9
      have k46 : gk 46 3 = nI 0 := by
        rw [FK _ _ (by omega), Fg _ _ (by omega), a4 _ _ (by omega) (by omega), kk3 _ _ (by omega) (by omega) (by omega) (by omega)]
        exact b3
      refine ⟨nI (fb_sm ln k), gf, r1, rs1, gk, ?_, ?_, act_fin R hv hh hmv (Kp_c (Kp_b kk2 (fun c k hc => FB c k (by omega))) (fun c k hc => by rw [FK _ _ (by omega), Fg _ _ (by omega), a4 _ _ (by omega) (by omega)])) (Nt_c (Nt_b n2 (fun c k hc => by rw [Fg _ _ (by omega), FA _ _ (by omega)])) (fun c k hc => by rw [u4 _ _ (by omega) (by omega) (by omega), gs_n (by omega), m4 _ _ (by omega)])) (vOK_eq l2 (by rw [FK _ _ (by omega), Fg _ _ (by omega)]) (fun b _ => by rw [FK _ _ (by omega), Fg _ _ (by omega)])) u2 ⟨0, by omega, k46, by rw [FK _ _ (by omega)]; exact w6, fun i hi => ?_, fun i hi => by omega⟩ ⟨?_, ?_⟩ ⟨k, k1, k9, ?_, fun i hi => ⟨rs.length + i, kd i, ln i, t2 i (by omega) hi, (e4 i hi).2.2.1, (e4 i hi).2.2.2.1, (e4 i hi).2.2.2.2, rG i hi, (u3 i (by omega) hi).1, (u3 i (by omega) hi).2⟩⟩ (fun c i hc => FT c i (by omega)), rL, rZ⟩
      · unfold f_X11_load
        rw [V1 hv, ob_s]
        dsimp only
        rw [if_neg n1, wr_3_6, ob_s, wk_37, if_pos rfl, hA, ob_s]
        dsimp only
        rw [wr_3_6, ob_s, wk_37, if_pos rfl, e_empT, ob_s, if_pos (show nI 0 = (0 : Int32) from rfl), wk_3, if_pos rfl, hlB, ob_s, wk_3, if_pos rfl, kk1, ob_s]
        dsimp only
        rw [wkv hj, if_pos rfl, l_0, c1, ob_s, l1, ob_s]
        dsimp only
        rw [wiv hj, ob_s, l2.2.1]
      · unfold f_X12_load
        rw [V2 hv, ob_s]
        dsimp only
        rw [if_neg n1, l_0, wp_84_9, ob_s, wp_84_8, ob_s, wp_84_22, ob_s, wk_84, if_pos rfl, p1, ob_s, d1, ob_s]
        dsimp only
        rw [wp_84_6, ob_s, ← egg, wk_84, if_pos rfl, well_y w8, ob_s]
        dsimp only
        rw [if_neg (by decide), wk_84, if_pos rfl, m0, ob_s, wk_84, if_pos rfl, m1, ob_s, wi_84_22, ob_s, i22, wp_84_19, ob_s, u1, ob_s]
      · rw [FT 6 i (by omega), FT 54 i (by omega)]
        obtain ⟨m', t1, t2, t3, t4, t5⟩ := R.tap
        exact t4 i hi
      · rw [FT 0 10 (by omega), FK 66 7 (by omega), w7]
        exact R.fs.1
      · rw [FT 0 11 (by omega), FT 66 4 (by omega)]
        exact R.fs.2
      · rw [u4 _ _ (by omega) (by omega) (by omega), gs_same]
  · refine RO.op ?_ R
    unfold RO f_X11_load f_X12_load
    exact ⟨-1000001, by simp (disch := omega) only [q_pos, q_pos', q_lt, q_le, q_eq, q_add, q_sub, q_mul, ob_s, if_pos, if_neg, not_false_eq_true, q_m1', q_div, rm_N, l_0, l_1, l_2, l_3, l_4, l_5, l_6, l_7, l_8, l_10, l_11, l_12, l_13, l_14, l_15, l_16, l_18, l_20, l_21, l_22, l_23, l_24, l_32, l_33, l_40, l_44, l_48, l_57, l_59, l_60, l_63, l_64, l_97, l_98, l_99, l_100, l_111, l_116, l_122, l_132, l_200, l_240, l_255, l_480, l_1000, l_1452, if_true, if_false, true_or, or_true, in_neg, in_m1, in_n, V1, V2, R1, R2, B1, B2, eq_self, wk_3, wk_10, wk_37, wk_42, wr_3_0, wr_3_1, wr_3_2, wr_3_3, wr_3_4, wr_3_5, wr_3_6, wr_3_7, wr_3_8, wi_3_9, wi_3_10, wi_3_11, wp_3_9, wp_3_10, wp_3_11, wr_10_0, wr_10_1, wi_10_2, wi_10_3, wp_10_2, wp_10_3, wr_37_0, wr_37_1, wr_37_2, wi_37_3, wp_37_3, wi_37_4, wp_37_4, wi_37_5, wp_37_5, wi_37_6, wp_37_6, wi_37_7, wp_37_7, wi_37_8, wp_37_8, wr_42_0, wi_42_1, wp_42_1, h1], by simp (disch := omega) only [q_pos, q_pos', q_lt, q_le, q_eq, q_add, q_sub, q_mul, ob_s, if_pos, if_neg, not_false_eq_true, q_m1', q_div, rm_N, l_0, l_1, l_2, l_3, l_4, l_5, l_6, l_7, l_8, l_10, l_11, l_12, l_13, l_14, l_15, l_16, l_18, l_20, l_21, l_22, l_23, l_24, l_32, l_33, l_40, l_44, l_48, l_57, l_59, l_60, l_63, l_64, l_97, l_98, l_99, l_100, l_111, l_116, l_122, l_132, l_200, l_240, l_255, l_480, l_1000, l_1452, if_true, if_false, true_or, or_true, in_neg, in_m1, in_n, V1, V2, R1, R2, B1, B2, eq_self, wk_84, wr_84_0, wr_84_1, wr_84_2, wr_84_3, wr_84_5, wr_84_13, wr_84_14, wr_84_15, wr_84_17, wr_84_18, wr_84_20, wr_84_21, wr_84_23, wr_84_24, wr_84_25, wr_84_26, wi_84_4, wp_84_4, wi_84_6, wp_84_6, wi_84_7, wp_84_7, wi_84_8, wp_84_8, wi_84_9, wp_84_9, wi_84_10, wp_84_10, wi_84_11, wp_84_11, wi_84_12, wp_84_12, wi_84_16, wp_84_16, wi_84_19, wp_84_19, wi_84_22, wp_84_22, wi_84_27, wp_84_27, h2]⟩
end OLOAD
