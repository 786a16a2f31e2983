/-! both read the whole text alike -/
theorem RR_f {B : Nat → Nat} {P k S f Q : Nat} (h : RR B P k S f Q) : f ≤ 4 ∧ Q ≤ P + 4 ∧ (f = 0 → k < 12 ∧ 1 ≤ vN B (P + 1) ∧ vN B (P + 1) ≤ 99 ∧ S + vN B (P + 1) ≤ 480 ∧ 1 ≤ kL (B P) ∧ 1 ≤ Q ∧ B (Q - 1) = 59) := by
  have hd := dN_b B (P + 1)
  rcases h with ⟨a, rfl, rfl⟩ | ⟨a, hR⟩
  · exact ⟨by omega, by omega, fun h => by omega⟩
  · rcases hR with ⟨b, rfl, rfl⟩ | ⟨b, hR⟩
    · exact ⟨by omega, by omega, fun h => by omega⟩
    · rcases hR with ⟨c, rfl, rfl⟩ | ⟨c, hR⟩
      · exact ⟨by omega, by omega, fun h => by omega⟩
      · have hv := vN_le c
        rcases hR with ⟨d, rfl, rfl⟩ | ⟨d, hR⟩
        · exact ⟨by omega, by omega, fun h => by omega⟩
        · rcases hR with ⟨e, rfl, rfl⟩ | ⟨e, hR⟩
          · exact ⟨by omega, by omega, fun h => by omega⟩
          · rcases hR with ⟨h, rfl, rfl⟩ | ⟨h, rfl, rfl⟩
            · exact ⟨by omega, by omega, fun h => by omega⟩
            · exact ⟨by omega, by omega, fun _ => ⟨b, d, hv, e, by omega, by omega, h⟩⟩
section PARSE
variable {L : Nat} {xs : Nat → Int32} {r : Nat → Option Nat} {rs : xH} {m : Nat} {B : Nat → Nat}
theorem parse (hB : TB m B) : ∀ (d k P S : Nat) (kd ln : Nat → Nat) (gc : xS) (mC : Nat), k + d = 13 → d < mC → k ≤ 12 → P ≤ m → S = fb_sm ln k → S ≤ 480 → CS gc m B P k S → (∀ i, i < k → gc 7 i = nI (kd i) ∧ gc 8 i = nI (ln i) ∧ 1 ≤ kd i ∧ kd i ≤ 5 ∧ ln i ≤ 99) → (∃ (f Q : Nat) (gc' : xS) (y : Int32), 1 ≤ f ∧ f ≤ 4 ∧ Q < 100 ∧ ((f_X7_readRun 37 (wH L xs gc r rs)).bind fun q => f_X7_readTape_L22 mC 37 q.1 (nI k) q.2) = some (nI f, y, wH L xs gc' r rs) ∧ gc' 46 4 = nI Q ∧ CF gc gc' ∧ ∀ (gr : xS) (r' : Nat → Option Nat) (rs' : xH) (mR : Nat) (x : Int32), d < mR → RS gr m B P k → ∃ gr' y, f_X12_load_L31 mR 84 x (nI S) (wH L xs gr r' rs') = some (y, wH L xs gr' r' rs') ∧ gr' 66 7 = nI f ∧ gr' 66 8 = nI Q ∧ RF gr gr') ∨ (∃ (k' : Nat) (kd' ln' : Nat → Nat) (gc' : xS) (y : Int32), k' ≤ 12 ∧ fb_sm ln' k' ≤ 480 ∧ ((f_X7_readRun 37 (wH L xs gc r rs)).bind fun q => f_X7_readTape_L22 mC 37 q.1 (nI k) q.2) = some (nI 0, y, wH L xs gc' r rs) ∧ gc' 46 5 = nI k' ∧ (∀ i, i < k' → gc' 7 i = nI (kd' i) ∧ gc' 8 i = nI (ln' i) ∧ 1 ≤ kd' i ∧ kd' i ≤ 5 ∧ ln' i ≤ 99) ∧ CF gc gc' ∧ ∀ (gr : xS) (r' : Nat → Option Nat) (rs' : xH) (mR : Nat) (x : Int32), d < mR → RS gr m B P k → (∀ i, i < k → gr 62 i = nI (kd i) ∧ gr 63 i = nI (ln i)) → ∃ gr', f_X12_load_L31 mR 84 x (nI S) (wH L xs gr r' rs') = some (nI (fb_sm ln' k'), wH L xs gr' r' rs') ∧ gr' 66 8 = -1 ∧ gr' 66 7 = gr 66 7 ∧ gr' 66 22 = nI k' ∧ (∀ i, i < k' → gr' 62 i = nI (kd' i) ∧ gr' 63 i = nI (ln' i)) ∧ RF gr gr') := by
  have hm := hB.1
  intro d
  induction d with
  | zero => intro k P S kd ln gc mC h1 h2 h3; omega
  | succ d ih =>
    intro k P S kd ln gc mC h1 h2 hk hP hSk hS hC hst
    obtain ⟨f, Q, hR⟩ := RR_ex B P k S
    obtain ⟨f1, f2, f3⟩ := RR_f hR
    obtain ⟨g1, a1, a2, a3, a4⟩ := c_run (L := L) (xs := xs) (r := r) (rs := rs) hB hP hk hS hC hR
    obtain ⟨mC, rfl⟩ : ∃ j, mC = j + 1 := ⟨mC - 1, by omega⟩
    have h60 : ¬ (60 : Int32) ≤ nI k := by rw [l_60, q_le (by omega) (by omega)]; omega
    have hT1 := TC_f hC.1 a3
    by_cases hf : f = 0
    · subst hf
      obtain ⟨q1, q2, q3, q4, q5, q6, q7⟩ := f3 rfl
      obtain ⟨c5, c6, c7, c8, c9⟩ := a4 rfl
      obtain ⟨kd2, ekd⟩ : ∃ kd2 : Nat → Nat, kd2 = fun i => if i = k then kL (B P) else kd i := ⟨_, rfl⟩
      obtain ⟨ln2, eln⟩ : ∃ ln2 : Nat → Nat, ln2 = fun i => if i = k then vN B (P + 1) else ln i := ⟨_, rfl⟩
      have dk : kd2 k = kL (B P) := by rw [ekd]; exact if_pos rfl
      have lk : ln2 k = vN B (P + 1) := by rw [eln]; exact if_pos rfl
      have dn : ∀ i, i ≠ k → kd2 i = kd i := fun i hi => by rw [ekd]; exact if_neg hi
      have lnn : ∀ i, i ≠ k → ln2 i = ln i := fun i hi => by rw [eln]; exact if_neg hi
      have hs2 : fb_sm ln2 (k + 1) = S + vN B (P + 1) := by
        rw [fb_sm_succ, lk, hSk, eln, fb_sm_out _ _ (Nat.le_refl k)]
      have hkl := kL_le (B P)
      have st2 : ∀ i, i < k + 1 → g1 7 i = nI (kd2 i) ∧ g1 8 i = nI (ln2 i) ∧ 1 ≤ kd2 i ∧ kd2 i ≤ 5 ∧ ln2 i ≤ 99 := fun i hi => by
        by_cases e : i = k
        · subst e
          rw [dk, lk]
          exact ⟨c7, c8, by omega, by omega, by omega⟩
        · rw [dn i e, lnn i e, (c9 i e).1, (c9 i e).2]
          exact hst i (by omega)
      have hQm : Q ≤ m := by
        have := TB_lt hB (i := Q - 1) (by omega)
        omega
      have rr2 : ∀ (g gr : xS), g 62 k = nI (kL (B P)) → g 63 k = nI (vN B (P + 1)) → (∀ i, i ≠ k → g 62 i = gr 62 i ∧ g 63 i = gr 63 i) → (∀ i, i < k → gr 62 i = nI (kd i) ∧ gr 63 i = nI (ln i)) → ∀ i, i < k + 1 → g 62 i = nI (kd2 i) ∧ g 63 i = nI (ln2 i) := fun g gr b3 b4 b5 hh i hi => by
        by_cases e : i = k
        · subst e
          rw [dk, lk]
          exact ⟨b3, b4⟩
        · rw [dn i e, lnn i e, (b5 i e).1, (b5 i e).2]
          exact hh i (by omega)
      by_cases hQ : m ≤ Q
      · right
        refine ⟨k + 1, kd2, ln2, g1, nI k, by omega, by omega, ?_, c5, st2, a3, ?_⟩
        · rw [a1, ob_s]
          dsimp only
          unfold f_X7_readTape_L22
          rw [if_neg h60, if_pos (show nI 0 = (0 : Int32) from rfl), wi_37_4, ob_s, wi_37_3, ob_s, a2, hT1.1, if_pos (by rw [q_le (by omega) (by omega)]; exact hQ)]
        · intro gr r' rs' mR x hmR hRS hrr
          obtain ⟨n, rfl⟩ : ∃ j, mR = j + 1 := ⟨mR - 1, by omega⟩
          obtain ⟨g2, b1, b2, b3, b4, b5, b6, b7⟩ := m_good (L := L) (xs := xs) (r := r') (rs := rs') hB hP hk hS hRS hR n x
          rw [if_pos (hB.2.2 Q hQ)] at b1
          exact ⟨g2, by rw [b1, hs2], b2.2.2.1, b6, b2.2.1, rr2 g2 gr b3 b4 b5 hrr, b7⟩
      · have hne : ¬ B Q = 1000 := fun e => by
          have := hB.2.1 Q (by omega)
          omega
        have hcl : ((f_X7_readRun 37 (wH L xs gc r rs)).bind fun q => f_X7_readTape_L22 (mC + 1) 37 q.1 (nI k) q.2) = ((f_X7_readRun 37 (wH L xs g1 r rs)).bind fun q => f_X7_readTape_L22 mC 37 q.1 (nI (k + 1)) q.2) := by
          rw [a1, ob_s]
          dsimp only
          conv => lhs; unfold f_X7_readTape_L22
          rw [if_neg h60, if_pos (show nI 0 = (0 : Int32) from rfl), wi_37_4, ob_s, wi_37_3, ob_s, a2, hT1.1, if_neg (by rw [q_le (by omega) (by omega)]; exact hQ), wk_37, if_pos rfl, l_1, q_add]
        rw [hcl]
        rcases ih (k + 1) Q (S + vN B (P + 1)) kd2 ln2 g1 mC (by omega) (by omega) (by omega) hQm hs2.symm (by omega) ⟨hT1, a2, c5, c6⟩ st2 with ⟨f', Q', gc', y, e1, e2, e3, eC, e4, e5, eR⟩ | ⟨k', kd', ln', gc', y, e1, e2, eC, e3, e4, e5, eR⟩
        · left
          refine ⟨f', Q', gc', y, e1, e2, e3, eC, e4, CF.tr a3 e5, ?_⟩
          intro gr r' rs' mR x hmR hRS
          obtain ⟨n, rfl⟩ : ∃ j, mR = j + 1 := ⟨mR - 1, by omega⟩
          obtain ⟨g2, b1, b2, b3, b4, b5, b6, b7⟩ := m_good (L := L) (xs := xs) (r := r') (rs := rs') hB hP hk hS hRS hR n x
          rw [if_neg hne] at b1
          obtain ⟨gr', y', d1, d2, d3, d4⟩ := eR g2 r' rs' n x (by omega) b2
          exact ⟨gr', y', by rw [b1]; exact d1, d2, d3, RF.tr b7 d4⟩
        · right
          refine ⟨k', kd', ln', gc', y, e1, e2, eC, e3, e4, CF.tr a3 e5, ?_⟩
          intro gr r' rs' mR x hmR hRS hrr
          obtain ⟨n, rfl⟩ : ∃ j, mR = j + 1 := ⟨mR - 1, by omega⟩
          obtain ⟨g2, b1, b2, b3, b4, b5, b6, b7⟩ := m_good (L := L) (xs := xs) (r := r') (rs := rs') hB hP hk hS hRS hR n x
          rw [if_neg hne] at b1
          obtain ⟨gr', d1, d2, d3, d4, d5, d6⟩ := eR g2 r' rs' n x (by omega) b2 (rr2 g2 gr b3 b4 b5 hrr)
          exact ⟨gr', by rw [b1]; exact d1, d2, d3.trans b6, d4, d5, RF.tr b7 d6⟩
    · left
      refine ⟨f, Q, g1, nI k, by omega, f1, by omega, ?_, a2, a3, ?_⟩
      · rw [a1, ob_s]
        dsimp only
        unfold f_X7_readTape_L22
        rw [if_neg h60, if_neg (i_nz (by omega) hf)]
      · intro gr r' rs' mR x hmR hRS
        obtain ⟨n, rfl⟩ : ∃ j, mR = j + 1 := ⟨mR - 1, by omega⟩
        obtain ⟨g2, b1, b2, b3, b4⟩ := m_bad (L := L) (xs := xs) (r := r') (rs := rs') hB hP hk hS hRS hR hf n x
        exact ⟨g2, nI S, b1, b2, b3, b4⟩
end PARSE
theorem ob_a {α β γ : Type} {x : Option α} {f : α → Option β} {g : β → Option γ} {z : β} (h : x.bind f = some z) : (x.bind fun y => (f y).bind g) = g z := by
  cases x with
  | none => cases h
  | some a =>
    have e : f a = some z := h
    show (f a).bind g = g z
    rw [e]
    rfl
/-! the runs made anew -/
def rO (kd ln : Nat → Nat) (t : Nat) : va_E := .inr (kC (kd t), [.int (nI t), .int (nI (ln t))])
theorem br5 {α : Type} {c : Nat} {X : Option α} (h : c = 0 ∨ c = 2 ∨ c = 4 ∨ c = 7 ∨ c = 9) : (if some c = some 0 then X else if some c = some 2 then X else if some c = some 4 then X else if some c = some 7 then X else if some c = some 9 then X else none) = X := by
  rcases h with e | e | e | e | e <;> subst e <;> rfl
theorem kC_5 {K : Nat} (h1 : 1 ≤ K) (h2 : K ≤ 5) : kC K = 0 ∨ kC K = 2 ∨ kC K = 4 ∨ kC K = 7 ∨ kC K = 9 := by
  rcases K5 h1 h2 with e | e | e | e | e <;> subst e <;> decide
theorem rO_get {kd ln : Nat → Nat} {rs : xH} {k i : Nat} (hi : i < k) : (rs ++ (List.range k).map (rO kd ln))[rs.length + i]? = some (rO kd ln i) := by
  rw [List.getElem?_append_right (Nat.le_add_right _ _), Nat.add_sub_cancel_left, List.getElem?_map, List.getElem?_range hi]
  rfl
theorem rO_z {kd ln : Nat → Nat} {rs : xH} : ∀ k, xz (rs ++ (List.range k).map (rO kd ln)) = xz rs + 2 * k
  | 0 => by simp
  | k + 1 => by
    rw [List.range_succ, List.map_append, ← List.append_assoc]
    show xz ((rs ++ (List.range k).map (rO kd ln)) ++ [rO kd ln k]) = _
    rw [xz_push, rO_z k]
    show xz rs + 2 * k + 2 = _
    omega
section LOAD
variable {L : Nat} {xs : Nat → Int32} {g : xS} {r : Nat → Option Nat} {rs : xH} {j n v K i : Nat} {p : Nat → Bool}
theorem wH_len : (wH L xs g r rs).length = 101 + rs.length := by
  unfold wH
  rw [List.length_append, wL_len]
theorem wH_app (e : va_E) : wH L xs g r rs ++ [e] = wH L xs g r (rs ++ [e]) := by
  unfold wH
  rw [List.append_assoc]
theorem wH_get (e : va_E) : (wH L xs g r (rs ++ [e]))[101 + rs.length]? = some e := by
  rw [wH_hi]
  exact List.getElem?_concat_length
theorem wH_st (e e' : va_E) : (wH L xs g r (rs ++ [e])).set (101 + rs.length) e' = wH L xs g r (rs ++ [e']) := by
  unfold wH
  rw [List.set_append_right _ _ (by rw [wL_len]; omega), wL_len, show 101 + rs.length - 101 = rs.length by omega, List.set_append_right _ _ (Nat.le_refl _), Nat.sub_self]
  rfl
theorem r_ini {c : Nat} (hc : [0, 2, 4, 7, 9].elem c = true) (x y : Int32) : f_X6_init (101 + rs.length) x y (wH L xs g r (rs ++ [.inr (c, [.int 0, .int 0])])) = some (wH L xs g r (rs ++ [.inr (c, [.int x, .int y])])) := by
  have h1 : xpI [0, 2, 4, 7, 9] (wH L xs g r (rs ++ [.inr (c, [.int 0, .int 0])])) (101 + rs.length) 0 x = some (wH L xs g r (rs ++ [.inr (c, [.int x, .int 0])])) := by
    unfold xpI
    rw [wH_get]
    dsimp only
    rw [if_pos ⟨hc, Nat.zero_lt_succ _⟩, wH_st] <;> rfl
  have h2 : xpI [0, 2, 4, 7, 9] (wH L xs g r (rs ++ [.inr (c, [.int x, .int 0])])) (101 + rs.length) 1 y = some (wH L xs g r (rs ++ [.inr (c, [.int x, .int y])])) := by
    unfold xpI
    rw [wH_get]
    dsimp only
    rw [if_pos ⟨hc, Nat.succ_lt_succ (Nat.zero_lt_succ _)⟩, wH_st] <;> rfl
  unfold f_X6_init
  rw [h1, ob_s, h2, ob_s]
theorem e_newRun (h1 : 1 ≤ K) (h2 : K ≤ 5) (x y : Int32) : f_X11_newRun (nI K) x y (wH L xs g r rs) = some (101 + rs.length, wH L xs g r (rs ++ [.inr (kC K, [.int x, .int y])])) := by
  unfold f_X11_newRun f_X4_init f_X8_init f_X2_init f_X0_init f_X10_init
  rcases K5 h1 h2 with e | e | e | e | e <;> subst e
  · rw [if_neg (by decide), if_neg (by decide), if_neg (by decide), if_neg (by decide), wH_len, wH_app, r_ini (by decide), ob_s, ob_s] <;> rfl
  · rw [if_pos (by decide), wH_len, wH_app, r_ini (by decide), ob_s, ob_s, ob_s] <;> rfl
  · rw [if_neg (by decide), if_pos (by decide), wH_len, wH_app, r_ini (by decide), ob_s, ob_s, ob_s] <;> rfl
  · rw [if_neg (by decide), if_neg (by decide), if_pos (by decide), wH_len, wH_app, r_ini (by decide), ob_s, ob_s] <;> rfl
  · rw [if_neg (by decide), if_neg (by decide), if_neg (by decide), if_pos (by decide), wH_len, wH_app, r_ini (by decide), ob_s, ob_s, ob_s] <;> rfl
theorem tko_L {kd ln : Nat → Nat} {k : Nat} (hk : k ≤ 12) (h9 : g 0 9 = nI k) (h7 : ∀ i, i < k → g 7 i = nI (kd i) ∧ g 8 i = nI (ln i) ∧ 1 ≤ kd i ∧ kd i ≤ 5 ∧ ln i ≤ 99) : ∀ n i d r, i + d = 12 → d < n → ∃ r', f_X11_takeOverRuns_L13 n 3 (nI i) (wH L xs g r (rs ++ (List.range (min i k)).map (rO kd ln))) = some (nI 12, wH L xs g r' (rs ++ (List.range k).map (rO kd ln))) ∧ (∀ t, i ≤ t → t < k → r' t = some (101 + (rs.length + t))) ∧ ∀ t, t < i → r' t = r t := by
  intro n
  induction n with
  | zero => intro i d r h1 h2; omega
  | succ n ih =>
    intro i d r h1 h2
    unfold f_X11_takeOverRuns_L13
    by_cases hi : i = 12
    · subst hi
      refine ⟨r, ?_, fun t a b => by omega, fun t _ => rfl⟩
      rw [if_pos (by decide), Nat.min_eq_right hk]
    · rw [if_neg (show ¬ (12 : Int32) ≤ nI i by rw [l_12, q_le (by omega) (by omega)]; omega), wr_3_7, ob_s, wi_3_9, ob_s, h9]
      by_cases hik : k ≤ i
      · obtain ⟨r', e1, e2, e3⟩ := ih (i + 1) (d - 1) (va_up r i none) (by omega) (by omega)
        refine ⟨r', ?_, fun t a b => by omega, fun t ht => ?_⟩
        · rw [if_pos (by rw [q_le (by omega) (by omega)]; exact hik), wqs_41' (by omega), ob_s, l_1, q_add, Nat.min_eq_right hik]
          rw [Nat.min_eq_right (by omega)] at e1
          exact e1
        · rw [e3 t (by omega)]
          exact va_up_ne _ _ (by omega)
      · obtain ⟨u1, u2, u3, u4, u5⟩ := h7 i (by omega)
        have el : (rs ++ (List.range i).map (rO kd ln)).length = rs.length + i := by simp
        have ea : (rs ++ (List.range i).map (rO kd ln)) ++ [rO kd ln i] = rs ++ (List.range (i + 1)).map (rO kd ln) := by
          rw [List.range_succ, List.map_append, List.append_assoc]
          rfl
        obtain ⟨r', e1, e2, e3⟩ := ih (i + 1) (d - 1) (va_up r i (some (101 + (rs.length + i)))) (by omega) (by omega)
        rw [Nat.min_eq_left (by omega)] at e1
        have hx : xk (wH L xs g r (rs ++ (List.range (i + 1)).map (rO kd ln))) (101 + (rs.length + i)) = some (kC (kd i)) := xk_ru (rO_get (Nat.lt_succ_self i))
        have hn := e_newRun (L := L) (xs := xs) (g := g) (r := r) (rs := rs ++ (List.range i).map (rO kd ln)) u3 u4 (nI i) (nI (ln i))
        rw [el, show (Sum.inr (kC (kd i), [Value.int (nI i), Value.int (nI (ln i))]) : va_E) = rO kd ln i from rfl, ea] at hn
        refine ⟨r', ?_, fun t a b => ?_, fun t ht => ?_⟩
        · rw [Nat.min_eq_left (by omega), if_neg (by rw [q_le (by omega) (by omega)]; exact hik), wr_3_6, ob_s, wr_37_1, ob_s, wa_39' (by omega), ob_s, ob_s, wr_37_2, ob_s, wa_40' (by omega), ob_s, u1, u2, hn, ob_s]
          dsimp only
          rw [hx, br5 (kC_5 u3 u4), wqs_41' (by omega), ob_s, l_1, q_add]
          exact e1
        · by_cases e : t = i
          · subst e
            rw [e3 t (by omega)]
            exact va_up_self _ _ _
          · exact e2 t (by omega) b
        · rw [e3 t (by omega)]
          exact va_up_ne _ _ (by omega)
theorem apr_L (hj : j < 25) {a N : Nat} (h1 : 1 ≤ K) (h2 : K ≤ 5) (hN : N ≤ 99) {x : Int32} (ho : rs[a]? = some (.inr (kC K, [.int x, .int (nI N)]))) : ∀ m t d n p g, t + d = N → d < m → n + d ≤ 480 → vOK g j n p → ∃ g', f_X1_appendRun_L2 m (vO j) (101 + a) (nI t) (wH L xs g r rs) = some (nI N, wH L xs g' r rs) ∧ vOK g' j (n + d) (apB (bR K) t d n p) ∧ vFr j g g' := by
  intro m
  induction m with
  | zero => intro t d n p g h1 h2; omega
  | succ m ih =>
    intro t d n p g h3 h4 h5 hv
    unfold f_X1_appendRun_L2
    rw [xg1_ru h1 h2 ho, ob_s]
    cases d with
    | zero =>
      have : t = N := by omega
      subst this
      exact ⟨g, by rw [if_pos (Int32.le_refl _)], hv, vFr.rfl'⟩
    | succ d =>
      obtain ⟨g1, a1, a2, a3⟩ := e_append (L := L) (xs := xs) (r := r) (rs := rs) hj hv (by omega) (bR K t)
      obtain ⟨g', c1, c2, c3⟩ := ih (t + 1) d (n + 1) _ g1 (by omega) (by omega) (by omega) a2
      refine ⟨g', ?_, ?_, a3.trans c3⟩
      · rw [if_neg (by rw [q_le (by omega) (by omega)]; omega), e_rbit h1 h2 (xk_ru ho) (by omega), ob_s]
        dsimp only
        rw [wkv hj, if_pos rfl, a1, ob_s, l_1, q_add]
        exact c1
      · rw [show n + (d + 1) = n + 1 + d by omega]
        exact c2
def ldP (kd ln : Nat → Nat) : Nat → Nat → (Nat → Bool) → Nat → Bool
  | 0, _, p => p
  | d + 1, i, p => ldP kd ln d (i + 1) (apB (bR (kd i)) 0 (ln i) (fb_sm ln i) p)
theorem ldr_L (hj : j < 25) {kd ln : Nat → Nat} {k A : Nat} (hk : k ≤ 12) (hs : fb_sm ln k ≤ 480) (hr : ∀ i, i < k → r i = some (101 + (A + i)) ∧ rs[A + i]? = some (rO kd ln i) ∧ 1 ≤ kd i ∧ kd i ≤ 5 ∧ ln i ≤ 99) : ∀ n i d p g, i + d = k → d < n → g 0 9 = nI k → vOK g j (fb_sm ln i) p → ∃ g', f_X11_load_L63 n 3 (vO j) (nI i) (wH L xs g r rs) = some (nI k, wH L xs g' r rs) ∧ vOK g' j (fb_sm ln k) (ldP kd ln d i p) ∧ vFr j g g' := by
  intro n
  induction n with
  | zero => intro i d p g h1 h2; omega
  | succ n ih =>
    intro i d p g h1 h2 h9 hv
    unfold f_X11_load_L63
    rw [wi_3_9, ob_s, h9]
    cases d with
    | zero =>
      have : i = k := by omega
      subst this
      exact ⟨g, by rw [if_pos (Int32.le_refl _)], hv, vFr.rfl'⟩
    | succ d =>
      obtain ⟨u1, u2, u3, u4, u5⟩ := hr i (by omega)
      have hp := fb_sm_part ln (show i < k by omega)
      obtain ⟨g1, a1, a2, a3⟩ := apr_L (L := L) (xs := xs) (r := r) (rs := rs) hj u3 u4 u5 u2 xN 0 (ln i) (fb_sm ln i) p g (by omega) (by unfold xN; omega) (by omega) hv
      obtain ⟨g', c1, c2, c3⟩ := ih (i + 1) d _ g1 (by omega) (by omega) (by rw [a3.1 0 (by omega) (by omega)]; exact h9) a2
      refine ⟨g', ?_, c2, a3.trans c3⟩
      rw [if_neg (by rw [q_le (by omega) (by omega)]; omega), wr_3_7, ob_s, xaR_ru (by omega) u1, ob_s, wkv hj, if_pos rfl]
      unfold f_X1_appendRun
      rw [l_0, a1, ob_s, ob_s, l_1, q_add]
      exact c1
theorem mld_in (hv : v < 4) {N : Nat} (h1 : 1 ≤ K) (h2 : K ≤ 5) (hN : N ≤ 99) (hi : i < 12) (z : Int32) : ∀ m t d n p g, t + d = N → d < m → n + d ≤ 480 → g 60 i = nI K → g 61 i = nI N → mOK g 55 (33 * v) n p → ∃ g', f_X12_load_L255 m 84 (nI v) z (nI i) (nI t) (wH L xs g r rs) = some (nI N, wH L xs g' r rs) ∧ mOK g' 55 (33 * v) (n + d) (apB (bR K) t d n p) ∧ mFr 55 (33 * v) (33 * v + 33) g g' := by
  intro m
  induction m with
  | zero => intro t d n p g h1 h2; omega
  | succ m ih =>
    intro t d n p g h3 h4 h5 h60 h61 hm
    unfold f_X12_load_L255
    rw [wr_84_21, ob_s, wa_96' hi, ob_s, h61]
    cases d with
    | zero =>
      have : t = N := by omega
      subst this
      exact ⟨g, by rw [if_pos (Int32.le_refl _)], hm, mFr.rfl'⟩
    | succ d =>
      obtain ⟨g1, a1, a2, a3⟩ := m_appends (L := L) (xs := xs) (r := r) (rs := rs) hv hm (by omega) (bR K t)
      obtain ⟨g', c1, c2, c3⟩ := ih (t + 1) d (n + 1) _ g1 (by omega) (by omega) (by omega) (by rw [a3.1 60 (by omega)]; exact h60) (by rw [a3.1 61 (by omega)]; exact h61) a2
      refine ⟨g', ?_, ?_, a3.trans c3⟩
      · rw [if_neg (by rw [q_le (by omega) (by omega)]; omega), wr_84_20, ob_s, wa_95' hi, ob_s, h60, m_rbit h1 h2 (by omega), ob_s]
        dsimp only
        rw [wk_84, if_pos rfl, a1, ob_s, l_1, q_add]
        exact c1
      · rw [show n + (d + 1) = n + 1 + d by omega]
        exact c2
theorem mld_L (hv : v < 4) {kd ln : Nat → Nat} {k : Nat} (hk : k ≤ 12) (hs : fb_sm ln k ≤ 480) (hr : ∀ i, i < k → 1 ≤ kd i ∧ kd i ≤ 5 ∧ ln i ≤ 99) (z : Int32) : ∀ n i d p g, i + d = k → d < n → g 66 19 = nI k → (∀ t, i ≤ t → t < k → g 62 t = nI (kd t) ∧ g 63 t = nI (ln t)) → mOK g 55 (33 * v) (fb_sm ln i) p → ∃ g', f_X12_load_L220 n 84 (nI v) z (nI i) (wH L xs g r rs) = some (nI k, wH L xs g' r rs) ∧ mOK g' 55 (33 * v) (fb_sm ln k) (ldP kd ln d i p) ∧ (∀ t, i ≤ t → t < k → g' 60 t = nI (kd t) ∧ g' 61 t = nI (ln t)) ∧ ∀ c q, ¬ (c = 55 ∧ 33 * v ≤ q ∧ q < 33 * v + 33) → ¬ (c = 60 ∧ i ≤ q) → ¬ (c = 61 ∧ i ≤ q) → g' c q = g c q := by
  intro n
  induction n with
  | zero => intro i d p g h1 h2; omega
  | succ n ih =>
    intro i d p g h1 h2 h19 h6 hm
    unfold f_X12_load_L220
    rw [wi_84_19, ob_s, h19]
    cases d with
    | zero =>
      have : i = k := by omega
      subst this
      exact ⟨g, by rw [if_pos (Int32.le_refl _)], hm, fun t a b => by omega, fun _ _ _ _ _ => rfl⟩
    | succ d =>
      obtain ⟨u3, u4, u5⟩ := hr i (by omega)
      obtain ⟨w1, w2⟩ := h6 i (by omega) (by omega)
      have hp := fb_sm_part ln (show i < k by omega)
      have z60 : gs (gs g 60 i (nI (kd i))) 61 i (nI (ln i)) 60 i = nI (kd i) := by rw [gs_n (by omega), gs_same]
      have z61 : gs (gs g 60 i (nI (kd i))) 61 i (nI (ln i)) 61 i = nI (ln i) := gs_same
      have zf : ∀ c q, ¬ (c = 60 ∧ q = i) → ¬ (c = 61 ∧ q = i) → gs (gs g 60 i (nI (kd i))) 61 i (nI (ln i)) c q = g c q := fun c q a b => by rw [gs_n (by omega), gs_n (by omega)]
      obtain ⟨g1, a1, a2, a3⟩ := mld_in (L := L) (xs := xs) (r := r) (rs := rs) hv u3 u4 u5 (show i < 12 by omega) z xN 0 (ln i) (fb_sm ln i) p _ (by omega) (by unfold xN; omega) (by omega) z60 z61 (mOK_eq hm (fun k hk => zf _ _ (by omega) (by omega)))
      have a4 := mFr_q a3
      obtain ⟨g', c1, c2, c3, c4⟩ := ih (i + 1) d _ g1 (by omega) (by omega) (by rw [a4 _ _ (by omega), zf _ _ (by omega) (by omega)]; exact h19) (fun t a b => by rw [a4 _ _ (by omega), zf _ _ (by omega) (by omega), a4 _ _ (by omega), zf _ _ (by omega) (by omega)]; exact h6 t (by omega) b) a2
      refine ⟨g', ?_, c2, fun t a b => ?_, fun c q x1 x2 x3 => ?_⟩
      · rw [if_neg (by rw [q_le (by omega) (by omega)]; omega), wr_84_20, ob_s, wr_84_23, ob_s, wa_97' (by omega), ob_s, w1, wu_95' (by omega), ob_s, wr_84_21, ob_s, wr_84_24, ob_s, wa_98' (by omega), ob_s, gs_n (by omega), w2, wu_96' (by omega), ob_s, l_0, a1, ob_s, l_1, q_add]
        exact c1
      · by_cases e : t = i
        · subst e
          rw [c4 _ _ (by omega) (by omega) (by omega), c4 _ _ (by omega) (by omega) (by omega), a4 _ _ (by omega), a4 _ _ (by omega)]
          exact ⟨z60, z61⟩
        · exact c3 t (by omega) b
      · rw [c4 _ _ x1 (by omega) (by omega), a4 _ _ (by omega), zf _ _ (by omega) (by omega)]
end LOAD
