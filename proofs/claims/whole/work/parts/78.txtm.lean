/-! the reference's reader: one token, one run -/
def tkT (B : Nat → Nat) (P : Nat) : Nat := if B P = 1000 then 0 else if dg (B P) = true then (if dg (B (P + 1)) = true ∧ dg (B (P + 2)) = true then 5 else 2) else if 97 ≤ B P ∧ B P ≤ 122 then 1 else if B P = 44 then 3 else if B P = 59 then 4 else 5
def Lx (g : xS) (B : Nat → Nat) (P : Nat) : Prop := g 66 10 = nI P ∧ g 66 11 = nI (tkT B P) ∧ (tkT B P = 1 → g 66 12 = nI (B P) ∧ g 66 9 = nI (P + 1)) ∧ (tkT B P = 2 → g 66 12 = nI (vN B P) ∧ g 66 9 = nI (P + dN B P)) ∧ (tkT B P = 4 → g 66 9 = nI (P + 1))
def LF (g g' : xS) : Prop := ∀ c i, ¬ (c = 66 ∧ 9 ≤ i ∧ i ≤ 12) → g' c i = g c i
def LQ (g g' : xS) : Prop := ∀ c i, ¬ (c = 66 ∧ (i = 9 ∨ i = 12)) → g' c i = g c i
def TM (g : xS) (m : Nat) (B : Nat → Nat) : Prop := g 66 6 = nI m ∧ ∀ i, i < m → g 54 i = nI (B i)
theorem LF.tr {g1 g2 g3 : xS} (h1 : LF g1 g2) (h2 : LF g2 g3) : LF g1 g3 := fun c i a => (h2 c i a).trans (h1 c i a)
theorem LQ.tr {g1 g2 g3 : xS} (h1 : LQ g1 g2) (h2 : LQ g2 g3) : LQ g1 g3 := fun c i a => (h2 c i a).trans (h1 c i a)
theorem LQ.f {g1 g2 : xS} (h1 : LQ g1 g2) : LF g1 g2 := fun c i a => h1 c i (by omega)
theorem LF_gs {g : xS} {i : Nat} {x : Int32} (h : 9 ≤ i ∧ i ≤ 12) : LF g (gs g 66 i x) := fun c k h3 => gs_n (by omega)
theorem LQ_gs {g : xS} {i : Nat} {x : Int32} (h : i = 9 ∨ i = 12) : LQ g (gs g 66 i x) := fun c k h3 => gs_n (by omega)
theorem TM_f {g g' : xS} {m : Nat} {B : Nat → Nat} (h : TM g m B) (hf : LF g g') : TM g' m B := ⟨(hf 66 6 (by omega)).trans h.1, fun i hi => (hf 54 i (by omega)).trans (h.2 i hi)⟩
theorem tk_0 {B : Nat → Nat} {P : Nat} : tkT B P = 0 ↔ B P = 1000 := by
  constructor
  · intro h
    by_cases e : B P = 1000
    · exact e
    · exfalso
      unfold tkT at h
      rw [if_neg e] at h
      repeat' split at h
      all_goals omega
  · intro h
    exact if_pos h
theorem tk_le (B : Nat → Nat) (P : Nat) : tkT B P ≤ 5 := by
  unfold tkT
  repeat' split
  all_goals omega
theorem kL_c {c : Nat} (h : kL c ≠ 0) : 97 ≤ c ∧ c ≤ 122 := by
  unfold kL at h
  repeat' split at h
  all_goals omega
theorem tk_1 {B : Nat → Nat} {P : Nat} (h : kL (B P) ≠ 0) : tkT B P = 1 := by
  have hc := kL_c h
  unfold tkT
  rw [if_neg (by omega), if_neg (fun hd => by have := dg_lt hd; omega), if_pos hc]
theorem tk_k {B : Nat → Nat} {P : Nat} (h : tkT B P ≠ 1) : kL (B P) = 0 := by
  by_cases e : kL (B P) = 0
  · exact e
  · exact absurd (tk_1 e) h
theorem tk_2 {B : Nat → Nat} {P : Nat} : tkT B P = 2 ↔ GN B P := by
  constructor
  · intro h
    unfold tkT at h
    by_cases e : B P = 1000
    · rw [if_pos e] at h; omega
    · rw [if_neg e] at h
      by_cases d : dg (B P) = true
      · rw [if_pos d] at h
        by_cases f : dg (B (P + 1)) = true ∧ dg (B (P + 2)) = true
        · rw [if_pos f] at h; omega
        · exact ⟨d, f⟩
      · rw [if_neg d] at h
        exfalso
        repeat' split at h
        all_goals omega
  · intro h
    have hc := dg_lt h.1
    unfold tkT
    rw [if_neg (by omega), if_pos h.1, if_neg h.2]
theorem tk_4 {B : Nat → Nat} {P : Nat} : tkT B P = 4 ↔ B P = 59 := by
  constructor
  · intro h
    unfold tkT at h
    repeat' split at h
    all_goals omega
  · intro h
    unfold tkT
    rw [if_neg (by omega), if_neg (fun hd => by have := dg_lt hd; omega), if_neg (by omega), if_neg (by omega), if_pos h]
theorem e_1 : (-1 : Int32) < nI 0 := by decide
theorem in_ab {i a b : Nat} {h : xH} (hi : i < 2147483648) (ha : a < 2147483648) (hb : b < 2147483648) : f_X12_in (nI i) (nI a) (nI b) h = some (nI (if a ≤ i ∧ i ≤ b then 1 else 0), h) := by
  unfold f_X12_in
  simp only [q_lt hi ha, q_lt hb hi]
  by_cases e : a ≤ i
  · rw [if_neg (by omega)]
    by_cases e2 : i ≤ b
    · rw [if_neg (by omega), if_pos ⟨e, e2⟩] <;> rfl
    · rw [if_pos (by omega), if_neg (by omega)] <;> rfl
  · rw [if_pos (by omega), if_neg (by omega)] <;> rfl
theorem in_bX {e : Int32} {c : Nat} {h : xH} (he : e < nI 0) (hc : c ≤ 255 ∨ c = 1000) : f_X12_in (bX e c) (nI 48) (nI 57) h = some (nI (dg c).toNat, h) := by
  rcases hc with hc | rfl
  · rw [bX_n hc, in_ab (by omega) (by omega) (by omega)]
    by_cases a : 48 ≤ c ∧ c ≤ 57
    · rw [if_pos a, show dg c = true from decide_eq_true a] <;> rfl
    · rw [if_neg a, show dg c = false from decide_eq_false a] <;> rfl
  · rw [bX_e]
    unfold f_X12_in
    rw [if_pos (of_eq_true (ng1 he (by omega)))] <;> rfl
theorem in_any (a b c : Int32) (h : xH) : ∃ x, f_X12_in a b c h = some (x, h) := by
  unfold f_X12_in
  split
  · exact ⟨_, rfl⟩
  · split
    · exact ⟨_, rfl⟩
    · exact ⟨_, rfl⟩
theorem in_99 {v : Nat} {h : xH} (hv : v ≤ 99) : f_X12_in (nI v) (1 : Int32) (99 : Int32) h = some (if v = 0 then (0 : Int32) else (1 : Int32), h) := by
  rw [l_1, l_99, in_ab (by omega) (by omega) (by omega)]
  by_cases e : v = 0
  · rw [if_neg (by omega), if_pos e] <;> rfl
  · rw [if_pos (by omega), if_neg e] <;> rfl
theorem m_kol {c : Nat} {h : xH} (hc : c ≤ 255) : f_X12_kindOf (nI c) h = some (nI (kL c), h) := by
  unfold f_X12_kindOf kL
  simp (disch := omega) only [l_97, l_98, l_111, l_116, l_122, q_eq]
  by_cases i : c = 122
  · rw [if_pos i, if_neg (by omega), if_neg (by omega), if_neg (by omega), if_neg (by omega), if_pos i] <;> rfl
  · rw [if_neg i]
    by_cases d : c = 111
    · rw [if_pos d, if_neg (by omega), if_neg (by omega), if_pos d] <;> rfl
    · rw [if_neg d]
      by_cases f : c = 116
      · rw [if_pos f, if_neg (by omega), if_neg (by omega), if_neg (by omega), if_pos f] <;> rfl
      · rw [if_neg f]
        by_cases a : c = 97
        · rw [if_pos a, if_pos a] <;> rfl
        · rw [if_neg a, if_neg a]
          by_cases b : c = 98
          · rw [if_pos b, if_pos b] <;> rfl
          · rw [if_neg b, if_neg b, if_neg d, if_neg f, if_neg i] <;> rfl
section TXTM
variable {L : Nat} {xs : Nat → Int32} {g : xS} {r : Nat → Option Nat} {rs : xH} {m i P Q k S K v a : Nat} {B : Nat → Nat}
theorem m_byte (hB : TB m B) (hM : TM g m B) (hi : i < 1000) : f_X12_byteAt 84 (nI i) (wH L xs g r rs) = some (bX (-1) (B i), wH L xs g r rs) := by
  have hm := hB.1
  unfold f_X12_byteAt
  rw [wi_84_6, ob_s, hM.1]
  by_cases h : m ≤ i
  · rw [if_pos (by rw [q_le (by omega) (by omega)]; exact h), hB.2.2 i h, bX_e]
  · rw [if_neg (by rw [q_le (by omega) (by omega)]; exact h), wr_84_5, ob_s, wa_89' (by omega), ob_s, hM.2 i (by omega), bX_n (hB.2.1 i (by omega))]
theorem lp_stop (hB : TB m B) (hM : TM g m B) (ha : a < 1000) (h9 : g 66 9 = nI a) (hd : dg (B a) = false) (n : Nat) : f_X12_advances_L38 (n + 1) 84 (wH L xs g r rs) = some (wH L xs g r rs) := by
  unfold f_X12_advances_L38
  rw [wi_84_9, ob_s, h9, wk_84, if_pos rfl, m_byte hB hM ha, ob_s]
  dsimp only
  rw [l_48, l_57, in_bX e_1 (TB_le hB a), ob_s, hd]
  dsimp only
  rw [if_pos (by decide)]
theorem lp_1 (hB : TB m B) (hM : TM g m B) (ha : a < 1000) (h9 : g 66 9 = nI a) (h10 : g 66 10 = nI P) (h12 : g 66 12 = nI v) (hd : dg (B a) = true) (h1 : P ≤ a) (h2 : a < P + 2) : ∃ g', (∀ n, f_X12_advances_L38 (n + 1) 84 (wH L xs g r rs) = f_X12_advances_L38 n 84 (wH L xs g' r rs)) ∧ g' 66 9 = nI (a + 1) ∧ g' 66 12 = nI (10 * v + B a - 48) ∧ LQ g g' := by
  have h48 := dg_lt hd
  have eb : bX (-1) (B a) = nI (B a) := bX_n (by omega)
  refine ⟨gs (gs g 66 12 (nI (10 * v + B a - 48))) 66 9 (nI (a + 1)), fun n => ?_, gs_same, by rw [gs_n (by omega), gs_same], LQ.tr (LQ_gs (Or.inr rfl)) (LQ_gs (Or.inl rfl))⟩
  conv => lhs; unfold f_X12_advances_L38
  rw [wi_84_9, ob_s, h9, wk_84, if_pos rfl, m_byte hB hM ha, ob_s]
  dsimp only
  rw [l_48, l_57, in_bX e_1 (TB_le hB a), ob_s, hd]
  dsimp only
  rw [if_neg (by decide), wi_84_9, ob_s, wi_84_10, ob_s, h9, h10, q_sub h1, l_2, if_neg (by rw [q_le (by omega) (by omega)]; omega), wi_84_12, ob_s, ob_s, wk_84, if_pos rfl, m_byte hB hM ha, ob_s]
  dsimp only
  rw [eb, h12, l_10, q_mul, q_add, q_sub (by omega), wp_84_12, ob_s, wi_84_9, ob_s, gs_n (by omega), h9, l_1, q_add, wp_84_9, ob_s]
theorem lp_2 (hB : TB m B) (hM : TM g m B) (ha : a < 1000) (h9 : g 66 9 = nI a) (h10 : g 66 10 = nI P) (hd : dg (B a) = true) (h1 : P + 2 ≤ a) : ∃ g', (∀ n, f_X12_advances_L38 (n + 1) 84 (wH L xs g r rs) = f_X12_advances_L38 n 84 (wH L xs g' r rs)) ∧ g' 66 9 = nI (a + 1) ∧ LQ g g' := by
  have h48 := dg_lt hd
  refine ⟨gs (gs g 66 12 (g 66 12)) 66 9 (nI (a + 1)), fun n => ?_, gs_same, LQ.tr (LQ_gs (Or.inr rfl)) (LQ_gs (Or.inl rfl))⟩
  conv => lhs; unfold f_X12_advances_L38
  rw [wi_84_9, ob_s, h9, wk_84, if_pos rfl, m_byte hB hM ha, ob_s]
  dsimp only
  rw [l_48, l_57, in_bX e_1 (TB_le hB a), ob_s, hd]
  dsimp only
  rw [if_neg (by decide), wi_84_9, ob_s, wi_84_10, ob_s, h9, h10, q_sub (by omega), l_2, if_pos (by rw [q_le (by omega) (by omega)]; omega), wi_84_12, ob_s, wp_84_12, ob_s, wi_84_9, ob_s, gs_n (by omega), h9, l_1, q_add, wp_84_9, ob_s]
theorem lp_m (hB : TB m B) : ∀ n a g, a ≤ m → m < a + n → P + 2 ≤ a → TM g m B → g 66 9 = nI a → g 66 10 = nI P → ∃ g' b, f_X12_advances_L38 n 84 (wH L xs g r rs) = some (wH L xs g' r rs) ∧ g' 66 9 = nI b ∧ a ≤ b ∧ b ≤ 60 ∧ LQ g g' := by
  have hm := hB.1
  intro n
  induction n with
  | zero => intro a g h1 h2; omega
  | succ n ih =>
    intro a g h1 h2 h3 hM h9 h10
    by_cases hd : dg (B a) = true
    · have h48 := dg_lt hd
      have him : a < m := TB_lt hB (by omega)
      obtain ⟨g1, e1, e2, e3⟩ := lp_2 (L := L) (xs := xs) (r := r) (rs := rs) hB hM (by omega) h9 h10 hd h3
      obtain ⟨g', b, c1, c2, c3, c4, c5⟩ := ih (a + 1) g1 (by omega) (by omega) (by omega) (TM_f hM e3.f) e2 ((e3 _ _ (by omega)).trans h10)
      exact ⟨g', b, by rw [e1, c1], c2, by omega, c4, e3.tr c5⟩
    · exact ⟨g, a, lp_stop hB hM (by omega) h9 (dg_f hd) n, h9, by omega, by omega, fun _ _ _ => rfl⟩
theorem adv_d {b : Nat} {g3 : xS} (hB : TB m B) (hM : TM g m B) (hP : P < 100) (h9 : g 66 9 = nI P) (hd : dg (B P) = true) (hl : f_X12_advances_L38 xN 84 (wH L xs (gs (gs (gs g 66 10 (nI P)) 66 12 (bX (-1) (B P))) 66 12 (nI 0)) r rs) = some (wH L xs g3 r rs)) (h1 : g3 66 9 = nI b) (h2 : g3 66 10 = nI P) (hb : P ≤ b) (hb2 : b < 1000) : f_X12_advances 84 (wH L xs g r rs) = some (wH L xs (gs g3 66 11 (nI (if 3 ≤ b - P then 5 else 2))) r rs) := by
  have hM1 : TM (gs g 66 10 (nI P)) m B := TM_f hM (LF_gs (by omega))
  unfold f_X12_advances
  rw [wi_84_9, ob_s, h9, wp_84_10, ob_s, wi_84_9, ob_s, gs_n (by omega), h9, wk_84, if_pos rfl, m_byte hB hM1 (by omega), ob_s]
  dsimp only
  rw [wp_84_12, ob_s, l_48, l_57, in_bX e_1 (TB_le hB P), ob_s, hd]
  dsimp only
  rw [if_neg (by decide), wp_84_12, ob_s, l_0, hl, ob_s, wi_84_9, ob_s, wi_84_10, ob_s, h1, h2, q_sub hb, l_3]
  by_cases h3 : 3 ≤ b - P
  · rw [if_pos (by rw [q_le (by omega) (by omega)]; exact h3), wp_84_11, ob_s, if_pos h3] <;> rfl
  · rw [if_neg (by rw [q_le (by omega) (by omega)]; exact h3), wp_84_11, ob_s, if_neg h3] <;> rfl
theorem adv_n (hB : TB m B) (hM : TM g m B) (hP : P < 100) (h9 : g 66 9 = nI P) (hd : dg (B P) = false) : f_X12_advances 84 (wH L xs g r rs) = some (wH L xs (gs (gs (gs (gs g 66 10 (nI P)) 66 12 (bX (-1) (B P))) 66 11 (nI (tkT B P))) 66 9 (nI (P + if B P = 1000 then 0 else 1))) r rs) := by
  have hM1 : TM (gs g 66 10 (nI P)) m B := TM_f hM (LF_gs (by omega))
  have nd : ¬ dg (B P) = true := by rw [hd]; decide
  unfold f_X12_advances
  rw [wi_84_9, ob_s, h9, wp_84_10, ob_s, wi_84_9, ob_s, gs_n (by omega), h9, wk_84, if_pos rfl, m_byte hB hM1 (by omega), ob_s]
  dsimp only
  rw [wp_84_12, ob_s, l_48, l_57, in_bX e_1 (TB_le hB P), ob_s, hd]
  dsimp only
  rw [if_pos (show nI false.toNat = (0 : Int32) from rfl)]
  by_cases he : B P = 1000
  · have et : tkT B P = 0 := if_pos he
    rw [et, if_pos he, he, bX_e, if_neg (by decide), ob_s]
    dsimp only
    rw [wp_84_11, ob_s, wi_84_9, ob_s, wi_84_11, ob_s, gs_same, if_pos rfl, gs_n (by omega), gs_n (by omega), gs_n (by omega), h9, l_0, q_add, wp_84_9, ob_s]
  · have hc : B P ≤ 255 := by
      rcases TB_le hB P with h | h
      · exact h
      · exact absurd h he
    have eb : bX (-1) (B P) = nI (B P) := bX_n hc
    rw [if_neg he, eb, if_pos (q_pos' (by omega)), l_97, l_122, in_ab (by omega) (by omega) (by omega), ob_s]
    dsimp only
    by_cases h1 : 97 ≤ B P ∧ B P ≤ 122
    · have et : tkT B P = 1 := by unfold tkT; rw [if_neg he, if_neg nd, if_pos h1]
      rw [et, if_pos h1, if_neg (by decide), ob_s]
      dsimp only
      rw [wp_84_11, ob_s, wi_84_9, ob_s, wi_84_11, ob_s, gs_same, if_neg (by decide), gs_n (by omega), gs_n (by omega), gs_n (by omega), h9, l_1, q_add, wp_84_9, ob_s]
    · rw [if_neg h1, if_pos (show nI 0 = (0 : Int32) from rfl), l_44, l_59]
      by_cases h2 : B P = 44
      · have et : tkT B P = 3 := by unfold tkT; rw [if_neg he, if_neg nd, if_neg h1, if_pos h2]
        rw [et, if_pos (show nI (B P) = nI 44 by rw [h2]), ob_s]
        dsimp only
        rw [wp_84_11, ob_s, wi_84_9, ob_s, wi_84_11, ob_s, gs_same, if_neg (by decide), gs_n (by omega), gs_n (by omega), gs_n (by omega), h9, l_1, q_add, wp_84_9, ob_s] <;> rfl
      · rw [if_neg (show ¬ nI (B P) = nI 44 by rw [q_eq (by omega) (by omega)]; exact h2)]
        by_cases h3 : B P = 59
        · have et : tkT B P = 4 := tk_4.mpr h3
          rw [et, if_pos (show nI (B P) = nI 59 by rw [h3]), ob_s]
          dsimp only
          rw [wp_84_11, ob_s, wi_84_9, ob_s, wi_84_11, ob_s, gs_same, if_neg (by decide), gs_n (by omega), gs_n (by omega), gs_n (by omega), h9, l_1, q_add, wp_84_9, ob_s] <;> rfl
        · have et : tkT B P = 5 := by unfold tkT; rw [if_neg he, if_neg nd, if_neg h1, if_neg h2, if_neg h3]
          rw [et, if_neg (show ¬ nI (B P) = nI 59 by rw [q_eq (by omega) (by omega)]; exact h3), ob_s]
          dsimp only
          rw [wp_84_11, ob_s, wi_84_9, ob_s, wi_84_11, ob_s, gs_same, if_neg (by decide), gs_n (by omega), gs_n (by omega), gs_n (by omega), h9, l_1, q_add, wp_84_9, ob_s] <;> rfl
theorem m_adv (hB : TB m B) (hM : TM g m B) (hP : P < 100) (h9 : g 66 9 = nI P) : ∃ g', f_X12_advances 84 (wH L xs g r rs) = some (wH L xs g' r rs) ∧ Lx g' B P ∧ LF g g' := by
  have hm := hB.1
  by_cases hd : dg (B P) = true
  · have h48 := dg_lt hd
    have hPm : P < m := TB_lt hB (by omega)
    have ad := fun b g3 => adv_d (L := L) (xs := xs) (r := r) (rs := rs) (b := b) (g3 := g3) hB hM hP h9 hd
    have F2 : LF g (gs (gs (gs g 66 10 (nI P)) 66 12 (bX (-1) (B P))) 66 12 (nI 0)) := LF.tr (LF_gs (by omega)) (LF.tr (LF_gs (by omega)) (LF_gs (by omega)))
    have z9 : gs (gs (gs g 66 10 (nI P)) 66 12 (bX (-1) (B P))) 66 12 (nI 0) 66 9 = nI P := by rw [gs_n (by omega), gs_n (by omega), gs_n (by omega)]; exact h9
    have z10 : gs (gs (gs g 66 10 (nI P)) 66 12 (bX (-1) (B P))) 66 12 (nI 0) 66 10 = nI P := by rw [gs_n (by omega), gs_n (by omega), gs_same]
    have z12 : gs (gs (gs g 66 10 (nI P)) 66 12 (bX (-1) (B P))) 66 12 (nI 0) 66 12 = nI 0 := gs_same
    generalize gs (gs (gs g 66 10 (nI P)) 66 12 (bX (-1) (B P))) 66 12 (nI 0) = g2 at ad F2 z9 z10 z12
    obtain ⟨g3, a1, a2, a3, a4⟩ := lp_1 (L := L) (xs := xs) (r := r) (rs := rs) hB (TM_f hM F2) (by omega) z9 z10 z12 hd (by omega) (by omega)
    have M3 := TM_f hM (F2.tr a4.f)
    have y10 : g3 66 10 = nI P := (a4 _ _ (by omega)).trans z10
    by_cases d1 : dg (B (P + 1)) = true
    · have h481 := dg_lt d1
      obtain ⟨g4, b1, b2, b3, b4⟩ := lp_1 (L := L) (xs := xs) (r := r) (rs := rs) hB M3 (by omega) a2 y10 a3 d1 (by omega) (by omega)
      have M4 := TM_f M3 b4.f
      have x10 : g4 66 10 = nI P := (b4 _ _ (by omega)).trans y10
      by_cases d2 : dg (B (P + 2)) = true
      · have h482 := dg_lt d2
        have hP2 : P + 2 < m := TB_lt hB (by omega)
        have et : tkT B P = 5 := by unfold tkT; rw [if_neg (by omega), if_pos hd, if_pos ⟨d1, d2⟩]
        obtain ⟨g5, c1, c2, c3⟩ := lp_2 (L := L) (xs := xs) (r := r) (rs := rs) hB M4 (show P + 2 < 1000 by omega) b2 x10 d2 (by omega)
        obtain ⟨g6, b, e1, e2, e3, e4, e5⟩ := lp_m (L := L) (xs := xs) (r := r) (rs := rs) hB 1997 (P + 3) g5 (by omega) (by omega) (by omega) (TM_f M4 c3.f) c2 ((c3 _ _ (by omega)).trans x10)
        have al : f_X12_advances_L38 xN 84 (wH L xs g2 r rs) = some (wH L xs g6 r rs) := by
          rw [show xN = 1997 + 1 + 1 + 1 from rfl, a1, b1, c1, e1]
        have w10 : g6 66 10 = nI P := (e5 _ _ (by omega)).trans ((c3 _ _ (by omega)).trans x10)
        refine ⟨_, ad b g6 al e2 w10 (by omega) (by omega), ⟨?_, ?_, fun h => by omega, fun h => by omega, fun h => by omega⟩, LF.tr F2 (LF.tr a4.f (LF.tr b4.f (LF.tr c3.f (LF.tr e5.f (LF_gs (by omega))))))⟩
        · rw [gs_n (by omega)]; exact w10
        · rw [gs_same, if_pos (by omega), et]
      · have et : tkT B P = 2 := tk_2.mpr ⟨hd, fun h => d2 h.2⟩
        have al : f_X12_advances_L38 xN 84 (wH L xs g2 r rs) = some (wH L xs g4 r rs) := by
          rw [show xN = 1997 + 1 + 1 + 1 from rfl, a1, b1, lp_stop hB M4 (show P + 2 < 1000 by omega) b2 (dg_f d2)]
        have e1 : dN B P = 2 := if_pos d1
        have e2 : vN B P = 10 * (B P - 48) + (B (P + 1) - 48) := if_pos d1
        refine ⟨_, ad (P + 2) g4 al b2 x10 (by omega) (by omega), ⟨?_, ?_, fun h => by omega, fun _ => ⟨?_, ?_⟩, fun h => by omega⟩, LF.tr F2 (LF.tr a4.f (LF.tr b4.f (LF_gs (by omega))))⟩
        · rw [gs_n (by omega)]; exact x10
        · rw [gs_same, if_neg (by omega), et]
        · rw [gs_n (by omega), b3, e2]
          congr 1
          omega
        · rw [gs_n (by omega), b2, e1]
    · have et : tkT B P = 2 := tk_2.mpr ⟨hd, fun h => d1 h.1⟩
      have al : f_X12_advances_L38 xN 84 (wH L xs g2 r rs) = some (wH L xs g3 r rs) := by
        rw [show xN = 1998 + 1 + 1 from rfl, a1, lp_stop hB M3 (by omega) a2 (dg_f d1)]
      have e1 : dN B P = 1 := if_neg d1
      have e2 : vN B P = B P - 48 := if_neg d1
      refine ⟨_, ad (P + 1) g3 al a2 y10 (by omega) (by omega), ⟨?_, ?_, fun h => by omega, fun _ => ⟨?_, ?_⟩, fun h => by omega⟩, LF.tr F2 (LF.tr a4.f (LF_gs (by omega)))⟩
      · rw [gs_n (by omega)]; exact y10
      · rw [gs_same, if_neg (by omega), et]
      · rw [gs_n (by omega), a3, e2]
        congr 1
        omega
      · rw [gs_n (by omega), a2, e1]
  · refine ⟨_, adv_n hB hM hP h9 (dg_f hd), ⟨?_, ?_, fun h => ?_, fun h => absurd (tk_2.mp h).1 hd, fun h => ?_⟩, LF.tr (LF_gs (by omega)) (LF.tr (LF_gs (by omega)) (LF.tr (LF_gs (by omega)) (LF_gs (by omega))))⟩
    · rw [gs_n (by omega), gs_n (by omega), gs_n (by omega), gs_same]
    · rw [gs_n (by omega), gs_same]
    · have he : ¬ B P = 1000 := fun e => by have := tk_0.mpr e; omega
      have hc : B P ≤ 255 := by
        rcases TB_le hB P with h | h
        · exact h
        · exact absurd h he
      refine ⟨?_, ?_⟩
      · rw [gs_n (by omega), gs_n (by omega), gs_same, bX_n hc]
      · rw [gs_same, if_neg he]
    · have he : ¬ B P = 1000 := fun e => by have := tk_0.mpr e; omega
      rw [gs_same, if_neg he]
theorem well_y (h : g 66 8 = -1) : f_X12_isWell 84 (wH L xs g r rs) = some ((1 : Int32), wH L xs g r rs) := by
  unfold f_X12_isWell
  rw [wi_84_8, ob_s, h, if_neg (by decide)]
theorem well_n (h : g 66 8 = nI Q) (hQ : Q < 1000) : f_X12_isWell 84 (wH L xs g r rs) = some ((0 : Int32), wH L xs g r rs) := by
  unfold f_X12_isWell
  rw [wi_84_8, ob_s, h, if_pos (q_pos' (by omega))]
theorem tk_ill (h : g 66 8 = nI Q) (hQ : Q < 1000) (x y : Int32) : f_X12_takes 84 x y (wH L xs g r rs) = some ((0 : Int32), wH L xs g r rs) := by
  unfold f_X12_takes
  rw [wk_84, if_pos rfl, well_n h hQ, ob_s]
  dsimp only
  rw [if_pos rfl]
theorem tk_no (h : g 66 8 = -1) (h10 : g 66 10 = nI Q) (y : Int32) : f_X12_takes 84 (0 : Int32) y (wH L xs g r rs) = some ((0 : Int32), wH L xs (gs (gs g 66 8 (nI Q)) 66 7 y) r rs) := by
  unfold f_X12_takes
  rw [wk_84, if_pos rfl, well_y h, ob_s]
  dsimp only
  rw [if_neg (by decide), if_pos rfl, wi_84_10, ob_s, h10, wp_84_8, ob_s, wp_84_7, ob_s]
theorem tk_ye {g' : xS} (h : g 66 8 = -1) (ha : f_X12_advances 84 (wH L xs g r rs) = some (wH L xs g' r rs)) (y : Int32) : f_X12_takes 84 (1 : Int32) y (wH L xs g r rs) = some (g 66 12, wH L xs g' r rs) := by
  unfold f_X12_takes
  rw [wk_84, if_pos rfl, well_y h, ob_s]
  dsimp only
  rw [if_neg (by decide), if_neg (by decide), wi_84_12, ob_s, wk_84, if_pos rfl, ha, ob_s]
theorem fig_ill (h : g 66 8 = nI Q) (hQ : Q < 1000) (x y : Int32) : f_X12_figure 84 x y (wH L xs g r rs) = some ((0 : Int32), wH L xs g r rs) := by
  obtain ⟨u, eu⟩ := in_any (g 66 12) x y (wH L xs g r rs)
  unfold f_X12_figure
  rw [wk_84, if_pos rfl, well_n h hQ, ob_s]
  dsimp only
  rw [if_pos rfl, wi_84_12, ob_s, eu, ob_s]
  dsimp only
  rw [wk_84, if_pos rfl, tk_ill h hQ, ob_s]
theorem lon_ill (h : g 66 8 = nI Q) (hQ : Q < 1000) (y : Int32) : f_X12_longer 84 y (wH L xs g r rs) = some ((0 : Int32), wH L xs g r rs) := by
  unfold f_X12_longer
  rw [wk_84, if_pos rfl, well_n h hQ, ob_s]
  dsimp only
  rw [if_pos rfl, wk_84, if_pos rfl, fig_ill h hQ, ob_s]
theorem fig_no {t : Nat} (h : g 66 8 = -1) (h10 : g 66 10 = nI Q) (h11 : g 66 11 = nI t) (ht : t ≤ 5) (h2 : t ≠ 2) (x y : Int32) : f_X12_figure 84 x y (wH L xs g r rs) = some ((0 : Int32), wH L xs (gs (gs g 66 8 (nI Q)) 66 7 (1 : Int32)) r rs) := by
  unfold f_X12_figure
  rw [wk_84, if_pos rfl, well_y h, ob_s]
  dsimp only
  rw [if_neg (by decide), wi_84_11, ob_s, h11, if_neg (show ¬ nI t = (2 : Int32) by rw [l_2, q_eq (by omega) (by omega)]; exact h2), wk_84, if_pos rfl, tk_no h h10, ob_s]
theorem fig_0 (h : g 66 8 = -1) (h10 : g 66 10 = nI Q) (h11 : g 66 11 = nI 2) (h12 : g 66 12 = nI 0) : f_X12_figure 84 (1 : Int32) (99 : Int32) (wH L xs g r rs) = some ((0 : Int32), wH L xs (gs (gs g 66 8 (nI Q)) 66 7 (2 : Int32)) r rs) := by
  unfold f_X12_figure
  rw [wk_84, if_pos rfl, well_y h, ob_s]
  dsimp only
  rw [if_neg (by decide), wi_84_11, ob_s, h11, if_pos (show nI 2 = (2 : Int32) from rfl), wi_84_12, ob_s, h12, in_99 (by omega), ob_s, if_pos rfl]
  dsimp only
  rw [wk_84, if_pos rfl, tk_no h h10, ob_s]
theorem fig_y {g' : xS} (h : g 66 8 = -1) (h11 : g 66 11 = nI 2) (h12 : g 66 12 = nI v) (hv : v ≤ 99) (h0 : 1 ≤ v) (ha : f_X12_advances 84 (wH L xs g r rs) = some (wH L xs g' r rs)) : f_X12_figure 84 (1 : Int32) (99 : Int32) (wH L xs g r rs) = some (nI v, wH L xs g' r rs) := by
  unfold f_X12_figure
  rw [wk_84, if_pos rfl, well_y h, ob_s]
  dsimp only
  rw [if_neg (by decide), wi_84_11, ob_s, h11, if_pos (show nI 2 = (2 : Int32) from rfl), wi_84_12, ob_s, h12, in_99 hv, ob_s, if_neg (show ¬ v = 0 by omega)]
  dsimp only
  rw [wk_84, if_pos rfl, tk_ye h ha, ob_s, h12]
theorem lon_no {t : Nat} (h : g 66 8 = -1) (h10 : g 66 10 = nI Q) (h11 : g 66 11 = nI t) (ht : t ≤ 5) (h2 : t ≠ 2) (y : Int32) : f_X12_longer 84 y (wH L xs g r rs) = some ((0 : Int32), wH L xs (gs (gs g 66 8 (nI Q)) 66 7 (1 : Int32)) r rs) := by
  unfold f_X12_longer
  rw [wk_84, if_pos rfl, well_y h, ob_s]
  dsimp only
  rw [if_neg (by decide), wi_84_11, ob_s, h11, if_neg (show ¬ nI t = (2 : Int32) by rw [l_2, q_eq (by omega) (by omega)]; exact h2), wk_84, if_pos rfl, fig_no h h10 h11 ht h2, ob_s]
theorem lon_0 (h : g 66 8 = -1) (h10 : g 66 10 = nI Q) (h11 : g 66 11 = nI 2) (h12 : g 66 12 = nI 0) (y : Int32) : f_X12_longer 84 y (wH L xs g r rs) = some ((0 : Int32), wH L xs (gs (gs g 66 8 (nI Q)) 66 7 (2 : Int32)) r rs) := by
  unfold f_X12_longer
  rw [wk_84, if_pos rfl, well_y h, ob_s]
  dsimp only
  rw [if_neg (by decide), wi_84_11, ob_s, h11, if_pos (show nI 2 = (2 : Int32) from rfl), wi_84_12, ob_s, h12, in_99 (by omega), ob_s, if_pos rfl]
  dsimp only
  rw [if_pos rfl, wk_84, if_pos rfl, fig_0 h h10 h11 h12, ob_s]
theorem lon_4 (h : g 66 8 = -1) (h10 : g 66 10 = nI Q) (h11 : g 66 11 = nI 2) (h12 : g 66 12 = nI v) (hv : v ≤ 99) (h0 : 1 ≤ v) (hS : S ≤ 480) (h1 : 480 < S + v) : f_X12_longer 84 (nI S) (wH L xs g r rs) = some ((0 : Int32), wH L xs (gs (gs g 66 8 (nI Q)) 66 7 (4 : Int32)) r rs) := by
  unfold f_X12_longer
  rw [wk_84, if_pos rfl, well_y h, ob_s]
  dsimp only
  rw [if_neg (by decide), wi_84_11, ob_s, h11, if_pos (show nI 2 = (2 : Int32) from rfl), wi_84_12, ob_s, h12, in_99 hv, ob_s, if_neg (show ¬ v = 0 by omega)]
  dsimp only
  rw [if_neg (by decide), wi_84_12, ob_s, h12, q_add, if_neg (show ¬ nI (S + v) ≤ (480 : Int32) by rw [l_480, q_le (by omega) (by omega)]; omega), wk_84, if_pos rfl, tk_no h h10, ob_s]
theorem lon_y {g' : xS} (h : g 66 8 = -1) (h11 : g 66 11 = nI 2) (h12 : g 66 12 = nI v) (hv : v ≤ 99) (h0 : 1 ≤ v) (hS : S ≤ 480) (h1 : S + v ≤ 480) (ha : f_X12_advances 84 (wH L xs g r rs) = some (wH L xs g' r rs)) : f_X12_longer 84 (nI S) (wH L xs g r rs) = some (nI v, wH L xs g' r rs) := by
  unfold f_X12_longer
  rw [wk_84, if_pos rfl, well_y h, ob_s]
  dsimp only
  rw [if_neg (by decide), wi_84_11, ob_s, h11, if_pos (show nI 2 = (2 : Int32) from rfl), wi_84_12, ob_s, h12, in_99 hv, ob_s, if_neg (show ¬ v = 0 by omega)]
  dsimp only
  rw [if_neg (by decide), wi_84_12, ob_s, h12, q_add, if_pos (show nI (S + v) ≤ (480 : Int32) by rw [l_480, q_le (by omega) (by omega)]; omega), wk_84, if_pos rfl, fig_y h h11 h12 hv h0 ha, ob_s]
end TXTM
