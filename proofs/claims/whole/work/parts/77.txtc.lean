/-! the text of runs: its letters, and what the reading of one run gives -/
def kL (c : Nat) : Nat := if c = 97 then 4 else if c = 98 then 5 else if c = 111 then 2 else if c = 116 then 3 else if c = 122 then 1 else 0
def dg (c : Nat) : Bool := decide (48 ≤ c ∧ c ≤ 57)
def dN (B : Nat → Nat) (P : Nat) : Nat := if dg (B (P + 1)) = true then 2 else 1
def vN (B : Nat → Nat) (P : Nat) : Nat := if dg (B (P + 1)) = true then 10 * (B P - 48) + (B (P + 1) - 48) else B P - 48
def TB (m : Nat) (B : Nat → Nat) : Prop := m ≤ 60 ∧ (∀ i, i < m → B i ≤ 255) ∧ ∀ i, m ≤ i → B i = 1000
def bX (e : Int32) (c : Nat) : Int32 := if c = 1000 then e else nI c
def GN (B : Nat → Nat) (P : Nat) : Prop := dg (B P) = true ∧ ¬ (dg (B (P + 1)) = true ∧ dg (B (P + 2)) = true)
/-- at place P, behind k runs of S bits: the fault f (0: none) and the place Q behind -/
def RR (B : Nat → Nat) (P k S f Q : Nat) : Prop :=
  (kL (B P) = 0 ∧ f = 1 ∧ Q = P) ∨
  (kL (B P) ≠ 0 ∧ ((12 ≤ k ∧ f = 3 ∧ Q = P) ∨
   (k < 12 ∧ ((¬ GN B (P + 1) ∧ f = 1 ∧ Q = P + 1) ∨
    (GN B (P + 1) ∧ ((vN B (P + 1) = 0 ∧ f = 2 ∧ Q = P + 1) ∨
     (1 ≤ vN B (P + 1) ∧ ((480 < S + vN B (P + 1) ∧ f = 4 ∧ Q = P + 1) ∨
      (S + vN B (P + 1) ≤ 480 ∧ ((B (P + 1 + dN B (P + 1)) ≠ 59 ∧ f = 1 ∧ Q = P + 1 + dN B (P + 1)) ∨
       (B (P + 1 + dN B (P + 1)) = 59 ∧ f = 0 ∧ Q = P + 1 + dN B (P + 1) + 1)))))))))))
theorem RR_ex (B : Nat → Nat) (P k S : Nat) : ∃ f Q, RR B P k S f Q := by
  unfold RR
  by_cases a : kL (B P) = 0
  · exact ⟨1, P, Or.inl ⟨a, rfl, rfl⟩⟩
  · by_cases b : 12 ≤ k
    · exact ⟨3, P, Or.inr ⟨a, Or.inl ⟨b, rfl, rfl⟩⟩⟩
    · by_cases c : GN B (P + 1)
      · by_cases d : vN B (P + 1) = 0
        · exact ⟨2, P + 1, Or.inr ⟨a, Or.inr ⟨by omega, Or.inr ⟨c, Or.inl ⟨d, rfl, rfl⟩⟩⟩⟩⟩
        · by_cases e : 480 < S + vN B (P + 1)
          · exact ⟨4, P + 1, Or.inr ⟨a, Or.inr ⟨by omega, Or.inr ⟨c, Or.inr ⟨by omega, Or.inl ⟨e, rfl, rfl⟩⟩⟩⟩⟩⟩
          · by_cases h : B (P + 1 + dN B (P + 1)) = 59
            · exact ⟨0, P + 1 + dN B (P + 1) + 1, Or.inr ⟨a, Or.inr ⟨by omega, Or.inr ⟨c, Or.inr ⟨by omega, Or.inr ⟨by omega, Or.inr ⟨h, rfl, rfl⟩⟩⟩⟩⟩⟩⟩
            · exact ⟨1, P + 1 + dN B (P + 1), Or.inr ⟨a, Or.inr ⟨by omega, Or.inr ⟨c, Or.inr ⟨by omega, Or.inr ⟨by omega, Or.inl ⟨h, rfl, rfl⟩⟩⟩⟩⟩⟩⟩
      · exact ⟨1, P + 1, Or.inr ⟨a, Or.inr ⟨by omega, Or.inl ⟨c, rfl, rfl⟩⟩⟩⟩
theorem kL_le (c : Nat) : kL c ≤ 5 := by
  unfold kL
  repeat' split
  all_goals omega
theorem dg_lt {c : Nat} (hd : dg c = true) : 48 ≤ c ∧ c ≤ 57 := of_decide_eq_true hd
theorem dg_f {b : Bool} (h : ¬ b = true) : b = false := by cases b <;> simp_all
theorem dN_b (B : Nat → Nat) (P : Nat) : 1 ≤ dN B P ∧ dN B P ≤ 2 := by
  unfold dN
  split <;> omega
theorem vN_le {B : Nat → Nat} {P : Nat} (h : GN B P) : vN B P ≤ 99 := by
  have h1 := dg_lt h.1
  unfold vN
  split
  · next h2 =>
    have h3 := dg_lt h2
    omega
  · omega
theorem TB_le {m : Nat} {B : Nat → Nat} (h : TB m B) (i : Nat) : B i ≤ 255 ∨ B i = 1000 := by
  by_cases e : i < m
  · exact Or.inl (h.2.1 i e)
  · exact Or.inr (h.2.2 i (by omega))
theorem TB_lt {m : Nat} {B : Nat → Nat} (h : TB m B) {i : Nat} (hb : B i ≠ 1000) : i < m := by
  by_cases e : i < m
  · exact e
  · exact absurd (h.2.2 i (by omega)) hb
theorem bX_n {e : Int32} {c : Nat} (h : c ≤ 255) : bX e c = nI c := if_neg (by omega)
theorem bX_e {e : Int32} : bX e 1000 = e := if_pos rfl
theorem bX_q {e : Int32} {c K : Nat} (he : e < nI 0) (hc : c ≤ 255 ∨ c = 1000) (hK : K ≤ 255) : (bX e c = nI K) = (c = K) := by
  rcases hc with hc | rfl
  · rw [bX_n hc, q_eq (by omega) (by omega)]
  · rw [bX_e, ng5 he (by omega)]
    exact (eq_false (by omega)).symm
theorem e_m6 : (-1000000 : Int32) < nI 0 := by decide
theorem c_fig {e : Int32} {c : Nat} {h : xH} (he : e < nI 0) (hc : c ≤ 255 ∨ c = 1000) : f_X7_isFigure (bX e c) h = some (nI (dg c).toNat, h) := by
  unfold f_X7_isFigure
  rcases hc with hc | rfl
  · simp (disch := omega) only [bX_n hc, l_48, l_57, q_lt]
    by_cases a : c < 48
    · rw [if_pos a, show dg c = false from decide_eq_false (by omega)] <;> rfl
    · rw [if_neg a]
      by_cases b : 57 < c
      · rw [if_pos b, show dg c = false from decide_eq_false (by omega)] <;> rfl
      · rw [if_neg b, show dg c = true from decide_eq_true (by omega)] <;> rfl
  · rw [bX_e, l_48, if_pos (of_eq_true (ng1 he (by omega)))] <;> rfl
theorem c_kol {e : Int32} {c : Nat} {h : xH} (he : e < nI 0) (hc : c ≤ 255 ∨ c = 1000) : f_X7_kindOfLetter (bX e c) h = some (nI (kL c), h) := by
  unfold f_X7_kindOfLetter kL
  simp (disch := omega) only [l_97, l_98, l_111, l_116, l_122, bX_q he hc]
  by_cases a : c = 97
  · rw [if_pos a, if_pos a] <;> rfl
  · rw [if_neg a, if_neg a]
    by_cases b : c = 98
    · rw [if_pos b, if_pos b] <;> rfl
    · rw [if_neg b, if_neg b]
      by_cases d : c = 111
      · rw [if_pos d, if_pos d] <;> rfl
      · rw [if_neg d, if_neg d]
        by_cases f : c = 116
        · rw [if_pos f, if_pos f] <;> rfl
        · rw [if_neg f, if_neg f]
          by_cases i : c = 122
          · rw [if_pos i, if_pos i] <;> rfl
          · rw [if_neg i, if_neg i] <;> rfl
def TC (g : xS) (m : Nat) (B : Nat → Nat) : Prop := g 46 3 = nI m ∧ ∀ i, i < m → g 6 i = nI (B i)
def CF (g g' : xS) : Prop := ∀ c i, c ≠ 7 → c ≠ 8 → ¬ (c = 46 ∧ 4 ≤ i) → g' c i = g c i
theorem CF.rf {g : xS} : CF g g := fun _ _ _ _ _ => rfl
theorem CF.tr {g1 g2 g3 : xS} (h1 : CF g1 g2) (h2 : CF g2 g3) : CF g1 g3 := fun c i a b d => (h2 c i a b d).trans (h1 c i a b d)
theorem CF_4 {g : xS} {i : Nat} {x : Int32} (h : 4 ≤ i) : CF g (gs g 46 i x) := fun c k _ _ h3 => gs_n (by omega)
theorem CF_7 {g : xS} {i : Nat} {x : Int32} : CF g (gs g 7 i x) := fun c k h1 _ _ => gs_n (by omega)
theorem CF_8 {g : xS} {i : Nat} {x : Int32} : CF g (gs g 8 i x) := fun c k _ h2 _ => gs_n (by omega)
theorem TC_f {g g' : xS} {m : Nat} {B : Nat → Nat} (h : TC g m B) (hf : CF g g') : TC g' m B := ⟨(hf 46 3 (by omega) (by omega) (by omega)).trans h.1, fun i hi => (hf 6 i (by omega) (by omega) (by omega)).trans (h.2 i hi)⟩
section TXTC
variable {L : Nat} {xs : Nat → Int32} {g : xS} {r : Nat → Option Nat} {rs : xH} {m i P Q k S K v : Nat} {B : Nat → Nat}
theorem c_byte (hB : TB m B) (hT : TC g m B) (hi : i < 1000) : f_X7_byteAt 37 (nI i) (wH L xs g r rs) = some (bX (-1000000) (B i), wH L xs g r rs) := by
  have hm := hB.1
  unfold f_X7_byteAt
  rw [if_neg (q_pos (by omega)), wi_37_3, ob_s, hT.1]
  by_cases h : i < m
  · rw [if_pos (nI_lt h (by omega)), wr_37_0, ob_s, wa_38' (by omega), ob_s, hT.2 i h, bX_n (hB.2.1 i h)]
  · rw [if_neg (by rw [q_lt (by omega) (by omega)]; exact h), hB.2.2 i (by omega), bX_e]
theorem c_sort (hB : TB m B) (hT : TC g m B) (hP : P < 1000) (hk : k ≤ 12) (h4 : g 46 4 = nI P) (h5 : g 46 5 = nI k) : f_X7_readSort 37 (wH L xs g r rs) = some (if kL (B P) = 0 then (nI 1, wH L xs (gs g 46 7 (nI (kL (B P)))) r rs) else if 12 ≤ k then (nI 3, wH L xs (gs g 46 7 (nI (kL (B P)))) r rs) else (nI 0, wH L xs (gs (gs g 46 7 (nI (kL (B P)))) 46 4 (nI (P + 1))) r rs)) := by
  have hkl := kL_le (B P)
  unfold f_X7_readSort
  rw [wi_37_4, ob_s, h4, wk_37, if_pos rfl, c_byte hB hT hP, ob_s]
  dsimp only
  rw [c_kol e_m6 (TB_le hB P), ob_s]
  dsimp only
  rw [wp_37_7, ob_s, wi_37_7, ob_s, gs_same]
  by_cases a : kL (B P) = 0
  · rw [if_pos (i_z0 (by omega) a), if_pos a] <;> rfl
  · rw [if_neg (i_nz (by omega) a), if_neg a, wi_37_5, ob_s, gs_n (by omega), h5, l_12]
    by_cases b : k < 12
    · rw [if_pos (by rw [q_lt (by omega) (by omega)]; exact b), if_neg (by omega), wi_37_4, ob_s, gs_n (by omega), h4, l_1, q_add, wp_37_4, ob_s] <;> rfl
    · rw [if_neg (by rw [q_lt (by omega) (by omega)]; exact b), if_pos (by omega)] <;> rfl
theorem rn_stop (hB : TB m B) (hT : TC g m B) (hi : i < 1000) (hd : dg (B i) = false) (n : Nat) (x y : Int32) : f_X7_readNumber_L9 (n + 1) 37 x y (nI i) (wH L xs g r rs) = some (x, y, nI i, wH L xs g r rs) := by
  have hm := hB.1
  unfold f_X7_readNumber_L9
  rw [wi_37_3, ob_s, hT.1]
  by_cases h : m ≤ i
  · rw [if_pos (by rw [q_le (by omega) (by omega)]; exact h)]
  · rw [if_neg (by rw [q_le (by omega) (by omega)]; exact h), wk_37, if_pos rfl, c_byte hB hT hi, ob_s]
    dsimp only
    rw [c_fig e_m6 (TB_le hB i), ob_s, hd]
    dsimp only
    rw [if_pos (by decide)]
theorem rn_go (hB : TB m B) (hT : TC g m B) {a b i' a' b' : Nat} (hi : i < 1000) (hd : dg (B i) = true) (n : Nat) (ha : a < 3) (ha' : a' = a + 1) (hb' : b' = 10 * b + (B i - 48)) (hi' : i' = i + 1) : f_X7_readNumber_L9 (n + 1) 37 (nI a) (nI b) (nI i) (wH L xs g r rs) = f_X7_readNumber_L9 n 37 (nI a') (nI b') (nI i') (wH L xs g r rs) := by
  have hm := hB.1
  have h48 := dg_lt hd
  have him : i < m := TB_lt hB (by omega)
  subst ha' hb' hi'
  conv => lhs; unfold f_X7_readNumber_L9
  rw [wi_37_3, ob_s, hT.1, if_neg (by rw [q_le (by omega) (by omega)]; omega), wk_37, if_pos rfl, c_byte hB hT hi, ob_s]
  dsimp only
  rw [c_fig e_m6 (TB_le hB i), ob_s, hd]
  dsimp only
  rw [if_neg (by decide), l_3, if_neg (by rw [q_le (by omega) (by omega)]; omega), wk_37, if_pos rfl, c_byte hB hT hi, ob_s]
  dsimp only
  rw [bX_n (by omega), l_10, q_mul, q_add, l_48, q_sub (by omega), l_1, q_add, q_add, show 10 * b + B i - 48 = 10 * b + (B i - 48) by omega]
theorem rn_3 (hB : TB m B) (hT : TC g m B) (hi : i < 1000) (n : Nat) (y : Int32) : f_X7_readNumber_L9 (n + 1) 37 (nI 3) y (nI i) (wH L xs g r rs) = some (nI 3, y, nI i, wH L xs g r rs) := by
  by_cases hd : dg (B i) = true
  · have hm := hB.1
    have h48 := dg_lt hd
    have him : i < m := TB_lt hB (by omega)
    unfold f_X7_readNumber_L9
    rw [wi_37_3, ob_s, hT.1, if_neg (by rw [q_le (by omega) (by omega)]; omega), wk_37, if_pos rfl, c_byte hB hT hi, ob_s]
    dsimp only
    rw [c_fig e_m6 (TB_le hB i), ob_s, hd]
    dsimp only
    rw [if_neg (by decide), if_pos (by decide)]
  · exact rn_stop hB hT hi (dg_f hd) n _ _
theorem rn_g (hB : TB m B) (hT : TC g m B) (hP : P < 100) (hG : GN B P) : f_X7_readNumber_L9 xN 37 (nI 0) (nI 0) (nI P) (wH L xs g r rs) = some (nI (dN B P), nI (vN B P), nI (P + dN B P), wH L xs g r rs) := by
  obtain ⟨h1, h2⟩ := hG
  have a1 := dg_lt h1
  by_cases hd : dg (B (P + 1)) = true
  · have hd3 : dg (B (P + 2)) = false := dg_f (fun e => h2 ⟨hd, e⟩)
    have e1 : dN B P = 2 := if_pos hd
    have e2 : vN B P = 10 * (B P - 48) + (B (P + 1) - 48) := if_pos hd
    rw [e1, e2, show xN = 1997 + 1 + 1 + 1 from rfl, rn_go hB hT (by omega) h1 (1997 + 1 + 1) (show 0 < 3 by omega) (show 1 = 0 + 1 from rfl) (show B P - 48 = 10 * 0 + (B P - 48) by omega) (show P + 1 = P + 1 from rfl), rn_go hB hT (by omega) hd (1997 + 1) (show 1 < 3 by omega) (show 2 = 1 + 1 from rfl) (show 10 * (B P - 48) + (B (P + 1) - 48) = 10 * (B P - 48) + (B (P + 1) - 48) from rfl) (show P + 2 = P + 1 + 1 from rfl), rn_stop hB hT (by omega) hd3]
  · have e1 : dN B P = 1 := if_neg hd
    have e2 : vN B P = B P - 48 := if_neg hd
    rw [e1, e2, show xN = 1998 + 1 + 1 from rfl, rn_go hB hT (by omega) h1 (1998 + 1) (show 0 < 3 by omega) (show 1 = 0 + 1 from rfl) (show B P - 48 = 10 * 0 + (B P - 48) by omega) (show P + 1 = P + 1 from rfl), rn_stop hB hT (by omega) (dg_f hd)]
theorem rn_bad (hB : TB m B) (hT : TC g m B) (hP : P < 100) (h4 : g 46 4 = nI P) (hG : ¬ GN B P) : f_X7_readNumber 37 (wH L xs g r rs) = some (nI 1, wH L xs g r rs) := by
  have hm := hB.1
  obtain ⟨fg, y, z, e, hf⟩ : ∃ fg y z, f_X7_readNumber_L9 xN 37 (nI 0) (nI 0) (nI P) (wH L xs g r rs) = some (nI fg, y, z, wH L xs g r rs) ∧ (fg = 0 ∨ fg = 3) := by
    by_cases h1 : dg (B P) = true
    · have h23 : dg (B (P + 1)) = true ∧ dg (B (P + 2)) = true := by
        by_cases e : dg (B (P + 1)) = true ∧ dg (B (P + 2)) = true
        · exact e
        · exact absurd ⟨h1, e⟩ hG
      refine ⟨3, nI (10 * (10 * (B P - 48) + (B (P + 1) - 48)) + (B (P + 2) - 48)), nI (P + 3), ?_, Or.inr rfl⟩
      rw [show xN = 1996 + 1 + 1 + 1 + 1 from rfl, rn_go hB hT (by omega) h1 (1996 + 1 + 1 + 1) (show 0 < 3 by omega) (show 1 = 0 + 1 from rfl) (show B P - 48 = 10 * 0 + (B P - 48) by omega) (show P + 1 = P + 1 from rfl), rn_go hB hT (by omega) h23.1 (1996 + 1 + 1) (show 1 < 3 by omega) (show 2 = 1 + 1 from rfl) (show 10 * (B P - 48) + (B (P + 1) - 48) = 10 * (B P - 48) + (B (P + 1) - 48) from rfl) (show P + 2 = P + 1 + 1 from rfl), rn_go hB hT (by omega) h23.2 (1996 + 1) (show 2 < 3 by omega) (show 3 = 2 + 1 from rfl) (show 10 * (10 * (B P - 48) + (B (P + 1) - 48)) + (B (P + 2) - 48) = 10 * (10 * (B P - 48) + (B (P + 1) - 48)) + (B (P + 2) - 48) from rfl) (show P + 3 = P + 2 + 1 from rfl), rn_3 hB hT (by omega)]
    · refine ⟨0, nI 0, nI P, ?_, Or.inl rfl⟩
      rw [show xN = 1999 + 1 from rfl]
      exact rn_stop hB hT (by omega) (dg_f h1) _ _ _
  unfold f_X7_readNumber
  rw [wi_37_4, ob_s, h4, l_0, e, ob_s]
  dsimp only
  rcases hf with rfl | rfl
  · rw [if_pos (by decide)] <;> rfl
  · rw [if_neg (by decide), if_neg (by decide)] <;> rfl
theorem rn_zero (hB : TB m B) (hT : TC g m B) (hP : P < 100) (h4 : g 46 4 = nI P) (hG : GN B P) (h0 : vN B P = 0) : f_X7_readNumber 37 (wH L xs g r rs) = some (nI 2, wH L xs g r rs) := by
  have hd := dN_b B P
  unfold f_X7_readNumber
  rw [wi_37_4, ob_s, h4, l_0, rn_g hB hT hP hG, ob_s]
  dsimp only
  rw [l_1, l_2, if_neg (by rw [q_lt (by omega) (by omega)]; omega), if_pos (by rw [q_le (by omega) (by omega)]; omega), if_neg (by rw [q_le (by omega) (by omega)]; omega)]
theorem rn_over (hB : TB m B) (hT : TC g m B) (hP : P < 100) (h4 : g 46 4 = nI P) (h6 : g 46 6 = nI S) (hS : S ≤ 480) (hG : GN B P) (h0 : 1 ≤ vN B P) (h1 : 480 < S + vN B P) : f_X7_readNumber 37 (wH L xs g r rs) = some (nI 4, wH L xs g r rs) := by
  have hd := dN_b B P
  have hv := vN_le hG
  unfold f_X7_readNumber
  rw [wi_37_4, ob_s, h4, l_0, rn_g hB hT hP hG, ob_s]
  dsimp only
  rw [l_1, l_2, if_neg (by rw [q_lt (by omega) (by omega)]; omega), if_pos (by rw [q_le (by omega) (by omega)]; omega), if_pos (by rw [q_le (by omega) (by omega)]; omega), wi_37_6, ob_s, h6, q_add, l_480, if_neg (by rw [q_le (by omega) (by omega)]; omega)] <;> rfl
theorem rn_good (hB : TB m B) (hT : TC g m B) (hP : P < 100) (h4 : g 46 4 = nI P) (h6 : g 46 6 = nI S) (hS : S ≤ 480) (hG : GN B P) (h0 : 1 ≤ vN B P) (h1 : S + vN B P ≤ 480) : f_X7_readNumber 37 (wH L xs g r rs) = some (nI 0, wH L xs (gs (gs g 46 8 (nI (vN B P))) 46 4 (nI (P + dN B P))) r rs) := by
  have hd := dN_b B P
  have hv := vN_le hG
  unfold f_X7_readNumber
  rw [wi_37_4, ob_s, h4, l_0, rn_g hB hT hP hG, ob_s]
  dsimp only
  rw [l_1, l_2, if_neg (by rw [q_lt (by omega) (by omega)]; omega), if_pos (by rw [q_le (by omega) (by omega)]; omega), if_pos (by rw [q_le (by omega) (by omega)]; omega), wi_37_6, ob_s, h6, q_add, l_480, if_pos (by rw [q_le (by omega) (by omega)]; omega), wp_37_8, ob_s, wi_37_4, ob_s, gs_n (by omega), h4, q_add, wp_37_4, ob_s]
theorem sm_bad (hB : TB m B) (hT : TC g m B) (hQ : Q < 100) (h4 : g 46 4 = nI Q) (hq : B Q ≠ 59) : f_X7_readSemicolon 37 (wH L xs g r rs) = some (nI 1, wH L xs g r rs) := by
  unfold f_X7_readSemicolon
  rw [wi_37_4, ob_s, h4, wk_37, if_pos rfl, c_byte hB hT (by omega), ob_s]
  dsimp only
  rw [l_59, if_neg (by rw [bX_q e_m6 (TB_le hB Q) (by omega)]; exact hq)] <;> rfl
theorem sm_ok (hB : TB m B) (hT : TC g m B) (hQ : Q < 100) (hk : k < 12) (h4 : g 46 4 = nI Q) (h5 : g 46 5 = nI k) (h6 : g 46 6 = nI S) (h7 : g 46 7 = nI K) (h8 : g 46 8 = nI v) (hq : B Q = 59) : f_X7_readSemicolon 37 (wH L xs g r rs) = some (nI 0, wH L xs (gs (gs (gs (gs (gs g 7 k (nI K)) 8 k (nI v)) 46 5 (nI (k + 1))) 46 6 (nI (S + v))) 46 4 (nI (Q + 1))) r rs) := by
  have e59 : bX (-1000000) 59 = nI 59 := rfl
  unfold f_X7_readSemicolon
  rw [wi_37_4, ob_s, h4, wk_37, if_pos rfl, c_byte hB hT (by omega), ob_s]
  dsimp only
  rw [hq, e59, l_59, if_pos rfl]
  simp (disch := omega) only [q_pos, q_pos', q_lt, q_le, q_eq, q_add, q_sub, q_mul, ob_s, if_pos, if_neg, not_false_eq_true, q_m1', q_div, rm_N, l_0, l_1, l_2, l_3, l_4, l_5, l_6, l_7, l_8, l_10, l_11, l_12, l_13, l_14, l_15, l_16, l_18, l_20, l_21, l_22, l_23, l_24, l_32, l_33, l_40, l_44, l_48, l_57, l_59, l_60, l_63, l_64, l_97, l_98, l_99, l_100, l_111, l_116, l_122, l_132, l_200, l_240, l_255, l_480, l_1000, l_1452, if_true, if_false, true_or, or_true, in_neg, in_m1, in_n, V1, V2, R1, R2, B1, B2, eq_self, wk_3, wk_10, wk_37, wk_42, wr_3_0, wr_3_1, wr_3_2, wr_3_3, wr_3_4, wr_3_5, wr_3_6, wr_3_7, wr_3_8, wi_3_9, wi_3_10, wi_3_11, wp_3_9, wp_3_10, wp_3_11, wr_10_0, wr_10_1, wi_10_2, wi_10_3, wp_10_2, wp_10_3, wr_37_0, wr_37_1, wr_37_2, wi_37_3, wp_37_3, wi_37_4, wp_37_4, wi_37_5, wp_37_5, wi_37_6, wp_37_6, wi_37_7, wp_37_7, wi_37_8, wp_37_8, wr_42_0, wi_42_1, wp_42_1, h4, h5, h6, h7, h8, wu_39', wu_40', gs_n, gs_same]
def CS (g : xS) (m : Nat) (B : Nat → Nat) (P k S : Nat) : Prop := TC g m B ∧ g 46 4 = nI P ∧ g 46 5 = nI k ∧ g 46 6 = nI S
theorem c_run {f : Nat} (hB : TB m B) (hP : P ≤ m) (hk : k ≤ 12) (hS : S ≤ 480) (hC : CS g m B P k S) (hR : RR B P k S f Q) : ∃ g', f_X7_readRun 37 (wH L xs g r rs) = some (nI f, wH L xs g' r rs) ∧ g' 46 4 = nI Q ∧ CF g g' ∧ (f = 0 → g' 46 5 = nI (k + 1) ∧ g' 46 6 = nI (S + vN B (P + 1)) ∧ g' 7 k = nI (kL (B P)) ∧ g' 8 k = nI (vN B (P + 1)) ∧ ∀ i, i ≠ k → g' 7 i = g 7 i ∧ g' 8 i = g 8 i) := by
  obtain ⟨hT, h4, h5, h6⟩ := hC
  have hm := hB.1
  have hs := c_sort (L := L) (xs := xs) (r := r) (rs := rs) hB hT (by omega) hk h4 h5
  have n0 : ∀ {x : Nat}, x < 2147483648 → x ≠ 0 → ¬ nI x = (0 : Int32) := fun h e => i_nz h e
  unfold f_X7_readRun
  rw [wk_37, if_pos rfl, hs]
  rcases hR with ⟨a, rfl, rfl⟩ | ⟨a, hR⟩
  · refine ⟨gs g 46 7 (nI (kL (B Q))), ?_, by rw [gs_n (by omega)]; exact h4, CF_4 (by omega), fun h => absurd h (by omega)⟩
    rw [if_pos a, ob_s]
    dsimp only
    rw [if_neg (by decide), if_neg (by decide)]
  · rcases hR with ⟨b, rfl, rfl⟩ | ⟨b, hR⟩
    · refine ⟨gs g 46 7 (nI (kL (B Q))), ?_, by rw [gs_n (by omega)]; exact h4, CF_4 (by omega), fun h => absurd h (by omega)⟩
      rw [if_neg a, if_pos b, ob_s]
      dsimp only
      rw [if_neg (by decide), if_neg (by decide)]
    · have F1 : CF g (gs (gs g 46 7 (nI (kL (B P)))) 46 4 (nI (P + 1))) := CF.tr (CF_4 (by omega)) (CF_4 (by omega))
      have hT1 := TC_f hT F1
      have q4 : gs (gs g 46 7 (nI (kL (B P)))) 46 4 (nI (P + 1)) 46 4 = nI (P + 1) := gs_same
      have q5 : gs (gs g 46 7 (nI (kL (B P)))) 46 4 (nI (P + 1)) 46 5 = nI k := by rw [gs_n (by omega), gs_n (by omega)]; exact h5
      have q6 : gs (gs g 46 7 (nI (kL (B P)))) 46 4 (nI (P + 1)) 46 6 = nI S := by rw [gs_n (by omega), gs_n (by omega)]; exact h6
      have q7 : gs (gs g 46 7 (nI (kL (B P)))) 46 4 (nI (P + 1)) 46 7 = nI (kL (B P)) := by rw [gs_n (by omega), gs_same]
      have u7 : ∀ i, gs (gs g 46 7 (nI (kL (B P)))) 46 4 (nI (P + 1)) 7 i = g 7 i := fun i => by rw [gs_n (by omega), gs_n (by omega)]
      have u8 : ∀ i, gs (gs g 46 7 (nI (kL (B P)))) 46 4 (nI (P + 1)) 8 i = g 8 i := fun i => by rw [gs_n (by omega), gs_n (by omega)]
      rw [if_neg a, if_neg (by omega), ob_s]
      generalize gs (gs g 46 7 (nI (kL (B P)))) 46 4 (nI (P + 1)) = g1 at F1 hT1 q4 q5 q6 q7 u7 u8
      dsimp only
      rw [if_pos (show nI 0 = (0 : Int32) from rfl), wk_37, if_pos rfl]
      rcases hR with ⟨c, rfl, rfl⟩ | ⟨c, hR⟩
      · refine ⟨g1, ?_, q4, F1, fun h => absurd h (by omega)⟩
        rw [rn_bad hB hT1 (by omega) q4 c, ob_s]
        dsimp only
        rw [if_neg (by decide)]
      · have hd := dN_b B (P + 1)
        rcases hR with ⟨d, rfl, rfl⟩ | ⟨d, hR⟩
        · refine ⟨g1, ?_, q4, F1, fun h => absurd h (by omega)⟩
          rw [rn_zero hB hT1 (by omega) q4 c d, ob_s]
          dsimp only
          rw [if_neg (by decide)]
        · rcases hR with ⟨e, rfl, rfl⟩ | ⟨e, hR⟩
          · refine ⟨g1, ?_, q4, F1, fun h => absurd h (by omega)⟩
            rw [rn_over hB hT1 (by omega) q4 q6 hS c d e, ob_s]
            dsimp only
            rw [if_neg (by decide)]
          · have F2 : CF g1 (gs (gs g1 46 8 (nI (vN B (P + 1)))) 46 4 (nI (P + 1 + dN B (P + 1)))) := CF.tr (CF_4 (by omega)) (CF_4 (by omega))
            have hT2 := TC_f hT1 F2
            have p4 : gs (gs g1 46 8 (nI (vN B (P + 1)))) 46 4 (nI (P + 1 + dN B (P + 1))) 46 4 = nI (P + 1 + dN B (P + 1)) := gs_same
            have p5 : gs (gs g1 46 8 (nI (vN B (P + 1)))) 46 4 (nI (P + 1 + dN B (P + 1))) 46 5 = nI k := by rw [gs_n (by omega), gs_n (by omega)]; exact q5
            have p6 : gs (gs g1 46 8 (nI (vN B (P + 1)))) 46 4 (nI (P + 1 + dN B (P + 1))) 46 6 = nI S := by rw [gs_n (by omega), gs_n (by omega)]; exact q6
            have p7 : gs (gs g1 46 8 (nI (vN B (P + 1)))) 46 4 (nI (P + 1 + dN B (P + 1))) 46 7 = nI (kL (B P)) := by rw [gs_n (by omega), gs_n (by omega)]; exact q7
            have p8 : gs (gs g1 46 8 (nI (vN B (P + 1)))) 46 4 (nI (P + 1 + dN B (P + 1))) 46 8 = nI (vN B (P + 1)) := by rw [gs_n (by omega), gs_same]
            have w7 : ∀ i, gs (gs g1 46 8 (nI (vN B (P + 1)))) 46 4 (nI (P + 1 + dN B (P + 1))) 7 i = g 7 i := fun i => by rw [gs_n (by omega), gs_n (by omega)]; exact u7 i
            have w8 : ∀ i, gs (gs g1 46 8 (nI (vN B (P + 1)))) 46 4 (nI (P + 1 + dN B (P + 1))) 8 i = g 8 i := fun i => by rw [gs_n (by omega), gs_n (by omega)]; exact u8 i
            rw [rn_good hB hT1 (by omega) q4 q6 hS c d e, ob_s]
            generalize gs (gs g1 46 8 (nI (vN B (P + 1)))) 46 4 (nI (P + 1 + dN B (P + 1))) = g2 at F2 hT2 p4 p5 p6 p7 p8 w7 w8
            dsimp only
            rw [if_pos (show nI 0 = (0 : Int32) from rfl), wk_37, if_pos rfl]
            rcases hR with ⟨h, rfl, rfl⟩ | ⟨h, rfl, rfl⟩
            · refine ⟨g2, ?_, p4, CF.tr F1 F2, fun h => absurd h (by omega)⟩
              rw [sm_bad hB hT2 (by omega) p4 h, ob_s]
            · refine ⟨_, by rw [sm_ok hB hT2 (by omega) b p4 p5 p6 p7 p8 h, ob_s], gs_same, CF.tr F1 (CF.tr F2 (CF.tr CF_7 (CF.tr CF_8 (CF.tr (CF_4 (by omega)) (CF.tr (CF_4 (by omega)) (CF_4 (by omega))))))), fun _ => ⟨?_, ?_, ?_, ?_, fun i hi => ⟨?_, ?_⟩⟩⟩
              · rw [gs_n (by omega), gs_n (by omega), gs_same]
              · rw [gs_n (by omega), gs_same]
              · rw [gs_n (by omega), gs_n (by omega), gs_n (by omega), gs_n (by omega), gs_same]
              · rw [gs_n (by omega), gs_n (by omega), gs_n (by omega), gs_same]
              · rw [gs_n (by omega), gs_n (by omega), gs_n (by omega), gs_n (by omega), gs_n (by omega)]
                exact w7 i
              · rw [gs_n (by omega), gs_n (by omega), gs_n (by omega), gs_n (by omega), gs_n (by omega)]
                exact w8 i
end TXTC
