/-! what the class and the reference hold in common -/
def rRow (g : xS) : Prop := ∀ k, k < 8 → ((g 2 k = 1 ∧ g 50 k = -1000000) ∨ (g 2 k = 0 ∧ g 50 k = g 3 k ∧ ∃ l, l < 3 ∧ g 3 k = nI l)) ∧ (∃ n, n ≤ 40 ∧ g 4 k = nI n ∧ g 51 k = nI n) ∧ ∀ i, i < 40 → g (11 + k) i = g 52 (40 * k + i)
def rTap (g : xS) : Prop := ∃ m, m ≤ 60 ∧ g 46 3 = nI m ∧ g 66 6 = nI m ∧ (∀ i, i < 60 → g 6 i = g 54 i) ∧ ∀ i, i < m → ∃ c, c ≤ 255 ∧ g 6 i = nI c
def rFs (g : xS) : Prop := g 0 10 = g 66 7 ∧ g 0 11 = g 66 4
def rVec (g : xS) : Prop := ∀ v, v < 4 → ∃ n p, vOK g (13 + v) n p ∧ mOK g 55 (33 * v) n p
def rImg (g : xS) : Prop := ∀ k, k < 2 → (g 10 k = 0 ∧ g 59 k = 0) ∨ (g 10 k = 1 ∧ g 59 k = 1 ∧ ∀ v, v < 4 → ∃ n p, vOK g (17 + (4 * k + v)) n p ∧ mOK g 58 (132 * k + 33 * v) n p)
def rCh (g : xS) : Prop := ∀ k, k < 256 → g 64 k = CHf k
def rTr (g : xS) : Prop := ∃ m, m ≤ 16 ∧ g 48 1 = nI m ∧ g 66 27 = nI m ∧ ∀ i, i < m → g 9 i = g 65 i
/-- the class of a run of a kind -/
def kC (K : Nat) : Nat := if K = 1 then 9 else if K = 2 then 4 else if K = 3 then 7 else if K = 4 then 0 else 2
def rRun (g : xS) (r : Nat → Option Nat) (rs : xH) : Prop := ∃ m, m ≤ 12 ∧ g 0 9 = nI m ∧ g 66 19 = nI m ∧ ∀ i, i < m → ∃ a K len, r i = some (101 + a) ∧ 1 ≤ K ∧ K ≤ 5 ∧ len ≤ 99 ∧ rs[a]? = some (.inr (kC K, [.int (nI i), .int (nI len)])) ∧ g 60 i = nI K ∧ g 61 i = nI len
def hisP (g : xS) (o h : Nat) : Prop := o < 12 ∧ h ≤ 12 ∧ g 47 2 = nI o ∧ g 47 3 = nI h ∧ g 66 16 = nI h ∧ ∀ t, t < h → ∃ w, w < 4 ∧ g 5 ((o + t) % 12) = nI w ∧ (∃ n p, vOK g (1 + (o + t) % 12) n p ∧ mOK g 57 (132 * t + 33 * w) n p) ∧ ∀ v, v < 4 → v ≠ w → ∀ k, k < 33 → g 57 (132 * t + 33 * v + k) = if t + 1 < h then g 57 (132 * (t + 1) + 33 * v + k) else g 55 (33 * v + k)
def rHis (g : xS) : Prop := ∃ o h, hisP g o h
abbrev Rel (g : xS) (r : Nat → Option Nat) (rs : xH) : Prop := rRow g ∧ rTap g ∧ rFs g ∧ rVec g ∧ rImg g ∧ rCh g ∧ rTr g ∧ rRun g r rs ∧ rHis g
section REL
variable {g : xS} {r : Nat → Option Nat} {rs : xH}
theorem Rel.row (R : Rel g r rs) : rRow g := R.1
theorem Rel.tap (R : Rel g r rs) : rTap g := R.2.1
theorem Rel.fs (R : Rel g r rs) : rFs g := R.2.2.1
theorem Rel.vec (R : Rel g r rs) : rVec g := R.2.2.2.1
theorem Rel.img (R : Rel g r rs) : rImg g := R.2.2.2.2.1
theorem Rel.ch (R : Rel g r rs) : rCh g := R.2.2.2.2.2.1
theorem Rel.tr (R : Rel g r rs) : rTr g := R.2.2.2.2.2.2.1
theorem Rel.run (R : Rel g r rs) : rRun g r rs := R.2.2.2.2.2.2.2.1
theorem Rel.his (R : Rel g r rs) : rHis g := R.2.2.2.2.2.2.2.2
end REL
theorem vOK_eq {g g' : xS} {j n : Nat} {p : Nat → Bool} (h : vOK g j n p) (h1 : g' 1 j = g 1 j) (h2 : ∀ b, b < 32 → g' (20 + j) b = g (20 + j) b) : vOK g' j n p := by
  obtain ⟨a1, a2, a3, a4⟩ := h
  exact ⟨a1, h1.trans a2, a3, fun b hb => (h2 b hb).trans (a4 b hb)⟩
theorem mOK_eq {g g' : xS} {c c' bs bs' n : Nat} {p : Nat → Bool} (h : mOK g c bs n p) (h1 : ∀ k, k < 33 → g' c' (bs' + k) = g c (bs + k)) : mOK g' c' bs' n p := by
  obtain ⟨a1, a2, a3, a4⟩ := h
  refine ⟨a1, (h1 0 (by omega)).trans a2, a3, fun b hb => ?_⟩
  have := h1 (1 + b) (by omega)
  rw [show bs' + 1 + b = bs' + (1 + b) by omega, this, show bs + (1 + b) = bs + 1 + b by omega]
  exact a4 b hb
section CONG
variable {g g' : xS} {r : Nat → Option Nat} {rs : xH}
theorem rRow_c (h : rRow g) (e : ∀ c k, (c = 2 ∨ c = 3 ∨ c = 4 ∨ c = 50 ∨ c = 51 ∨ c = 52 ∨ (11 ≤ c ∧ c < 19)) → g' c k = g c k) : rRow g' := by
  intro k hk
  have := h k hk
  have e1 : ∀ i, g' (11 + k) i = g (11 + k) i := fun i => e _ i (by omega)
  simp only [e 2 k (by omega), e 3 k (by omega), e 4 k (by omega), e 50 k (by omega), e 51 k (by omega), e1]
  refine ⟨this.1, this.2.1, fun i hi => ?_⟩
  rw [e 52 _ (by omega)]
  exact this.2.2 i hi
theorem rTap_c (h : rTap g) (e : ∀ c k, (c = 6 ∨ c = 54 ∨ (c = 46 ∧ k = 3) ∨ (c = 66 ∧ k = 6)) → g' c k = g c k) : rTap g' := by
  obtain ⟨m, h1, h2, h3, h4, h5⟩ := h
  refine ⟨m, h1, by rw [e _ _ (by omega)]; exact h2, by rw [e _ _ (by omega)]; exact h3, fun i hi => ?_, fun i hi => ?_⟩
  · rw [e 6 _ (by omega), e 54 _ (by omega)]; exact h4 i hi
  · rw [e 6 _ (by omega)]; exact h5 i hi
theorem rVec_c (h : rVec g) (e : ∀ c k, ((c = 1 ∧ 13 ≤ k ∧ k < 17) ∨ (33 ≤ c ∧ c < 37) ∨ (c = 55 ∧ k < 132)) → g' c k = g c k) : rVec g' := by
  intro v hv
  obtain ⟨n, p, h1, h2⟩ := h v hv
  exact ⟨n, p, vOK_eq h1 (e _ _ (by omega)) (fun b _ => e _ _ (by omega)), mOK_eq h2 (fun k hk => e _ _ (by omega))⟩
theorem rImg_c (h : rImg g) (e : ∀ c k, ((c = 1 ∧ 17 ≤ k ∧ k < 25) ∨ (37 ≤ c ∧ c < 45) ∨ c = 58 ∨ c = 10 ∨ c = 59) → g' c k = g c k) : rImg g' := by
  intro k hk
  rw [e 10 k (by omega), e 59 k (by omega)]
  rcases h k hk with a | ⟨a, b, c⟩
  · exact Or.inl a
  · refine Or.inr ⟨a, b, fun v hv => ?_⟩
    obtain ⟨n, p, h1, h2⟩ := c v hv
    exact ⟨n, p, vOK_eq h1 (e _ _ (by omega)) (fun b _ => e _ _ (by omega)), mOK_eq h2 (fun k hk => e _ _ (by omega))⟩
theorem rCh_c (h : rCh g) (e : ∀ k, g' 64 k = g 64 k) : rCh g' := fun k hk => (e k).trans (h k hk)
theorem rTr_c (h : rTr g) (e : ∀ c k, (c = 9 ∨ c = 65 ∨ c = 48 ∨ (c = 66 ∧ k = 27)) → g' c k = g c k) : rTr g' := by
  obtain ⟨m, h1, h2, h3, h4⟩ := h
  refine ⟨m, h1, by rw [e _ _ (by omega)]; exact h2, by rw [e _ _ (by omega)]; exact h3, fun i hi => ?_⟩
  rw [e 9 _ (by omega), e 65 _ (by omega)]; exact h4 i hi
theorem rRun_c (h : rRun g r rs) (e : ∀ c k, (c = 60 ∨ c = 61 ∨ (c = 0 ∧ k = 9) ∨ (c = 66 ∧ k = 19)) → g' c k = g c k) : rRun g' r rs := by
  obtain ⟨m, h1, h2, h3, h4⟩ := h
  refine ⟨m, h1, by rw [e _ _ (by omega)]; exact h2, by rw [e _ _ (by omega)]; exact h3, fun i hi => ?_⟩
  rw [e 60 _ (by omega), e 61 _ (by omega)]; exact h4 i hi
theorem hisP_c {o h : Nat} (hh : hisP g o h) (e : ∀ c k, (c = 5 ∨ c = 47 ∨ c = 57 ∨ (c = 55 ∧ k < 132) ∨ (c = 66 ∧ k = 16) ∨ (c = 1 ∧ 1 ≤ k ∧ k < 13) ∨ (21 ≤ c ∧ c < 33)) → g' c k = g c k) : hisP g' o h := by
  obtain ⟨h1, h2, h3, h4, h5, h6⟩ := hh
  refine ⟨h1, h2, by rw [e _ _ (by omega)]; exact h3, by rw [e _ _ (by omega)]; exact h4, by rw [e _ _ (by omega)]; exact h5, fun t ht => ?_⟩
  obtain ⟨w, a1, a2, ⟨n, p, a3, a4⟩, a5⟩ := h6 t ht
  refine ⟨w, a1, by rw [e _ _ (by omega)]; exact a2, ⟨n, p, vOK_eq a3 (e _ _ (by omega)) (fun b _ => e _ _ (by omega)), mOK_eq a4 (fun k hk => e _ _ (by omega))⟩, fun v hv hvw k hk => ?_⟩
  rw [e 57 _ (by omega), e 57 _ (by omega), e 55 _ (by omega)]
  exact a5 v hv hvw k hk
theorem rHis_c (hh : rHis g) (e : ∀ c k, (c = 5 ∨ c = 47 ∨ c = 57 ∨ (c = 55 ∧ k < 132) ∨ (c = 66 ∧ k = 16) ∨ (c = 1 ∧ 1 ≤ k ∧ k < 13) ∨ (21 ≤ c ∧ c < 33)) → g' c k = g c k) : rHis g' := by
  obtain ⟨o, h, hh⟩ := hh
  exact ⟨o, h, hisP_c hh e⟩
end CONG
/-- what the class has kept of vector w ahead of an act -/
def Kp (o h w n : Nat) (p : Nat → Bool) (g g' : xS) : Prop := vOK g' (1 + (o + h) % 12) n p ∧ g' 5 ((o + h) % 12) = nI w ∧ g' 47 2 = nI (if h < 12 then o else (o + 1) % 12) ∧ g' 47 3 = nI (if h < 12 then h + 1 else 12) ∧ ∀ c k, ((c = 5 ∧ k ≠ (o + h) % 12) ∨ (c = 1 ∧ 1 ≤ k ∧ k < 13 ∧ k ≠ 1 + (o + h) % 12) ∨ (21 ≤ c ∧ c < 33 ∧ c ≠ 21 + (o + h) % 12)) → g' c k = g c k
/-- what the reference has noted -/
def Nt (h : Nat) (g g' : xS) : Prop := g' 66 16 = nI (if h < 12 then h + 1 else 12) ∧ ∀ t k, t < 12 → k < 132 → ((t < h → h < 12 → g' 57 (132 * t + k) = g 57 (132 * t + k)) ∧ (h = 12 → t < 11 → g' 57 (132 * t + k) = g 57 (132 * (t + 1) + k)) ∧ (t = (if h < 12 then h else 11) → g' 57 (132 * t + k) = g 55 k))
theorem Kp_c {o h w n : Nat} {p : Nat → Bool} {g g1 g2 : xS} (hk : Kp o h w n p g g1) (e : ∀ c k, (c = 5 ∨ c = 47 ∨ (c = 1 ∧ 1 ≤ k ∧ k < 13) ∨ (21 ≤ c ∧ c < 33)) → g2 c k = g1 c k) : Kp o h w n p g g2 := by
  obtain ⟨a1, a2, a3, a4, a5⟩ := hk
  exact ⟨vOK_eq a1 (e _ _ (by omega)) (fun b _ => e _ _ (by omega)), by rw [e _ _ (by omega)]; exact a2, by rw [e _ _ (by omega)]; exact a3, by rw [e _ _ (by omega)]; exact a4, fun c k hc => (e c k (by omega)).trans (a5 c k hc)⟩
theorem Nt_c {h : Nat} {g g1 g2 : xS} (hk : Nt h g g1) (e : ∀ c k, (c = 57 ∨ (c = 66 ∧ k = 16)) → g2 c k = g1 c k) : Nt h g g2 := by
  obtain ⟨a1, a2⟩ := hk
  refine ⟨by rw [e _ _ (by omega)]; exact a1, fun t k ht hk => ?_⟩
  rw [e 57 _ (by omega)]
  exact a2 t k ht hk
theorem Nt_b {h : Nat} {g g0 g1 : xS} (hk : Nt h g0 g1) (e : ∀ c k, (c = 57 ∨ (c = 55 ∧ k < 132)) → g0 c k = g c k) : Nt h g g1 := by
  obtain ⟨a1, a2⟩ := hk
  refine ⟨a1, fun t k ht hk => ?_⟩
  have := a2 t k ht hk
  rw [e 57 _ (by omega), e 57 _ (by omega), e 55 _ (by omega)] at this
  exact this
theorem his_act {g g4 : xS} {o h w n : Nat} {p : Nat → Bool} (hw : w < 4) (hh : hisP g o h) (hm : mOK g 55 (33 * w) n p) (hK : Kp o h w n p g g4) (hN : Nt h g g4) (hf : ∀ v, v < 4 → v ≠ w → ∀ k, k < 33 → g4 55 (33 * v + k) = g 55 (33 * v + k)) : rHis g4 := by
  obtain ⟨h1, h2, h3, h4, h5, h6⟩ := hh
  obtain ⟨k1, k2, k3, k4, k5⟩ := hK
  obtain ⟨n1, n2⟩ := hN
  by_cases h12 : h < 12
  · rw [if_pos h12] at k3 k4 n1
    simp only [if_pos h12] at n2
    refine ⟨o, h + 1, h1, by omega, k3, k4, n1, fun t ht => ?_⟩
    by_cases e : t = h
    · subst e
      refine ⟨w, hw, k2, ⟨n, p, k1, mOK_eq hm (fun k hk => ?_)⟩, fun v hv hvw k hk => ?_⟩
      · have := (n2 t (33 * w + k) (by omega) (by omega)).2.2 rfl
        rw [← Nat.add_assoc] at this
        exact this
      · rw [if_neg (by omega), hf v hv hvw k hk]
        have := (n2 t (33 * v + k) (by omega) (by omega)).2.2 rfl
        rw [← Nat.add_assoc] at this
        exact this
    · obtain ⟨w', a1, a2, ⟨n', p', a3, a4⟩, a5⟩ := h6 t (by omega)
      have e1 : ∀ v k, v < 4 → k < 33 → g4 57 (132 * t + 33 * v + k) = g 57 (132 * t + 33 * v + k) := fun v k hv hk => by
        have := (n2 t (33 * v + k) (by omega) (by omega)).1 (by omega) h12
        rw [← Nat.add_assoc] at this
        exact this
      refine ⟨w', a1, by rw [k5 _ _ (by omega)]; exact a2, ⟨n', p', vOK_eq a3 (k5 _ _ (by omega)) (fun b _ => k5 _ _ (by omega)), mOK_eq a4 (fun k hk => e1 _ _ a1 hk)⟩, fun v hv hvw k hk => ?_⟩
      rw [e1 v k hv hk, if_pos (by omega), a5 v hv hvw k hk]
      by_cases e2 : t + 1 < h
      · rw [if_pos e2]
        have := (n2 (t + 1) (33 * v + k) (by omega) (by omega)).1 (by omega) h12
        rw [← Nat.add_assoc] at this
        exact this.symm
      · rw [if_neg e2]
        have := (n2 (t + 1) (33 * v + k) (by omega) (by omega)).2.2 (by omega)
        rw [← Nat.add_assoc] at this
        exact this.symm
  · have e12 : h = 12 := by omega
    subst e12
    rw [if_neg h12] at k3 k4 n1
    simp only [if_neg h12] at n2
    refine ⟨(o + 1) % 12, 12, by omega, by omega, k3, k4, n1, fun t ht => ?_⟩
    by_cases e : t = 11
    · subst e
      have es : ((o + 1) % 12 + 11) % 12 = (o + 12) % 12 := by omega
      rw [es]
      refine ⟨w, hw, k2, ⟨n, p, k1, mOK_eq hm (fun k hk => ?_)⟩, fun v hv hvw k hk => ?_⟩
      · have := (n2 11 (33 * w + k) (by omega) (by omega)).2.2 rfl
        rw [← Nat.add_assoc] at this
        exact this
      · rw [if_neg (by omega), hf v hv hvw k hk]
        have := (n2 11 (33 * v + k) (by omega) (by omega)).2.2 rfl
        rw [← Nat.add_assoc] at this
        exact this
    · obtain ⟨w', a1, a2, ⟨n', p', a3, a4⟩, a5⟩ := h6 (t + 1) (by omega)
      have es : ((o + 1) % 12 + t) % 12 = (o + (t + 1)) % 12 := by omega
      rw [es]
      have e1 : ∀ v k, v < 4 → k < 33 → g4 57 (132 * t + 33 * v + k) = g 57 (132 * (t + 1) + 33 * v + k) := fun v k hv hk => by
        have := (n2 t (33 * v + k) (by omega) (by omega)).2.1 trivial (by omega)
        rw [← Nat.add_assoc, ← Nat.add_assoc] at this
        exact this
      refine ⟨w', a1, by rw [k5 _ _ (by omega)]; exact a2, ⟨n', p', vOK_eq a3 (k5 _ _ (by omega)) (fun b _ => k5 _ _ (by omega)), mOK_eq a4 (fun k hk => e1 _ _ a1 hk)⟩, fun v hv hvw k hk => ?_⟩
      rw [e1 v k hv hk, if_pos (by omega), a5 v hv hvw k hk]
      by_cases e2 : t + 1 + 1 < 12
      · rw [if_pos e2]
        have := (n2 (t + 1) (33 * v + k) (by omega) (by omega)).2.1 trivial (by omega)
        rw [← Nat.add_assoc, ← Nat.add_assoc] at this
        exact this.symm
      · rw [if_neg e2]
        have := (n2 (t + 1) (33 * v + k) (by omega) (by omega)).2.2 (by omega)
        rw [← Nat.add_assoc] at this
        exact this.symm
/-- after an act on vector w -/
theorem act_fin {g g4 : xS} {r r' : Nat → Option Nat} {rs rs' : xH} {o h w n n' : Nat} {p p' : Nat → Bool} (R : Rel g r rs) (hw : w < 4) (hh : hisP g o h) (hm : mOK g 55 (33 * w) n p) (hK : Kp o h w n p g g4) (hN : Nt h g g4) (h1 : vOK g4 (13 + w) n' p') (h2 : mOK g4 55 (33 * w) n' p') (hT : rTap g4) (hF : rFs g4) (hR : rRun g4 r' rs') (hfr : ∀ c k, ((c = 1 ∧ (k < 1 ∨ 13 ≤ k) ∧ k ≠ 13 + w) ∨ c = 2 ∨ c = 3 ∨ c = 4 ∨ (9 ≤ c ∧ c < 19) ∨ (33 ≤ c ∧ c < 45 ∧ c ≠ 33 + w) ∨ c = 48 ∨ c = 50 ∨ c = 51 ∨ c = 52 ∨ (c = 55 ∧ (k < 33 * w ∨ 33 * w + 33 ≤ k)) ∨ c = 58 ∨ c = 59 ∨ c = 64 ∨ c = 65 ∨ (c = 66 ∧ k = 27)) → g4 c k = g c k) : Rel g4 r' rs' := by
  refine ⟨rRow_c R.row (fun c k hc => hfr c k (by omega)), hT, hF, fun v hv => ?_, rImg_c R.img (fun c k hc => hfr c k (by omega)), rCh_c R.ch (fun k => hfr _ k (by omega)), rTr_c R.tr (fun c k hc => hfr c k (by omega)), hR, his_act hw hh hm hK hN (fun v hv hvw k hk => hfr _ _ (by omega))⟩
  by_cases e : v = w
  · subst e
    exact ⟨n', p', h1, h2⟩
  · obtain ⟨a, b, c, d⟩ := R.vec v hv
    exact ⟨a, b, vOK_eq c (hfr _ _ (by omega)) (fun b _ => hfr _ _ (by omega)), mOK_eq d (fun k hk => hfr _ _ (by omega))⟩
theorem ob_s {α β : Type} (a : α) (f : α → Option β) : (some a).bind f = f a := by
  have h : ∀ o : Option α, o = some a → o.bind f = f a := fun o ho => by cases ho; exact rfl
  exact h _ rfl
