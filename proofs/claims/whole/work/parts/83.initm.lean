theorem al12 {A : xH} {fs : List Value} {T : xH} {e : va_E} {k : Nat} (hA : A.length = 84) (hk : k < fs.length) : xpR [11] ((A ++ .inr (11, fs) :: T) ++ [e]) 84 k (A ++ .inr (11, fs) :: T).length = some (A ++ .inr (11, fs.set k (.ref (85 + T.length))) :: (T ++ [e])) := by
  have h1 : ((A ++ .inr (11, fs) :: T) ++ [e])[84]? = some (.inr (11, fs)) := by
    rw [List.append_assoc, List.getElem?_append_right (by omega), hA]
    rfl
  rw [xpR_at h1 (by decide) hk, List.append_assoc, List.set_append_right _ _ (by omega), hA, List.length_append, hA, List.length_cons, show 84 + (T.length + 1) = 85 + T.length by omega]
  rfl
/-- the state behind both allocations: rows missing, all else 0 -/
def g00 : xS := fun c _ => bif Nat.beq c 2 then 1 else 0
def o12 : List Value := [.null, .null, .null, .null, .int 0, .null, .int 0, .int 0, .int 0, .int 0, .int 0, .int 0, .int 0, .null, .null, .null, .int 0, .null, .null, .int 0, .null, .null, .int 0, .null, .null, .null, .null, .int 0]
section INITM
variable {L : Nat} {xs : Nat → Int32} {g : xS} {r : Nat → Option Nat} {rs : xH}
theorem lo_139 : ∀ n i d g, i + d = 8 → d < n → ∃ g', f_X12_init_L139 n 84 (nI i) (wH L xs g r rs) = some (nI 8, wH L xs g' r rs) ∧ (∀ t, i ≤ t → t < 8 → g' 50 t = -1000000) ∧ ∀ c t, ¬ (c = 50 ∧ i ≤ t) → g' c t = g c t := by
  intro n
  induction n with
  | zero => intro i d g h1 h2; omega
  | succ n ih =>
    intro i d g h1 h2
    unfold f_X12_init_L139
    by_cases hi : i = 8
    · subst hi
      exact ⟨g, by rw [if_pos (by decide)], fun t a b => by omega, fun _ _ _ => rfl⟩
    · obtain ⟨g', e1, e2, e3⟩ := ih (i + 1) (d - 1) (gs g 50 i (-1000000)) (by omega) (by omega)
      refine ⟨g', ?_, fun t a b => ?_, fun c t hc => ?_⟩
      · rw [if_neg (show ¬ (8 : Int32) ≤ nI i by rw [l_8, q_le (by omega) (by omega)]; omega), wr_84_0, ob_s, wu_85' (by omega), ob_s, l_1, q_add]
        exact e1
      · by_cases e : t = i
        · subst e
          rw [e3 _ _ (by omega), gs_same]
        · exact e2 t (by omega) b
      · rw [e3 _ _ (by omega), gs_n (by omega)]
theorem ch_p : ∀ n, n < 16 → ∀ k, k < 16 → 1 ≤ k → k ≤ n → CHf (16 * (n - 1) + k - 1) + CHf (16 * (n - 1) + k) = CHf (16 * n + k) := by decide +kernel
theorem ch_1 : ∀ n, n < 16 → CHf (16 * n) = 1 := by decide +kernel
theorem ch_z : ∀ n, n < 16 → ∀ k, k < 16 → n < k → CHf (16 * n + k) = 0 := by decide +kernel
theorem lo_179 {R : Nat} (hR : R < 16) : ∀ n k d g, k + d = R + 1 → d < n → 1 ≤ k → (∀ t, t < 16 * R + k → g 64 t = CHf t) → ∃ g', f_X12_init_L179 n 84 (nI R) (nI k) (wH L xs g r rs) = some (nI (R + 1), wH L xs g' r rs) ∧ (∀ t, t < 16 * R + (R + 1) → g' 64 t = CHf t) ∧ ∀ c t, ¬ (c = 64 ∧ t < 16 * R + (R + 1)) → g' c t = g c t := by
  intro n
  induction n with
  | zero => intro k d g h1 h2; omega
  | succ n ih =>
    intro k d g h1 h2 hk hg
    unfold f_X12_init_L179
    by_cases hd : d = 0
    · have ek : k = R + 1 := by omega
      subst ek
      refine ⟨g, ?_, hg, fun _ _ _ => rfl⟩
      rw [if_pos (by rw [q_lt (by omega) (by omega)]; omega)]
    · obtain ⟨g', e1, e2, e3⟩ := ih (k + 1) (d - 1) (gs g 64 (16 * R + k) (CHf (16 * R + k))) (by omega) (by omega) (by omega) (fun t ht => by
        by_cases e : t = 16 * R + k
        · subst e
          exact gs_same
        · rw [gs_n (by omega)]
          exact hg t (by omega))
      refine ⟨g', ?_, e2, fun c t hc => ?_⟩
      · have x1 := hg (16 * (R - 1) + k - 1) (by omega)
        have x2 := hg (16 * (R - 1) + k) (by omega)
        have x3 := ch_p R hR k (by omega) hk (by omega)
        rw [if_neg (by rw [q_lt (by omega) (by omega)]; omega), wr_84_25, ob_s, ob_s, l_16, l_1, q_sub (by omega), q_mul, q_add, q_sub (by omega), wa_99' (by omega), ob_s, ob_s, wa_99' (by omega), ob_s, q_mul, q_add, x1, x2, x3, wu_99' (by omega), ob_s, q_add]
        exact e1
      · rw [e3 _ _ hc, gs_n (by omega)]
theorem lo_161 : ∀ n R d g, R + d = 16 → d < n → (∀ t, t < 16 * R → g 64 t = CHf t) → (∀ t, 16 * R ≤ t → g 64 t = 0) → ∃ g', f_X12_init_L161 n 84 (nI R) (wH L xs g r rs) = some (nI 16, wH L xs g' r rs) ∧ (∀ t, t < 256 → g' 64 t = CHf t) ∧ ∀ c t, c ≠ 64 → g' c t = g c t := by
  intro n
  induction n with
  | zero => intro R d g h1 h2; omega
  | succ n ih =>
    intro R d g h1 h2 hg hz
    unfold f_X12_init_L161
    by_cases hR : R = 16
    · subst hR
      exact ⟨g, by rw [if_pos (by decide)], hg, fun _ _ _ => rfl⟩
    · have c1 := ch_1 R (by omega)
      obtain ⟨g1, a1, a2, a3⟩ := lo_179 (L := L) (xs := xs) (r := r) (rs := rs) (show R < 16 by omega) xN 1 R (gs g 64 (16 * R) 1) (by omega) (by unfold xN; omega) (by omega) (fun t ht => by
        by_cases e : t = 16 * R
        · subst e
          rw [gs_same, c1]
        · rw [gs_n (by omega)]
          exact hg t (by omega))
      have z1 : ∀ t, 16 * R + (R + 1) ≤ t → g1 64 t = 0 := fun t ht => by
        rw [a3 _ _ (by omega), gs_n (by omega)]
        exact hz t (by omega)
      obtain ⟨g', e1, e2, e3⟩ := ih (R + 1) (d - 1) g1 (by omega) (by omega) (fun t ht => by
        by_cases e : t < 16 * R + (R + 1)
        · exact a2 t e
        · rw [z1 t (by omega)]
          have := ch_z R (by omega) (t - 16 * R) (by omega) (by omega)
          rw [show 16 * R + (t - 16 * R) = t by omega] at this
          exact this.symm) (fun t ht => z1 t (by omega))
      refine ⟨g', ?_, e2, fun c t hc => ?_⟩
      · rw [if_neg (show ¬ (16 : Int32) ≤ nI R by rw [l_16, q_le (by omega) (by omega)]; omega), wr_84_25, ob_s, l_16, q_mul, wu_99' (by omega), ob_s]
        rw [l_1] at a1 ⊢
        rw [a1, ob_s, q_add]
        exact e1
      · rw [e3 _ _ hc, a3 _ _ (by omega), gs_n (by omega)]
theorem i12 : ∃ g, f_X12_init 84 (H11 L xs ++ [.inr (11, o12)]) = some (wH L xs g (fun _ => none) []) ∧ (∀ t, t < 8 → g 50 t = -1000000) ∧ (∀ t, t < 256 → g 64 t = CHf t) ∧ ∀ c t, c ≠ 50 → c ≠ 64 → g c t = g00 c t := by
  have hA : (H11 L xs).length = 84 := rfl
  obtain ⟨g1, b1, b2, b3⟩ := lo_139 (L := L) (xs := xs) (r := fun _ => none) (rs := []) xN 0 8 g00 (by omega) (by unfold xN; omega)
  obtain ⟨g2, c1, c2, c3⟩ := lo_161 (L := L) (xs := xs) (r := fun _ => none) (rs := []) xN 0 16 g1 (by omega) (by unfold xN; omega) (fun t ht => by omega) (fun t _ => by rw [b3 _ _ (by omega)]; rfl)
  refine ⟨g2, ?_, fun t ht => by rw [c3 _ _ (by omega)]; exact b2 t (by omega) ht, c2, fun c t h1 h2 => by rw [c3 _ _ h2, b3 _ _ (by omega)]⟩
  have e2 : ∀ X : xH → Option xH, X (H11 L xs ++ .inr (11, (((((((((((((((o12.set 0 (.ref 85)).set 1 (.ref 86)).set 2 (.ref 87)).set 3 (.ref 88)).set 5 (.ref 89)).set 13 (.ref 90)).set 14 (.ref 91)).set 15 (.ref 92)).set 17 (.ref 93)).set 18 (.ref 94)).set 20 (.ref 95)).set 21 (.ref 96)).set 23 (.ref 97)).set 24 (.ref 98)).set 25 (.ref 99)).set 26 (.ref 100)) :: [xaI0 8, xaI0 8, xaI0 320, xaI0 40, xaI0 60, xaI0 132, xaI0 132, xaI0 1584, xaI0 264, xaZ0 2, xaI0 12, xaI0 12, xaI0 12, xaI0 12, xaI0 256, xaI0 16]) = X (wH L xs g00 (fun _ => none) []) := fun X => congrArg X rfl
  unfold f_X12_init
  rw [al12 hA (by decide), ob_s, al12 hA (by rw [List.length_set]; decide), ob_s, al12 hA (by simp only [List.length_set]; decide), ob_s, al12 hA (by simp only [List.length_set]; decide), ob_s, al12 hA (by simp only [List.length_set]; decide), ob_s, al12 hA (by simp only [List.length_set]; decide), ob_s, al12 hA (by simp only [List.length_set]; decide), ob_s, al12 hA (by simp only [List.length_set]; decide), ob_s, al12 hA (by simp only [List.length_set]; decide), ob_s, al12 hA (by simp only [List.length_set]; decide), ob_s, al12 hA (by simp only [List.length_set]; decide), ob_s, al12 hA (by simp only [List.length_set]; decide), ob_s, al12 hA (by simp only [List.length_set]; decide), ob_s, al12 hA (by simp only [List.length_set]; decide), ob_s, al12 hA (by simp only [List.length_set]; decide), ob_s, al12 hA (by simp only [List.length_set]; decide), ob_s]
  refine (e2 (fun h16 => (f_X12_init_L139 xN 84 (0 : Int32) h16).bind fun q19 => (f_X12_init_L161 xN 84 (0 : Int32) q19.2).bind fun q29 => some q29.2)).trans ?_
  rw [l_0, b1, ob_s]
  dsimp only
  rw [c1, ob_s]
theorem rel0 (h50 : ∀ t, t < 8 → g 50 t = -1000000) (h64 : ∀ t, t < 256 → g 64 t = CHf t) (hf : ∀ c t, c ≠ 50 → c ≠ 64 → g c t = g00 c t) : Rel g (fun _ => none) [] := by
  have z : ∀ c t, c ≠ 50 → c ≠ 64 → c ≠ 2 → g c t = nI 0 := fun c t h1 h2 h3 => by
    rw [hf c t h1 h2]
    show (bif Nat.beq c 2 then (1 : Int32) else 0) = nI 0
    have e : Nat.beq c 2 = false := by
      cases e : Nat.beq c 2 with
      | false => rfl
      | true => exact absurd (Nat.eq_of_beq_eq_true e) h3
    rw [e]
    rfl
  have zv : ∀ j, j < 25 → vOK g j 0 (fun _ => false) := fun j hj => ⟨by omega, z _ _ (by omega) (by omega) (by omega), fun _ _ => rfl, fun b hb => by rw [mk_0]; exact z _ _ (by omega) (by omega) (by omega)⟩
  have zm : ∀ c bs, c ≠ 50 → c ≠ 64 → c ≠ 2 → mOK g c bs 0 (fun _ => false) := fun c bs h1 h2 h3 => ⟨by omega, z _ _ h1 h2 h3, fun _ _ => rfl, fun b hb => by rw [mk_0]; exact z _ _ h1 h2 h3⟩
  refine ⟨fun k hk => ⟨Or.inl ⟨hf 2 k (by omega) (by omega), h50 k hk⟩, ⟨0, by omega, z _ _ (by omega) (by omega) (by omega), z _ _ (by omega) (by omega) (by omega)⟩, fun i hi => by rw [z _ _ (by omega) (by omega) (by omega), z _ _ (by omega) (by omega) (by omega)]⟩, ⟨0, by omega, z _ _ (by omega) (by omega) (by omega), z _ _ (by omega) (by omega) (by omega), fun i hi => by rw [z _ _ (by omega) (by omega) (by omega), z _ _ (by omega) (by omega) (by omega)], fun i hi => by omega⟩, ⟨by rw [z _ _ (by omega) (by omega) (by omega), z _ _ (by omega) (by omega) (by omega)], by rw [z _ _ (by omega) (by omega) (by omega), z _ _ (by omega) (by omega) (by omega)]⟩, fun v hv => ⟨0, fun _ => false, zv _ (by omega), zm _ _ (by omega) (by omega) (by omega)⟩, fun k hk => Or.inl ⟨z _ _ (by omega) (by omega) (by omega), z _ _ (by omega) (by omega) (by omega)⟩, h64, ⟨0, by omega, z _ _ (by omega) (by omega) (by omega), z _ _ (by omega) (by omega) (by omega), fun i hi => by omega⟩, ⟨0, by omega, z _ _ (by omega) (by omega) (by omega), z _ _ (by omega) (by omega) (by omega), fun i hi => by omega⟩, ⟨0, 0, by omega, by omega, z _ _ (by omega) (by omega) (by omega), z _ _ (by omega) (by omega) (by omega), z _ _ (by omega) (by omega) (by omega), fun t ht => by omega⟩⟩
end INITM
