/-! payload: the words of all offsets one behind another -/
theorem pf_lI {a : Nat} (h : a < 2 ^ 63) : (lN a).toInt = (a : Int) := lg_ofNat_toInt h
theorem pf_shr {a d : Nat} {D : Int64} (hD : (D.toBitVec.smod 64).toNat = d) (h : a < 2 ^ 62) : lN a >>> D = lN (a / 2 ^ d) := by
  have hd : a / 2 ^ d ≤ a := Nat.div_le_self _ _
  apply Int64.toInt_inj.mp
  have e : (lN a >>> D).toInt = (lN a).toInt >>> d := by
    rw [← hD]
    exact BitVec.toInt_sshiftRight ..
  rw [e, Int.shiftRight_eq_div_pow, pf_lI (by omega), pf_lI (by omega)]
  rfl
theorem wb_sar {a d : Nat} (ha : a < 2 ^ 62) (hd : d < 64) : lN a >>> ((nI d).toInt64 &&& 63) = lN (a / 2 ^ d) := by
  rw [wb_c d hd]
  exact pf_shr (by rw [wb_tb, wb_sm d hd, BitVec.toNat_ofNat, Nat.mod_eq_of_lt (by omega)]) ha
theorem chP : ∀ k, k < 15 → ∀ c, c < 16 → chN (16 * k + c) ≤ chN (16 * (k + 1) + c) ∧ (c < 15 → chN (16 * k + c) + chN (16 * k + (c + 1)) ≤ chN (16 * (k + 1) + (c + 1))) := by decide +kernel
theorem ofN_lt {m : Nat} : ∀ k, k ≤ 15 → ofN m k < chN (16 * k + fb_ct (fun k => m.testBit k) k)
  | 0, _ => by
    show 0 < chN 0
    decide
  | k + 1, h => by
    have ih := ofN_lt (m := m) k (by omega)
    have hl := fb_ct_le (fun k => m.testBit k) k
    have hP := chP k (by omega) (fb_ct (fun k => m.testBit k) k) (by omega)
    have hs : ofN m (k + 1) = ofN m k + ofT m k := fb_sm_succ _ _
    by_cases hb : m.testBit k = true
    · have h1 := ct_ge1 hb
      have ht : ofT m k = chN (16 * k + fb_ct (fun k => m.testBit k) (k + 1)) := by unfold ofT; rw [if_pos hb]
      rw [hs, ht, h1]
      have := hP.2 (by omega)
      omega
    · have hb' : m.testBit k = false := by simpa using hb
      have ht : ofT m k = 0 := by unfold ofT; rw [if_neg hb]
      rw [hs, ht, ct_no hb']
      have := hP.1
      omega
theorem of_wd (p : Nat → Bool) (b : Nat) : ofN (mkN p b) 15 < 2 ^ wdN (clN p b) := by
  have h := ofN_lt (m := mkN p b) 15 (by omega)
  rw [mk_ct, show 16 * 15 + clN p b = 240 + clN p b from rfl] at h
  exact Nat.lt_of_lt_of_le h (wd_ch (clN p b) (Nat.lt_succ_of_le (clN_le p b))).1
def pyD (o P k j : Nat) : Nat := ((o % 2 ^ j) * 2 ^ P / 2 ^ (64 * k)) % 2 ^ 64
theorem pyD_bit (o P k j t : Nat) : (pyD o P k j).testBit t = (decide (t < 64) && (decide (P ≤ t + 64 * k) && (decide (t + 64 * k - P < j) && o.testBit (t + 64 * k - P)))) := by
  unfold pyD
  rw [Nat.testBit_mod_two_pow, Nat.testBit_div_two_pow, Nat.testBit_mul_two_pow, Nat.testBit_mod_two_pow]
theorem pyD_lt (o P k j : Nat) : pyD o P k j < 2 ^ 64 := Nat.mod_lt _ (by decide)
theorem pyD_z (o P k : Nat) : pyD o P k 0 = 0 := by
  unfold pyD
  rw [Nat.pow_zero, Nat.mod_one, Nat.zero_mul, Nat.zero_div, Nat.zero_mod]
theorem pyD_0 {o P k w : Nat} (h : 64 * k + 64 ≤ P ∨ P + w ≤ 64 * k) : pyD o P k w = 0 := Nat.eq_of_testBit_eq (fun t => by
  rw [pyD_bit, Nat.zero_testBit]
  by_cases h1 : t < 64
  · by_cases h2 : P ≤ t + 64 * k
    · rw [decide_eq_false (show ¬ t + 64 * k - P < w by omega)]
      simp
    · simp [h2]
  · simp [h1])
theorem pyD_c {o P k w : Nat} (ho : o < 2 ^ w) (h1 : 64 * k ≤ P) : pyD o P k w = o * 2 ^ (P - 64 * k) % 2 ^ 64 := by
  unfold pyD
  rw [Nat.mod_eq_of_lt ho, wb_pw h1, Nat.mul_comm (2 ^ (64 * k)), ← Nat.mul_assoc, Nat.mul_div_cancel _ (Nat.two_pow_pos _)]
theorem pyD_d {o P k w : Nat} (ho : o < 2 ^ w) (h1 : P ≤ 64 * k) (h2 : o < 2 ^ 64) : pyD o P k w = o / 2 ^ (64 * k - P) := by
  unfold pyD
  rw [Nat.mod_eq_of_lt ho, wb_pw h1, Nat.mul_comm o, Nat.mul_div_mul_left _ _ (Nat.two_pow_pos P), Nat.mod_eq_of_lt (Nat.lt_of_le_of_lt (Nat.div_le_self _ _) h2)]
theorem bt_no {b : Bool} {s t : Nat} (h : ¬ s = t) : (b.toNat * 2 ^ s).testBit t = false := by
  cases b
  · simp
  · simp [Nat.testBit_two_pow, h]
theorem bt_ye {b : Bool} {t : Nat} : (b.toNat * 2 ^ t).testBit t = b := by
  cases b
  · simp
  · simp [Nat.testBit_two_pow]
theorem pyD_n {o P k j : Nat} (h : ¬ (P + j) / 64 = k) : pyD o P k (j + 1) = pyD o P k j := Nat.eq_of_testBit_eq (fun t => by
  rw [pyD_bit, pyD_bit]
  by_cases ht : t < 64
  · by_cases hP : P ≤ t + 64 * k
    · have e : decide (t + 64 * k - P < j + 1) = decide (t + 64 * k - P < j) := decide_eq_decide.mpr (by omega)
      rw [e]
    · simp [hP]
  · simp [ht])
theorem pyD_s {o P k j : Nat} (h : (P + j) / 64 = k) : pyD o P k (j + 1) = pyD o P k j ||| o / 2 ^ j % 2 * 2 ^ ((P + j) % 64) := Nat.eq_of_testBit_eq (fun t => by
  rw [Nat.testBit_or, pyD_bit, pyD_bit, ← Nat.toNat_testBit]
  by_cases ht : t < 64
  · by_cases hP : P ≤ t + 64 * k
    · by_cases he : t + 64 * k - P = j
      · have es : (P + j) % 64 = t := by omega
        rw [he, es, bt_ye]
        simp [ht, hP]
      · have es : ¬ (P + j) % 64 = t := by omega
        have e : decide (t + 64 * k - P < j + 1) = decide (t + 64 * k - P < j) := decide_eq_decide.mpr (by omega)
        rw [bt_no es, Bool.or_false, e]
    · have es : ¬ (P + j) % 64 = t := by omega
      rw [bt_no es]
      simp [hP]
  · have es : ¬ (P + j) % 64 = t := by omega
    rw [bt_no es]
    simp [ht])
theorem bg_t {P K : Nat} (hP : P < 1000000) (hK : K < 1000000) : (nI P - nI K).toInt = (P : Int) - (K : Int) := by
  have h1 : (nI P).toInt = (P : Int) := nI_toInt (by omega)
  have h2 : (nI K).toInt = (K : Int) := nI_toInt (by omega)
  rw [fb_subI (by omega) (by omega), h1, h2]
theorem bg_add {P K w : Nat} (hP : P + w < 1000000) (hK : K < 1000000) : nI P - nI K + nI w = nI (P + w) - nI K := by
  apply Int32.toInt_inj.mp
  have h2 : (nI w).toInt = (w : Int) := nI_toInt (by omega)
  have h3 := bg_t (show P < 1000000 by omega) hK
  have h4 := bg_t hP hK
  rw [fb_addI (by omega) (by omega), h3, h2, h4]
  omega
theorem bg_64 {P K : Nat} (hP : P < 1000000) (hK : K < 1000000) : (nI 64 ≤ nI P - nI K) = (K + 64 ≤ P) := by
  have h := bg_t hP hK
  have h4 : (nI 64).toInt = 64 := by decide
  apply propext
  rw [Int32.le_iff_toInt_le, h, h4]
  omega
theorem bg_0 {P K : Nat} (hP : P < 1000000) (hK : K < 1000000) : (nI P - nI K ≤ nI 0) = (P ≤ K) := by
  have h := bg_t hP hK
  have h4 : (nI 0).toInt = 0 := by decide
  apply propext
  rw [Int32.le_iff_toInt_le, h, h4]
  omega
theorem bg_n {P K : Nat} (hP : P < 1000000) (hK : K < 1000000) : (nI P - nI K < nI 0) = (P < K) := by
  have h := bg_t hP hK
  have h4 : (nI 0).toInt = 0 := by decide
  apply propext
  rw [Int32.lt_iff_toInt_lt, h, h4]
  omega
theorem bg_neg {P K : Nat} (hP : P < 1000000) (hK : K < 1000000) (h1 : P ≤ K) : -(nI P - nI K) = nI (K - P) := by
  have h := bg_t hP hK
  apply Int32.toInt_inj.mp
  have h4 : (nI (K - P)).toInt = ((K - P : Nat) : Int) := nI_toInt (by omega)
  rw [fb_negI (by omega), h, h4]
  omega
theorem bg_i : ∀ k, k < 7 → -(nI (64 * k)) = nI 0 - nI (64 * k) := by decide +kernel
def pyW (p : Nat → Bool) (k : Nat) : Nat → Nat
  | 0 => 0
  | b + 1 => pyW p k b ||| pyD (ofN (mkN p b) 15) (bgN p b) k (wdN (clN p b))
theorem pyW_lt (p : Nat → Bool) (k : Nat) : ∀ b, pyW p k b < 2 ^ 64
  | 0 => by
    show 0 < 2 ^ 64
    decide
  | b + 1 => Nat.or_lt_two_pow (pyW_lt p k b) (pyD_lt _ _ _ _)
theorem lz_or {x : Nat} (hx : x < 2 ^ 64) : lN x ||| (0 : Int64) = lN x := by
  rw [show (0 : Int64) = lN 0 from rfl, wb_or hx (by decide), Nat.or_zero]
theorem pow13 {w : Nat} (h : w ≤ 13) : 2 ^ w ≤ 8192 := Nat.pow_le_pow_right (n := 2) (by decide) h
section PAY
variable {L : Nat} {xs : Nat → Int32} {g : xS} {r : Nat → Option Nat} {rs : xH} {j n v : Nat} {p : Nat → Bool}
theorem e_pw_L (hj : j < 25) (hv : vOK g j n p) {k : Nat} (hk : k ≤ 6) : ∀ f b, b ≤ (n + 14) / 15 → (n + 14) / 15 < b + f → ∃ y z, f_X1_payloadWord_L9 f (vO j) (lN (pyW p k b)) (nI (bgN p b) - nI (64 * k)) (nI b) (wH L xs g r rs) = some (lN (pyW p k ((n + 14) / 15)), y, z, wH L xs g r rs) := by
  have hn := hv.1
  intro f
  induction f with
  | zero => intro b h1 h2; omega
  | succ f ih =>
    intro b h1 h2
    unfold f_X1_payloadWord_L9
    rw [wkv hj, if_pos rfl, e_blockCount hj hv, ob_s]
    dsimp only
    by_cases hb : b = (n + 14) / 15
    · refine ⟨nI (bgN p b) - nI (64 * k), nI b, ?_⟩
      rw [if_pos (by rw [q_le (by omega) (by omega)]; omega), hb]
    · have hcl := clN_le p b
      have hwd := wdN_le (clN p b)
      have hbg := bgN_le p b
      have hs : bgN p (b + 1) = bgN p b + wdN (clN p b) := fb_sm_succ _ _
      have ho := of_wd p b
      have h13 := pow13 hwd
      have hg := hv.2.2.2 b (by omega)
      have e0 : xaI (wH L xs g r rs) 1 (nI (clN p b)) = some (nI (wdN (clN p b))) := by rw [wa_1' (by omega), WDf_N _ (by omega)]
      have eN : nI (bgN p b) - nI (64 * k) + nI (wdN (clN p b)) = nI (bgN p (b + 1)) - nI (64 * k) := by rw [bg_add (by omega) (by omega), hs]
      have lW := pyW_lt p k b
      obtain ⟨y, z, e⟩ := ih (b + 1) (by omega) (by omega)
      refine ⟨y, z, ?_⟩
      rw [if_neg (by rw [q_le (by omega) (by omega)]; omega), wkv hj, if_pos rfl, e_classOf hj hv (by omega), ob_s]
      dsimp only
      rw [e0, ob_s, eN, l_64, l_1, q_add]
      by_cases hA : 64 * k + 64 ≤ bgN p b
      · rw [if_pos (by rw [bg_64 (by omega) (by omega)]; exact hA)]
        have eW : pyW p k (b + 1) = pyW p k b := by
          show pyW p k b ||| _ = _
          rw [pyD_0 (Or.inl hA), Nat.or_zero]
        rw [eW] at e
        exact e
      · rw [if_neg (by rw [bg_64 (by omega) (by omega)]; exact hA)]
        by_cases hB : bgN p (b + 1) ≤ 64 * k
        · rw [l_0, if_pos (by rw [bg_0 (by omega) (by omega)]; exact hB)]
          have eW : pyW p k (b + 1) = pyW p k b := by
            show pyW p k b ||| _ = _
            rw [pyD_0 (Or.inr (by omega)), Nat.or_zero]
          rw [eW] at e
          exact e
        · rw [l_0, if_neg (by rw [bg_0 (by omega) (by omega)]; exact hB), wrv hj, ob_s, wav' hj (by omega), ob_s, hg, e_offsetOf (mkN_lt p b), ob_s]
          dsimp only
          rw [nI_l (by omega)]
          have ex : (if nI (bgN p b) - nI (64 * k) < nI 0 then lN (ofN (mkN p b) 15) >>> ((-(nI (bgN p b) - nI (64 * k))).toInt64 &&& 63) else lN (ofN (mkN p b) 15) <<< ((nI (bgN p b) - nI (64 * k)).toInt64 &&& 63)) = lN (pyD (ofN (mkN p b) 15) (bgN p b) k (wdN (clN p b))) := by
            by_cases hC : bgN p b < 64 * k
            · rw [if_pos (by rw [bg_n (by omega) (by omega)]; exact hC), bg_neg (by omega) (by omega) (by omega), wb_sar (by omega) (by omega), pyD_d ho (by omega) (by omega)]
            · rw [if_neg (by rw [bg_n (by omega) (by omega)]; exact hC), q_sub (by omega), wb_shl _ (by omega), pyD_c ho (by omega)]
              exact wb_mod _
          rw [ex, wb_or lW (pyD_lt _ _ _ _)]
          exact e
theorem e_pword (hj : j < 25) (hv : vOK g j n p) {k : Nat} (hk : k ≤ 6) : f_X1_payloadWord (vO j) (nI (64 * k)) (wH L xs g r rs) = some (lN (pyW p k ((n + 14) / 15)), wH L xs g r rs) := by
  have hn := hv.1
  obtain ⟨y, z, e⟩ := e_pw_L (L := L) (xs := xs) (r := r) (rs := rs) hj hv hk xN 0 (by omega) (by unfold xN; omega)
  rw [show pyW p k 0 = 0 from rfl, show bgN p 0 = 0 from rfl, show lN 0 = (0 : Int64) from rfl] at e
  unfold f_X1_payloadWord
  rw [bg_i k (by omega), l_0, e]
  rfl
theorem m_pw_in {a : Nat} {x z : Int32} {k o P w W : Nat} {h : xH} (hk : k ≤ 6) (hP : P ≤ 1000) (ho : o < 8192) (hw : w ≤ 13) (hW : W < 2 ^ 64) : ∀ f t, t ≤ w → w < t + f → ∃ y, f_X12_payload_L81 f a x (nI k) (lN (W ||| pyD o P k t)) (nI P) z (lN o) (nI w) (nI t) h = some (lN (W ||| pyD o P k w), y, h) := by
  intro f
  induction f with
  | zero => intro t h1 h2; omega
  | succ f ih =>
    intro t h1 h2
    unfold f_X12_payload_L81
    by_cases ht : t = w
    · refine ⟨nI t, ?_⟩
      rw [if_pos (by rw [q_le (by omega) (by omega)]; omega), ht]
    · obtain ⟨y, e⟩ := ih (t + 1) (by omega) (by omega)
      have lD := pyD_lt o P k t
      have lO := Nat.or_lt_two_pow hW lD
      refine ⟨y, ?_⟩
      rw [if_neg (by rw [q_le (by omega) (by omega)]; omega), q_add, l_64, l_1, q_add]
      by_cases hq : (P + t) / 64 = k
      · have hb : o / 2 ^ t % 2 ≤ 1 := by omega
        have hm : (P + t) % 64 ≤ 63 := by omega
        have hp : 2 ^ ((P + t) % 64) ≤ 2 ^ 63 := Nat.pow_le_pow_right (n := 2) (by decide) hm
        have hs : o / 2 ^ t % 2 * 2 ^ ((P + t) % 64) < 2 ^ 64 := Nat.lt_of_le_of_lt (Nat.mul_le_mul hb hp) (by decide)
        have hdv : o / 2 ^ t ≤ o := Nat.div_le_self _ _
        rw [if_pos (by rw [q_div (by omega) (by omega) (by omega), q_eq (by omega) (by omega)]; exact hq), q_rem (by omega) (by omega) (by omega), wb_sar (by omega) (by omega), wb_a1 (by omega), wb_shl _ (by omega), wb_or lO hs, Nat.or_assoc, ← pyD_s hq]
        exact e
      · rw [if_neg (by rw [q_div (by omega) (by omega) (by omega), q_eq (by omega) (by omega)]; exact hq), lz_or lO, ← pyD_n hq]
        exact e
theorem m_pw_L (hch : ∀ k, k < 256 → g 64 k = CHf k) (hv : v < 4) (hm : mOK g 55 (33 * v) n p) {k : Nat} (hk : k ≤ 6) : ∀ f b, b ≤ (n + 14) / 15 → (n + 14) / 15 < b + f → ∃ y z, f_X12_payload_L29 f 84 (nI v) (nI k) (lN (pyW p k b)) (nI (bgN p b)) (nI b) (wH L xs g r rs) = some (lN (pyW p k ((n + 14) / 15)), y, z, wH L xs g r rs) := by
  have hn := hm.1
  intro f
  induction f with
  | zero => intro b h1 h2; omega
  | succ f ih =>
    intro b h1 h2
    unfold f_X12_payload_L29
    rw [wr_84_13, ob_s, m_blocks hr90 hv hm, ob_s]
    dsimp only
    by_cases hb : b = (n + 14) / 15
    · refine ⟨nI (bgN p b), nI b, ?_⟩
      rw [if_pos (by rw [q_le (by omega) (by omega)]; omega), hb]
    · have hcl := clN_le p b
      have hwd := wdN_le (clN p b)
      have hbg := bgN_le p b
      have hs : bgN p (b + 1) = bgN p b + wdN (clN p b) := fb_sm_succ _ _
      have ho := of_wd p b
      have h13 := pow13 hwd
      have hg := hm.2.2.2 b (by omega)
      have lW := pyW_lt p k b
      obtain ⟨y, z, e⟩ := ih (b + 1) (by omega) (by omega)
      obtain ⟨u, ei⟩ := m_pw_in (a := 84) (x := nI v) (z := nI b) (k := k) (o := ofN (mkN p b) 15) (P := bgN p b) (w := wdN (clN p b)) (W := pyW p k b) (h := wH L xs g r rs) hk (by omega) (by omega) (by omega) lW xN 0 (by omega) (by unfold xN; omega)
      rw [pyD_z, Nat.or_zero] at ei
      refine ⟨y, z, ?_⟩
      rw [if_neg (by rw [q_le (by omega) (by omega)]; omega), wr_84_13, ob_s, l_33, q_mul, l_1, q_add, q_add, wa_90' (by omega), ob_s, hg, wk_84, if_pos rfl, m_offsetOf hch (mkN_lt p b), ob_s]
      dsimp only
      rw [m_sortOf (mkN_lt p b), ob_s, mk_ct]
      dsimp only
      rw [wk_84, if_pos rfl, m_widthOf hch (by omega), ob_s]
      dsimp only
      rw [nI_l (by omega), l_0, ei, ob_s]
      dsimp only
      rw [q_add, q_add, ← hs]
      exact e
theorem o_payload (R : Rel g r rs) (x y : Int32) : RO L xs g r rs (f_X11_payload 3 x y) (f_X12_payload 84 x y) := by
  unfold RO f_X11_payload f_X12_payload
  rcases sV x with ⟨v, hv, rfl⟩ | ⟨h1, h2⟩
  · obtain ⟨n, p, hc, hm⟩ := R.vec v hv
    have hn := hc.1
    have hj : 13 + v < 25 := by omega
    rcases a_sp y with hy | ⟨i, hi, rfl⟩
    · exact ⟨-1000001, by simp (disch := omega) only [q_pos, q_pos', q_lt, q_le, q_eq, q_add, q_sub, q_mul, ob_s, if_pos, if_neg, not_false_eq_true, q_m1', q_div, rm_N, l_0, l_1, l_2, l_3, l_4, l_5, l_6, l_7, l_8, l_10, l_11, l_12, l_13, l_14, l_15, l_16, l_18, l_20, l_21, l_22, l_23, l_24, l_32, l_33, l_40, l_44, l_48, l_57, l_59, l_60, l_63, l_64, l_97, l_98, l_99, l_100, l_111, l_116, l_122, l_132, l_200, l_240, l_255, l_480, l_1000, l_1452, if_true, if_false, true_or, or_true, in_neg, in_m1, in_n, V1, V2, R1, R2, B1, B2, eq_self, wk_3, wk_10, wk_37, wk_42, wr_3_0, wr_3_1, wr_3_2, wr_3_3, wr_3_4, wr_3_5, wr_3_6, wr_3_7, wr_3_8, wi_3_9, wi_3_10, wi_3_11, wp_3_9, wp_3_10, wp_3_11, wr_10_0, wr_10_1, wi_10_2, wi_10_3, wp_10_2, wp_10_3, wr_37_0, wr_37_1, wr_37_2, wi_37_3, wp_37_3, wi_37_4, wp_37_4, wi_37_5, wp_37_5, wi_37_6, wp_37_6, wi_37_7, wp_37_7, wi_37_8, wp_37_8, wr_42_0, wi_42_1, wp_42_1, wk_84, wr_84_0, wr_84_1, wr_84_2, wr_84_3, wr_84_5, wr_84_13, wr_84_14, wr_84_15, wr_84_17, wr_84_18, wr_84_20, wr_84_21, wr_84_23, wr_84_24, wr_84_25, wr_84_26, wi_84_4, wp_84_4, wi_84_6, wp_84_6, wi_84_7, wp_84_7, wi_84_8, wp_84_8, wi_84_9, wp_84_9, wi_84_10, wp_84_10, wi_84_11, wp_84_11, wi_84_12, wp_84_12, wi_84_16, wp_84_16, wi_84_19, wp_84_19, wi_84_22, wp_84_22, wi_84_27, wp_84_27, wq5v, wkv, wiv, wrv, wav', ng1 hy], by simp (disch := omega) only [q_pos, q_pos', q_lt, q_le, q_eq, q_add, q_sub, q_mul, ob_s, if_pos, if_neg, not_false_eq_true, q_m1', q_div, rm_N, l_0, l_1, l_2, l_3, l_4, l_5, l_6, l_7, l_8, l_10, l_11, l_12, l_13, l_14, l_15, l_16, l_18, l_20, l_21, l_22, l_23, l_24, l_32, l_33, l_40, l_44, l_48, l_57, l_59, l_60, l_63, l_64, l_97, l_98, l_99, l_100, l_111, l_116, l_122, l_132, l_200, l_240, l_255, l_480, l_1000, l_1452, if_true, if_false, true_or, or_true, in_neg, in_m1, in_n, V1, V2, R1, R2, B1, B2, eq_self, wk_3, wk_10, wk_37, wk_42, wr_3_0, wr_3_1, wr_3_2, wr_3_3, wr_3_4, wr_3_5, wr_3_6, wr_3_7, wr_3_8, wi_3_9, wi_3_10, wi_3_11, wp_3_9, wp_3_10, wp_3_11, wr_10_0, wr_10_1, wi_10_2, wi_10_3, wp_10_2, wp_10_3, wr_37_0, wr_37_1, wr_37_2, wi_37_3, wp_37_3, wi_37_4, wp_37_4, wi_37_5, wp_37_5, wi_37_6, wp_37_6, wi_37_7, wp_37_7, wi_37_8, wp_37_8, wr_42_0, wi_42_1, wp_42_1, wk_84, wr_84_0, wr_84_1, wr_84_2, wr_84_3, wr_84_5, wr_84_13, wr_84_14, wr_84_15, wr_84_17, wr_84_18, wr_84_20, wr_84_21, wr_84_23, wr_84_24, wr_84_25, wr_84_26, wi_84_4, wp_84_4, wi_84_6, wp_84_6, wi_84_7, wp_84_7, wi_84_8, wp_84_8, wi_84_9, wp_84_9, wi_84_10, wp_84_10, wi_84_11, wp_84_11, wi_84_12, wp_84_12, wi_84_16, wp_84_16, wi_84_19, wp_84_19, wi_84_22, wp_84_22, wi_84_27, wp_84_27, wq5v, wkv, wiv, wrv, wav', in_neg hy]⟩
    · by_cases e : i < 7
      · have e1 := e_pword (L := L) (xs := xs) (r := r) (rs := rs) hj hc (show i ≤ 6 by omega)
        obtain ⟨u, z, e2⟩ := m_pw_L (L := L) (xs := xs) (r := r) (rs := rs) R.ch hv hm (show i ≤ 6 by omega) xN 0 (by omega) (by unfold xN; omega)
        rw [show pyW p i 0 = 0 from rfl, show bgN p 0 = 0 from rfl, show lN 0 = (0 : Int64) from rfl] at e2
        exact ⟨lN (pyW p i ((n + 14) / 15)), by simp (disch := omega) only [q_pos, q_pos', q_lt, q_le, q_eq, q_add, q_sub, q_mul, ob_s, if_pos, if_neg, not_false_eq_true, q_m1', q_div, rm_N, l_0, l_1, l_2, l_3, l_4, l_5, l_6, l_7, l_8, l_10, l_11, l_12, l_13, l_14, l_15, l_16, l_18, l_20, l_21, l_22, l_23, l_24, l_32, l_33, l_40, l_44, l_48, l_57, l_59, l_60, l_63, l_64, l_97, l_98, l_99, l_100, l_111, l_116, l_122, l_132, l_200, l_240, l_255, l_480, l_1000, l_1452, if_true, if_false, true_or, or_true, in_neg, in_m1, in_n, V1, V2, R1, R2, B1, B2, eq_self, wk_3, wk_10, wk_37, wk_42, wr_3_0, wr_3_1, wr_3_2, wr_3_3, wr_3_4, wr_3_5, wr_3_6, wr_3_7, wr_3_8, wi_3_9, wi_3_10, wi_3_11, wp_3_9, wp_3_10, wp_3_11, wr_10_0, wr_10_1, wi_10_2, wi_10_3, wp_10_2, wp_10_3, wr_37_0, wr_37_1, wr_37_2, wi_37_3, wp_37_3, wi_37_4, wp_37_4, wi_37_5, wp_37_5, wi_37_6, wp_37_6, wi_37_7, wp_37_7, wi_37_8, wp_37_8, wr_42_0, wi_42_1, wp_42_1, wk_84, wr_84_0, wr_84_1, wr_84_2, wr_84_3, wr_84_5, wr_84_13, wr_84_14, wr_84_15, wr_84_17, wr_84_18, wr_84_20, wr_84_21, wr_84_23, wr_84_24, wr_84_25, wr_84_26, wi_84_4, wp_84_4, wi_84_6, wp_84_6, wi_84_7, wp_84_7, wi_84_8, wp_84_8, wi_84_9, wp_84_9, wi_84_10, wp_84_10, wi_84_11, wp_84_11, wi_84_12, wp_84_12, wi_84_16, wp_84_16, wi_84_19, wp_84_19, wi_84_22, wp_84_22, wi_84_27, wp_84_27, wq5v, wkv, wiv, wrv, wav', e1], by simp (disch := omega) only [q_pos, q_pos', q_lt, q_le, q_eq, q_add, q_sub, q_mul, ob_s, if_pos, if_neg, not_false_eq_true, q_m1', q_div, rm_N, l_0, l_1, l_2, l_3, l_4, l_5, l_6, l_7, l_8, l_10, l_11, l_12, l_13, l_14, l_15, l_16, l_18, l_20, l_21, l_22, l_23, l_24, l_32, l_33, l_40, l_44, l_48, l_57, l_59, l_60, l_63, l_64, l_97, l_98, l_99, l_100, l_111, l_116, l_122, l_132, l_200, l_240, l_255, l_480, l_1000, l_1452, if_true, if_false, true_or, or_true, in_neg, in_m1, in_n, V1, V2, R1, R2, B1, B2, eq_self, wk_3, wk_10, wk_37, wk_42, wr_3_0, wr_3_1, wr_3_2, wr_3_3, wr_3_4, wr_3_5, wr_3_6, wr_3_7, wr_3_8, wi_3_9, wi_3_10, wi_3_11, wp_3_9, wp_3_10, wp_3_11, wr_10_0, wr_10_1, wi_10_2, wi_10_3, wp_10_2, wp_10_3, wr_37_0, wr_37_1, wr_37_2, wi_37_3, wp_37_3, wi_37_4, wp_37_4, wi_37_5, wp_37_5, wi_37_6, wp_37_6, wi_37_7, wp_37_7, wi_37_8, wp_37_8, wr_42_0, wi_42_1, wp_42_1, wk_84, wr_84_0, wr_84_1, wr_84_2, wr_84_3, wr_84_5, wr_84_13, wr_84_14, wr_84_15, wr_84_17, wr_84_18, wr_84_20, wr_84_21, wr_84_23, wr_84_24, wr_84_25, wr_84_26, wi_84_4, wp_84_4, wi_84_6, wp_84_6, wi_84_7, wp_84_7, wi_84_8, wp_84_8, wi_84_9, wp_84_9, wi_84_10, wp_84_10, wi_84_11, wp_84_11, wi_84_12, wp_84_12, wi_84_16, wp_84_16, wi_84_19, wp_84_19, wi_84_22, wp_84_22, wi_84_27, wp_84_27, wq5v, wkv, wiv, wrv, wav', e2]⟩
      · exact ⟨-1000001, by simp (disch := omega) only [q_pos, q_pos', q_lt, q_le, q_eq, q_add, q_sub, q_mul, ob_s, if_pos, if_neg, not_false_eq_true, q_m1', q_div, rm_N, l_0, l_1, l_2, l_3, l_4, l_5, l_6, l_7, l_8, l_10, l_11, l_12, l_13, l_14, l_15, l_16, l_18, l_20, l_21, l_22, l_23, l_24, l_32, l_33, l_40, l_44, l_48, l_57, l_59, l_60, l_63, l_64, l_97, l_98, l_99, l_100, l_111, l_116, l_122, l_132, l_200, l_240, l_255, l_480, l_1000, l_1452, if_true, if_false, true_or, or_true, in_neg, in_m1, in_n, V1, V2, R1, R2, B1, B2, eq_self, wk_3, wk_10, wk_37, wk_42, wr_3_0, wr_3_1, wr_3_2, wr_3_3, wr_3_4, wr_3_5, wr_3_6, wr_3_7, wr_3_8, wi_3_9, wi_3_10, wi_3_11, wp_3_9, wp_3_10, wp_3_11, wr_10_0, wr_10_1, wi_10_2, wi_10_3, wp_10_2, wp_10_3, wr_37_0, wr_37_1, wr_37_2, wi_37_3, wp_37_3, wi_37_4, wp_37_4, wi_37_5, wp_37_5, wi_37_6, wp_37_6, wi_37_7, wp_37_7, wi_37_8, wp_37_8, wr_42_0, wi_42_1, wp_42_1, wk_84, wr_84_0, wr_84_1, wr_84_2, wr_84_3, wr_84_5, wr_84_13, wr_84_14, wr_84_15, wr_84_17, wr_84_18, wr_84_20, wr_84_21, wr_84_23, wr_84_24, wr_84_25, wr_84_26, wi_84_4, wp_84_4, wi_84_6, wp_84_6, wi_84_7, wp_84_7, wi_84_8, wp_84_8, wi_84_9, wp_84_9, wi_84_10, wp_84_10, wi_84_11, wp_84_11, wi_84_12, wp_84_12, wi_84_16, wp_84_16, wi_84_19, wp_84_19, wi_84_22, wp_84_22, wi_84_27, wp_84_27, wq5v, wkv, wiv, wrv, wav'], by simp (disch := omega) only [q_pos, q_pos', q_lt, q_le, q_eq, q_add, q_sub, q_mul, ob_s, if_pos, if_neg, not_false_eq_true, q_m1', q_div, rm_N, l_0, l_1, l_2, l_3, l_4, l_5, l_6, l_7, l_8, l_10, l_11, l_12, l_13, l_14, l_15, l_16, l_18, l_20, l_21, l_22, l_23, l_24, l_32, l_33, l_40, l_44, l_48, l_57, l_59, l_60, l_63, l_64, l_97, l_98, l_99, l_100, l_111, l_116, l_122, l_132, l_200, l_240, l_255, l_480, l_1000, l_1452, if_true, if_false, true_or, or_true, in_neg, in_m1, in_n, V1, V2, R1, R2, B1, B2, eq_self, wk_3, wk_10, wk_37, wk_42, wr_3_0, wr_3_1, wr_3_2, wr_3_3, wr_3_4, wr_3_5, wr_3_6, wr_3_7, wr_3_8, wi_3_9, wi_3_10, wi_3_11, wp_3_9, wp_3_10, wp_3_11, wr_10_0, wr_10_1, wi_10_2, wi_10_3, wp_10_2, wp_10_3, wr_37_0, wr_37_1, wr_37_2, wi_37_3, wp_37_3, wi_37_4, wp_37_4, wi_37_5, wp_37_5, wi_37_6, wp_37_6, wi_37_7, wp_37_7, wi_37_8, wp_37_8, wr_42_0, wi_42_1, wp_42_1, wk_84, wr_84_0, wr_84_1, wr_84_2, wr_84_3, wr_84_5, wr_84_13, wr_84_14, wr_84_15, wr_84_17, wr_84_18, wr_84_20, wr_84_21, wr_84_23, wr_84_24, wr_84_25, wr_84_26, wi_84_4, wp_84_4, wi_84_6, wp_84_6, wi_84_7, wp_84_7, wi_84_8, wp_84_8, wi_84_9, wp_84_9, wi_84_10, wp_84_10, wi_84_11, wp_84_11, wi_84_12, wp_84_12, wi_84_16, wp_84_16, wi_84_19, wp_84_19, wi_84_22, wp_84_22, wi_84_27, wp_84_27, wq5v, wkv, wiv, wrv, wav']⟩
  · exact ⟨-1000001, by simp (disch := omega) only [q_pos, q_pos', q_lt, q_le, q_eq, q_add, q_sub, q_mul, ob_s, if_pos, if_neg, not_false_eq_true, q_m1', q_div, rm_N, l_0, l_1, l_2, l_3, l_4, l_5, l_6, l_7, l_8, l_10, l_11, l_12, l_13, l_14, l_15, l_16, l_18, l_20, l_21, l_22, l_23, l_24, l_32, l_33, l_40, l_44, l_48, l_57, l_59, l_60, l_63, l_64, l_97, l_98, l_99, l_100, l_111, l_116, l_122, l_132, l_200, l_240, l_255, l_480, l_1000, l_1452, if_true, if_false, true_or, or_true, in_neg, in_m1, in_n, V1, V2, R1, R2, B1, B2, eq_self, wk_3, wk_10, wk_37, wk_42, wr_3_0, wr_3_1, wr_3_2, wr_3_3, wr_3_4, wr_3_5, wr_3_6, wr_3_7, wr_3_8, wi_3_9, wi_3_10, wi_3_11, wp_3_9, wp_3_10, wp_3_11, wr_10_0, wr_10_1, wi_10_2, wi_10_3, wp_10_2, wp_10_3, wr_37_0, wr_37_1, wr_37_2, wi_37_3, wp_37_3, wi_37_4, wp_37_4, wi_37_5, wp_37_5, wi_37_6, wp_37_6, wi_37_7, wp_37_7, wi_37_8, wp_37_8, wr_42_0, wi_42_1, wp_42_1, h1], by simp (disch := omega) only [q_pos, q_pos', q_lt, q_le, q_eq, q_add, q_sub, q_mul, ob_s, if_pos, if_neg, not_false_eq_true, q_m1', q_div, rm_N, l_0, l_1, l_2, l_3, l_4, l_5, l_6, l_7, l_8, l_10, l_11, l_12, l_13, l_14, l_15, l_16, l_18, l_20, l_21, l_22, l_23, l_24, l_32, l_33, l_40, l_44, l_48, l_57, l_59, l_60, l_63, l_64, l_97, l_98, l_99, l_100, l_111, l_116, l_122, l_132, l_200, l_240, l_255, l_480, l_1000, l_1452, if_true, if_false, true_or, or_true, in_neg, in_m1, in_n, V1, V2, R1, R2, B1, B2, eq_self, wk_84, wr_84_0, wr_84_1, wr_84_2, wr_84_3, wr_84_5, wr_84_13, wr_84_14, wr_84_15, wr_84_17, wr_84_18, wr_84_20, wr_84_21, wr_84_23, wr_84_24, wr_84_25, wr_84_26, wi_84_4, wp_84_4, wi_84_6, wp_84_6, wi_84_7, wp_84_7, wi_84_8, wp_84_8, wi_84_9, wp_84_9, wi_84_10, wp_84_10, wi_84_11, wp_84_11, wi_84_12, wp_84_12, wi_84_16, wp_84_16, wi_84_19, wp_84_19, wi_84_22, wp_84_22, wi_84_27, wp_84_27, h2]⟩
end PAY
