abbrev xS : Type := Nat → Nat → Int32
def rwF : Nat → Option Nat := fun j => if j < 8 then some (44 + 2 * j) else none
def vcF : Nat → Option Nat := fun j => if j < 4 then some (60 + 2 * j) else none
def imF : Nat → Option Nat := fun j => if j < 8 then some (68 + 2 * j) else none
def bfF : Nat → Option Nat := fun j => if j < 12 then some (13 + 2 * j) else none
def vO (j : Nat) : Nat := if j = 0 then 8 else if j < 13 then 11 + 2 * j else 34 + 2 * j
def gs (g : xS) (c k : Nat) (x : Int32) : xS := va_up g c (upd (g c) k x)
def wL (L : Nat) (xs : Nat → Int32) (g : xS) (r : Nat → Option Nat) : xH := [.inl (0, 256, .inl CHf),
  .inl (0, 16, .inl WDf),
  .inl (0, L, .inl xs),
  .inr (10, [.ref 4, .ref 5, .ref 6, .ref 7, .ref 8, .ref 10, .ref 37, .ref 41, .ref 42, .int (g 0 9), .int (g 0 10), .int (g 0 11)]),
  .inl (2, 8, .inr (.inr (.inr (.inr rwF)))),
  .inl (3, 4, .inr (.inr (.inr (.inr vcF)))),
  .inl (3, 8, .inr (.inr (.inr (.inr imF)))),
  .inl (1, 2, .inl (g 10)),
  .inr (1, [.ref 9, .int (g 1 0)]),
  .inl (0, 32, .inl (g 20)),
  .inr (3, [.ref 11, .ref 12, .int (g 47 2), .int (g 47 3)]),
  .inl (3, 12, .inr (.inr (.inr (.inr bfF)))),
  .inl (0, 12, .inl (g 5)),
  .inr (1, [.ref 14, .int (g 1 1)]),
  .inl (0, 32, .inl (g 21)),
  .inr (1, [.ref 16, .int (g 1 2)]),
  .inl (0, 32, .inl (g 22)),
  .inr (1, [.ref 18, .int (g 1 3)]),
  .inl (0, 32, .inl (g 23)),
  .inr (1, [.ref 20, .int (g 1 4)]),
  .inl (0, 32, .inl (g 24)),
  .inr (1, [.ref 22, .int (g 1 5)]),
  .inl (0, 32, .inl (g 25)),
  .inr (1, [.ref 24, .int (g 1 6)]),
  .inl (0, 32, .inl (g 26)),
  .inr (1, [.ref 26, .int (g 1 7)]),
  .inl (0, 32, .inl (g 27)),
  .inr (1, [.ref 28, .int (g 1 8)]),
  .inl (0, 32, .inl (g 28)),
  .inr (1, [.ref 30, .int (g 1 9)]),
  .inl (0, 32, .inl (g 29)),
  .inr (1, [.ref 32, .int (g 1 10)]),
  .inl (0, 32, .inl (g 30)),
  .inr (1, [.ref 34, .int (g 1 11)]),
  .inl (0, 32, .inl (g 31)),
  .inr (1, [.ref 36, .int (g 1 12)]),
  .inl (0, 32, .inl (g 32)),
  .inr (6, [.ref 38, .ref 39, .ref 40, .int (g 46 3), .int (g 46 4), .int (g 46 5), .int (g 46 6), .int (g 46 7), .int (g 46 8)]),
  .inl (0, 60, .inl (g 6)),
  .inl (0, 12, .inl (g 7)),
  .inl (0, 12, .inl (g 8)),
  .inl (4, 12, .inr (.inr (.inr (.inr r)))),
  .inr (8, [.ref 43, .int (g 48 1)]),
  .inl (0, 16, .inl (g 9)),
  .inr (5, [.ref 45, .int (g 2 0), .int (g 3 0), .int (g 4 0)]),
  .inl (0, 40, .inl (g 11)),
  .inr (5, [.ref 47, .int (g 2 1), .int (g 3 1), .int (g 4 1)]),
  .inl (0, 40, .inl (g 12)),
  .inr (5, [.ref 49, .int (g 2 2), .int (g 3 2), .int (g 4 2)]),
  .inl (0, 40, .inl (g 13)),
  .inr (5, [.ref 51, .int (g 2 3), .int (g 3 3), .int (g 4 3)]),
  .inl (0, 40, .inl (g 14)),
  .inr (5, [.ref 53, .int (g 2 4), .int (g 3 4), .int (g 4 4)]),
  .inl (0, 40, .inl (g 15)),
  .inr (5, [.ref 55, .int (g 2 5), .int (g 3 5), .int (g 4 5)]),
  .inl (0, 40, .inl (g 16)),
  .inr (5, [.ref 57, .int (g 2 6), .int (g 3 6), .int (g 4 6)]),
  .inl (0, 40, .inl (g 17)),
  .inr (5, [.ref 59, .int (g 2 7), .int (g 3 7), .int (g 4 7)]),
  .inl (0, 40, .inl (g 18)),
  .inr (1, [.ref 61, .int (g 1 13)]),
  .inl (0, 32, .inl (g 33)),
  .inr (1, [.ref 63, .int (g 1 14)]),
  .inl (0, 32, .inl (g 34)),
  .inr (1, [.ref 65, .int (g 1 15)]),
  .inl (0, 32, .inl (g 35)),
  .inr (1, [.ref 67, .int (g 1 16)]),
  .inl (0, 32, .inl (g 36)),
  .inr (1, [.ref 69, .int (g 1 17)]),
  .inl (0, 32, .inl (g 37)),
  .inr (1, [.ref 71, .int (g 1 18)]),
  .inl (0, 32, .inl (g 38)),
  .inr (1, [.ref 73, .int (g 1 19)]),
  .inl (0, 32, .inl (g 39)),
  .inr (1, [.ref 75, .int (g 1 20)]),
  .inl (0, 32, .inl (g 40)),
  .inr (1, [.ref 77, .int (g 1 21)]),
  .inl (0, 32, .inl (g 41)),
  .inr (1, [.ref 79, .int (g 1 22)]),
  .inl (0, 32, .inl (g 42)),
  .inr (1, [.ref 81, .int (g 1 23)]),
  .inl (0, 32, .inl (g 43)),
  .inr (1, [.ref 83, .int (g 1 24)]),
  .inl (0, 32, .inl (g 44)),
  .inr (11, [.ref 85, .ref 86, .ref 87, .ref 88, .int (g 66 4), .ref 89, .int (g 66 6), .int (g 66 7), .int (g 66 8), .int (g 66 9), .int (g 66 10), .int (g 66 11), .int (g 66 12), .ref 90, .ref 91, .ref 92, .int (g 66 16), .ref 93, .ref 94, .int (g 66 19), .ref 95, .ref 96, .int (g 66 22), .ref 97, .ref 98, .ref 99, .ref 100, .int (g 66 27)]),
  .inl (0, 8, .inl (g 50)),
  .inl (0, 8, .inl (g 51)),
  .inl (0, 320, .inl (g 52)),
  .inl (0, 40, .inl (g 53)),
  .inl (0, 60, .inl (g 54)),
  .inl (0, 132, .inl (g 55)),
  .inl (0, 132, .inl (g 56)),
  .inl (0, 1584, .inl (g 57)),
  .inl (0, 264, .inl (g 58)),
  .inl (1, 2, .inl (g 59)),
  .inl (0, 12, .inl (g 60)),
  .inl (0, 12, .inl (g 61)),
  .inl (0, 12, .inl (g 62)),
  .inl (0, 12, .inl (g 63)),
  .inl (0, 256, .inl (g 64)),
  .inl (0, 16, .inl (g 65))]
def wH (L : Nat) (xs : Nat → Int32) (g : xS) (r : Nat → Option Nat) (rs : xH) : xH := wL L xs g r ++ rs
theorem wL_len (L : Nat) (xs : Nat → Int32) (g : xS) (r : Nat → Option Nat) : (wL L xs g r).length = 101 := rfl
theorem wH_lo {L : Nat} {xs : Nat → Int32} {g : xS} {r : Nat → Option Nat} {rs : xH} {k : Nat} (h : k < 101) : (wH L xs g r rs)[k]? = (wL L xs g r)[k]? := List.getElem?_append_left (by rw [wL_len]; exact h)
theorem wH_hi {L : Nat} {xs : Nat → Int32} {g : xS} {r : Nat → Option Nat} {rs : xH} (k : Nat) : (wH L xs g r rs)[101 + k]? = rs[k]? := by
  unfold wH
  rw [List.getElem?_append_right (by rw [wL_len]; omega), wL_len]
  congr 1
  omega
theorem wH_set {L : Nat} {xs : Nat → Int32} {g g' : xS} {r r' : Nat → Option Nat} {rs : xH} {k : Nat} {e : va_E} (hk : k < 101) (h : (wL L xs g r).set k e = wL L xs g' r') : (wH L xs g r rs).set k e = wH L xs g' r' rs := by
  unfold wH
  rw [List.set_append_left k e (by rw [wL_len]; exact hk), h]
theorem gs_same {g : xS} {c k : Nat} {x : Int32} : gs g c k x c k = x := by simp [gs, va_up, upd]
theorem gs_c {g : xS} {c k : Nat} {x : Int32} : gs g c k x c = upd (g c) k x := by simp [gs, va_up]
theorem gs_oc {g : xS} {c c' k : Nat} {x : Int32} (h : c' ≠ c) : gs g c k x c' = g c' := by simp [gs, va_up, h]
theorem gs_ok {g : xS} {c k k' : Nat} {x : Int32} (h : k' ≠ k) : gs g c k x c k' = g c k' := by simp [gs, va_up, upd, h]
theorem up_c {g : xS} {c : Nat} {f : Nat → Int32} : va_up g c f c = f := by simp [va_up]
theorem up_oc {g : xS} {c c' : Nat} {f : Nat → Int32} (h : c' ≠ c) : va_up g c f c' = g c' := by simp [va_up, h]
section WORLD
variable {L : Nat} {xs : Nat → Int32} {g : xS} {r : Nat → Option Nat} {rs : xH}
theorem wk_3 : xk (wH L xs g r rs) 3 = some 10 := rfl
theorem wr_3_0 : xgR [10] (wH L xs g r rs) 3 0 = some 4 := rfl
theorem wr_3_1 : xgR [10] (wH L xs g r rs) 3 1 = some 5 := rfl
theorem wr_3_2 : xgR [10] (wH L xs g r rs) 3 2 = some 6 := rfl
theorem wr_3_3 : xgR [10] (wH L xs g r rs) 3 3 = some 7 := rfl
theorem wr_3_4 : xgR [10] (wH L xs g r rs) 3 4 = some 8 := rfl
theorem wr_3_5 : xgR [10] (wH L xs g r rs) 3 5 = some 10 := rfl
theorem wr_3_6 : xgR [10] (wH L xs g r rs) 3 6 = some 37 := rfl
theorem wr_3_7 : xgR [10] (wH L xs g r rs) 3 7 = some 41 := rfl
theorem wr_3_8 : xgR [10] (wH L xs g r rs) 3 8 = some 42 := rfl
theorem wi_3_9 : xgI [10] (wH L xs g r rs) 3 9 = some (g 0 9) := rfl
theorem wp_3_9 (x : Int32) : xpI [10] (wH L xs g r rs) 3 9 x = some (wH L xs (gs g 0 9 x) r rs) := congrArg some (wH_set (by decide) rfl)
theorem wi_3_10 : xgI [10] (wH L xs g r rs) 3 10 = some (g 0 10) := rfl
theorem wp_3_10 (x : Int32) : xpI [10] (wH L xs g r rs) 3 10 x = some (wH L xs (gs g 0 10 x) r rs) := congrArg some (wH_set (by decide) rfl)
theorem wi_3_11 : xgI [10] (wH L xs g r rs) 3 11 = some (g 0 11) := rfl
theorem wp_3_11 (x : Int32) : xpI [10] (wH L xs g r rs) 3 11 x = some (wH L xs (gs g 0 11 x) r rs) := congrArg some (wH_set (by decide) rfl)
theorem wk_10 : xk (wH L xs g r rs) 10 = some 3 := rfl
theorem wr_10_0 : xgR [3] (wH L xs g r rs) 10 0 = some 11 := rfl
theorem wr_10_1 : xgR [3] (wH L xs g r rs) 10 1 = some 12 := rfl
theorem wi_10_2 : xgI [3] (wH L xs g r rs) 10 2 = some (g 47 2) := rfl
theorem wp_10_2 (x : Int32) : xpI [3] (wH L xs g r rs) 10 2 x = some (wH L xs (gs g 47 2 x) r rs) := congrArg some (wH_set (by decide) rfl)
theorem wi_10_3 : xgI [3] (wH L xs g r rs) 10 3 = some (g 47 3) := rfl
theorem wp_10_3 (x : Int32) : xpI [3] (wH L xs g r rs) 10 3 x = some (wH L xs (gs g 47 3 x) r rs) := congrArg some (wH_set (by decide) rfl)
theorem wk_37 : xk (wH L xs g r rs) 37 = some 6 := rfl
theorem wr_37_0 : xgR [6] (wH L xs g r rs) 37 0 = some 38 := rfl
theorem wr_37_1 : xgR [6] (wH L xs g r rs) 37 1 = some 39 := rfl
theorem wr_37_2 : xgR [6] (wH L xs g r rs) 37 2 = some 40 := rfl
theorem wi_37_3 : xgI [6] (wH L xs g r rs) 37 3 = some (g 46 3) := rfl
theorem wp_37_3 (x : Int32) : xpI [6] (wH L xs g r rs) 37 3 x = some (wH L xs (gs g 46 3 x) r rs) := congrArg some (wH_set (by decide) rfl)
theorem wi_37_4 : xgI [6] (wH L xs g r rs) 37 4 = some (g 46 4) := rfl
theorem wp_37_4 (x : Int32) : xpI [6] (wH L xs g r rs) 37 4 x = some (wH L xs (gs g 46 4 x) r rs) := congrArg some (wH_set (by decide) rfl)
theorem wi_37_5 : xgI [6] (wH L xs g r rs) 37 5 = some (g 46 5) := rfl
theorem wp_37_5 (x : Int32) : xpI [6] (wH L xs g r rs) 37 5 x = some (wH L xs (gs g 46 5 x) r rs) := congrArg some (wH_set (by decide) rfl)
theorem wi_37_6 : xgI [6] (wH L xs g r rs) 37 6 = some (g 46 6) := rfl
theorem wp_37_6 (x : Int32) : xpI [6] (wH L xs g r rs) 37 6 x = some (wH L xs (gs g 46 6 x) r rs) := congrArg some (wH_set (by decide) rfl)
theorem wi_37_7 : xgI [6] (wH L xs g r rs) 37 7 = some (g 46 7) := rfl
theorem wp_37_7 (x : Int32) : xpI [6] (wH L xs g r rs) 37 7 x = some (wH L xs (gs g 46 7 x) r rs) := congrArg some (wH_set (by decide) rfl)
theorem wi_37_8 : xgI [6] (wH L xs g r rs) 37 8 = some (g 46 8) := rfl
theorem wp_37_8 (x : Int32) : xpI [6] (wH L xs g r rs) 37 8 x = some (wH L xs (gs g 46 8 x) r rs) := congrArg some (wH_set (by decide) rfl)
theorem wk_42 : xk (wH L xs g r rs) 42 = some 8 := rfl
theorem wr_42_0 : xgR [8] (wH L xs g r rs) 42 0 = some 43 := rfl
theorem wi_42_1 : xgI [8] (wH L xs g r rs) 42 1 = some (g 48 1) := rfl
theorem wp_42_1 (x : Int32) : xpI [8] (wH L xs g r rs) 42 1 x = some (wH L xs (gs g 48 1 x) r rs) := congrArg some (wH_set (by decide) rfl)
theorem wk_84 : xk (wH L xs g r rs) 84 = some 11 := rfl
theorem wr_84_0 : xgR [11] (wH L xs g r rs) 84 0 = some 85 := rfl
theorem wr_84_1 : xgR [11] (wH L xs g r rs) 84 1 = some 86 := rfl
theorem wr_84_2 : xgR [11] (wH L xs g r rs) 84 2 = some 87 := rfl
theorem wr_84_3 : xgR [11] (wH L xs g r rs) 84 3 = some 88 := rfl
theorem wi_84_4 : xgI [11] (wH L xs g r rs) 84 4 = some (g 66 4) := rfl
theorem wp_84_4 (x : Int32) : xpI [11] (wH L xs g r rs) 84 4 x = some (wH L xs (gs g 66 4 x) r rs) := congrArg some (wH_set (by decide) rfl)
theorem wr_84_5 : xgR [11] (wH L xs g r rs) 84 5 = some 89 := rfl
theorem wi_84_6 : xgI [11] (wH L xs g r rs) 84 6 = some (g 66 6) := rfl
theorem wp_84_6 (x : Int32) : xpI [11] (wH L xs g r rs) 84 6 x = some (wH L xs (gs g 66 6 x) r rs) := congrArg some (wH_set (by decide) rfl)
theorem wi_84_7 : xgI [11] (wH L xs g r rs) 84 7 = some (g 66 7) := rfl
theorem wp_84_7 (x : Int32) : xpI [11] (wH L xs g r rs) 84 7 x = some (wH L xs (gs g 66 7 x) r rs) := congrArg some (wH_set (by decide) rfl)
theorem wi_84_8 : xgI [11] (wH L xs g r rs) 84 8 = some (g 66 8) := rfl
theorem wp_84_8 (x : Int32) : xpI [11] (wH L xs g r rs) 84 8 x = some (wH L xs (gs g 66 8 x) r rs) := congrArg some (wH_set (by decide) rfl)
theorem wi_84_9 : xgI [11] (wH L xs g r rs) 84 9 = some (g 66 9) := rfl
theorem wp_84_9 (x : Int32) : xpI [11] (wH L xs g r rs) 84 9 x = some (wH L xs (gs g 66 9 x) r rs) := congrArg some (wH_set (by decide) rfl)
theorem wi_84_10 : xgI [11] (wH L xs g r rs) 84 10 = some (g 66 10) := rfl
theorem wp_84_10 (x : Int32) : xpI [11] (wH L xs g r rs) 84 10 x = some (wH L xs (gs g 66 10 x) r rs) := congrArg some (wH_set (by decide) rfl)
theorem wi_84_11 : xgI [11] (wH L xs g r rs) 84 11 = some (g 66 11) := rfl
theorem wp_84_11 (x : Int32) : xpI [11] (wH L xs g r rs) 84 11 x = some (wH L xs (gs g 66 11 x) r rs) := congrArg some (wH_set (by decide) rfl)
theorem wi_84_12 : xgI [11] (wH L xs g r rs) 84 12 = some (g 66 12) := rfl
theorem wp_84_12 (x : Int32) : xpI [11] (wH L xs g r rs) 84 12 x = some (wH L xs (gs g 66 12 x) r rs) := congrArg some (wH_set (by decide) rfl)
theorem wr_84_13 : xgR [11] (wH L xs g r rs) 84 13 = some 90 := rfl
theorem wr_84_14 : xgR [11] (wH L xs g r rs) 84 14 = some 91 := rfl
theorem wr_84_15 : xgR [11] (wH L xs g r rs) 84 15 = some 92 := rfl
theorem wi_84_16 : xgI [11] (wH L xs g r rs) 84 16 = some (g 66 16) := rfl
theorem wp_84_16 (x : Int32) : xpI [11] (wH L xs g r rs) 84 16 x = some (wH L xs (gs g 66 16 x) r rs) := congrArg some (wH_set (by decide) rfl)
theorem wr_84_17 : xgR [11] (wH L xs g r rs) 84 17 = some 93 := rfl
theorem wr_84_18 : xgR [11] (wH L xs g r rs) 84 18 = some 94 := rfl
theorem wi_84_19 : xgI [11] (wH L xs g r rs) 84 19 = some (g 66 19) := rfl
theorem wp_84_19 (x : Int32) : xpI [11] (wH L xs g r rs) 84 19 x = some (wH L xs (gs g 66 19 x) r rs) := congrArg some (wH_set (by decide) rfl)
theorem wr_84_20 : xgR [11] (wH L xs g r rs) 84 20 = some 95 := rfl
theorem wr_84_21 : xgR [11] (wH L xs g r rs) 84 21 = some 96 := rfl
theorem wi_84_22 : xgI [11] (wH L xs g r rs) 84 22 = some (g 66 22) := rfl
theorem wp_84_22 (x : Int32) : xpI [11] (wH L xs g r rs) 84 22 x = some (wH L xs (gs g 66 22 x) r rs) := congrArg some (wH_set (by decide) rfl)
theorem wr_84_23 : xgR [11] (wH L xs g r rs) 84 23 = some 97 := rfl
theorem wr_84_24 : xgR [11] (wH L xs g r rs) 84 24 = some 98 := rfl
theorem wr_84_25 : xgR [11] (wH L xs g r rs) 84 25 = some 99 := rfl
theorem wr_84_26 : xgR [11] (wH L xs g r rs) 84 26 = some 100 := rfl
theorem wi_84_27 : xgI [11] (wH L xs g r rs) 84 27 = some (g 66 27) := rfl
theorem wp_84_27 (x : Int32) : xpI [11] (wH L xs g r rs) 84 27 x = some (wH L xs (gs g 66 27 x) r rs) := congrArg some (wH_set (by decide) rfl)
theorem wa_12 {i : Int32} {k : Nat} (hi : i = nI k) (hk : k < 12) : xaI (wH L xs g r rs) 12 i = some (g 5 k) := by
  subst hi
  show (if nI k < 0 ∨ 12 ≤ (nI k).toNatClampNeg then none else some (g 5 (nI k).toNatClampNeg)) = _
  rw [if_neg (nI_in hk (by decide)), nI_clamp (by omega)]
theorem wu_12 {i : Int32} {k : Nat} (x : Int32) (hi : i = nI k) (hk : k < 12) : xuI (wH L xs g r rs) 12 i x = some (wH L xs (gs g 5 k x) r rs) := by
  subst hi
  show (if 12 < 3 ∨ nI k < 0 ∨ 12 ≤ (nI k).toNatClampNeg then none else some ((wH L xs g r rs).set 12 (.inl (0, 12, .inl (upd (g 5) (nI k).toNatClampNeg x))))) = _
  rw [if_neg (by intro h; rcases h with h | h; exact absurd h (by decide); exact nI_in hk (by decide) h), nI_clamp (by omega)]
  exact congrArg some (wH_set (by decide) rfl)
theorem wa_38 {i : Int32} {k : Nat} (hi : i = nI k) (hk : k < 60) : xaI (wH L xs g r rs) 38 i = some (g 6 k) := by
  subst hi
  show (if nI k < 0 ∨ 60 ≤ (nI k).toNatClampNeg then none else some (g 6 (nI k).toNatClampNeg)) = _
  rw [if_neg (nI_in hk (by decide)), nI_clamp (by omega)]
theorem wu_38 {i : Int32} {k : Nat} (x : Int32) (hi : i = nI k) (hk : k < 60) : xuI (wH L xs g r rs) 38 i x = some (wH L xs (gs g 6 k x) r rs) := by
  subst hi
  show (if 38 < 3 ∨ nI k < 0 ∨ 60 ≤ (nI k).toNatClampNeg then none else some ((wH L xs g r rs).set 38 (.inl (0, 60, .inl (upd (g 6) (nI k).toNatClampNeg x))))) = _
  rw [if_neg (by intro h; rcases h with h | h; exact absurd h (by decide); exact nI_in hk (by decide) h), nI_clamp (by omega)]
  exact congrArg some (wH_set (by decide) rfl)
theorem wa_39 {i : Int32} {k : Nat} (hi : i = nI k) (hk : k < 12) : xaI (wH L xs g r rs) 39 i = some (g 7 k) := by
  subst hi
  show (if nI k < 0 ∨ 12 ≤ (nI k).toNatClampNeg then none else some (g 7 (nI k).toNatClampNeg)) = _
  rw [if_neg (nI_in hk (by decide)), nI_clamp (by omega)]
theorem wu_39 {i : Int32} {k : Nat} (x : Int32) (hi : i = nI k) (hk : k < 12) : xuI (wH L xs g r rs) 39 i x = some (wH L xs (gs g 7 k x) r rs) := by
  subst hi
  show (if 39 < 3 ∨ nI k < 0 ∨ 12 ≤ (nI k).toNatClampNeg then none else some ((wH L xs g r rs).set 39 (.inl (0, 12, .inl (upd (g 7) (nI k).toNatClampNeg x))))) = _
  rw [if_neg (by intro h; rcases h with h | h; exact absurd h (by decide); exact nI_in hk (by decide) h), nI_clamp (by omega)]
  exact congrArg some (wH_set (by decide) rfl)
theorem wa_40 {i : Int32} {k : Nat} (hi : i = nI k) (hk : k < 12) : xaI (wH L xs g r rs) 40 i = some (g 8 k) := by
  subst hi
  show (if nI k < 0 ∨ 12 ≤ (nI k).toNatClampNeg then none else some (g 8 (nI k).toNatClampNeg)) = _
  rw [if_neg (nI_in hk (by decide)), nI_clamp (by omega)]
theorem wu_40 {i : Int32} {k : Nat} (x : Int32) (hi : i = nI k) (hk : k < 12) : xuI (wH L xs g r rs) 40 i x = some (wH L xs (gs g 8 k x) r rs) := by
  subst hi
  show (if 40 < 3 ∨ nI k < 0 ∨ 12 ≤ (nI k).toNatClampNeg then none else some ((wH L xs g r rs).set 40 (.inl (0, 12, .inl (upd (g 8) (nI k).toNatClampNeg x))))) = _
  rw [if_neg (by intro h; rcases h with h | h; exact absurd h (by decide); exact nI_in hk (by decide) h), nI_clamp (by omega)]
  exact congrArg some (wH_set (by decide) rfl)
theorem wa_43 {i : Int32} {k : Nat} (hi : i = nI k) (hk : k < 16) : xaI (wH L xs g r rs) 43 i = some (g 9 k) := by
  subst hi
  show (if nI k < 0 ∨ 16 ≤ (nI k).toNatClampNeg then none else some (g 9 (nI k).toNatClampNeg)) = _
  rw [if_neg (nI_in hk (by decide)), nI_clamp (by omega)]
theorem wu_43 {i : Int32} {k : Nat} (x : Int32) (hi : i = nI k) (hk : k < 16) : xuI (wH L xs g r rs) 43 i x = some (wH L xs (gs g 9 k x) r rs) := by
  subst hi
  show (if 43 < 3 ∨ nI k < 0 ∨ 16 ≤ (nI k).toNatClampNeg then none else some ((wH L xs g r rs).set 43 (.inl (0, 16, .inl (upd (g 9) (nI k).toNatClampNeg x))))) = _
  rw [if_neg (by intro h; rcases h with h | h; exact absurd h (by decide); exact nI_in hk (by decide) h), nI_clamp (by omega)]
  exact congrArg some (wH_set (by decide) rfl)
theorem wa_85 {i : Int32} {k : Nat} (hi : i = nI k) (hk : k < 8) : xaI (wH L xs g r rs) 85 i = some (g 50 k) := by
  subst hi
  show (if nI k < 0 ∨ 8 ≤ (nI k).toNatClampNeg then none else some (g 50 (nI k).toNatClampNeg)) = _
  rw [if_neg (nI_in hk (by decide)), nI_clamp (by omega)]
theorem wu_85 {i : Int32} {k : Nat} (x : Int32) (hi : i = nI k) (hk : k < 8) : xuI (wH L xs g r rs) 85 i x = some (wH L xs (gs g 50 k x) r rs) := by
  subst hi
  show (if 85 < 3 ∨ nI k < 0 ∨ 8 ≤ (nI k).toNatClampNeg then none else some ((wH L xs g r rs).set 85 (.inl (0, 8, .inl (upd (g 50) (nI k).toNatClampNeg x))))) = _
  rw [if_neg (by intro h; rcases h with h | h; exact absurd h (by decide); exact nI_in hk (by decide) h), nI_clamp (by omega)]
  exact congrArg some (wH_set (by decide) rfl)
theorem wa_86 {i : Int32} {k : Nat} (hi : i = nI k) (hk : k < 8) : xaI (wH L xs g r rs) 86 i = some (g 51 k) := by
  subst hi
  show (if nI k < 0 ∨ 8 ≤ (nI k).toNatClampNeg then none else some (g 51 (nI k).toNatClampNeg)) = _
  rw [if_neg (nI_in hk (by decide)), nI_clamp (by omega)]
theorem wu_86 {i : Int32} {k : Nat} (x : Int32) (hi : i = nI k) (hk : k < 8) : xuI (wH L xs g r rs) 86 i x = some (wH L xs (gs g 51 k x) r rs) := by
  subst hi
  show (if 86 < 3 ∨ nI k < 0 ∨ 8 ≤ (nI k).toNatClampNeg then none else some ((wH L xs g r rs).set 86 (.inl (0, 8, .inl (upd (g 51) (nI k).toNatClampNeg x))))) = _
  rw [if_neg (by intro h; rcases h with h | h; exact absurd h (by decide); exact nI_in hk (by decide) h), nI_clamp (by omega)]
  exact congrArg some (wH_set (by decide) rfl)
theorem wa_87 {i : Int32} {k : Nat} (hi : i = nI k) (hk : k < 320) : xaI (wH L xs g r rs) 87 i = some (g 52 k) := by
  subst hi
  show (if nI k < 0 ∨ 320 ≤ (nI k).toNatClampNeg then none else some (g 52 (nI k).toNatClampNeg)) = _
  rw [if_neg (nI_in hk (by decide)), nI_clamp (by omega)]
theorem wu_87 {i : Int32} {k : Nat} (x : Int32) (hi : i = nI k) (hk : k < 320) : xuI (wH L xs g r rs) 87 i x = some (wH L xs (gs g 52 k x) r rs) := by
  subst hi
  show (if 87 < 3 ∨ nI k < 0 ∨ 320 ≤ (nI k).toNatClampNeg then none else some ((wH L xs g r rs).set 87 (.inl (0, 320, .inl (upd (g 52) (nI k).toNatClampNeg x))))) = _
  rw [if_neg (by intro h; rcases h with h | h; exact absurd h (by decide); exact nI_in hk (by decide) h), nI_clamp (by omega)]
  exact congrArg some (wH_set (by decide) rfl)
theorem wa_88 {i : Int32} {k : Nat} (hi : i = nI k) (hk : k < 40) : xaI (wH L xs g r rs) 88 i = some (g 53 k) := by
  subst hi
  show (if nI k < 0 ∨ 40 ≤ (nI k).toNatClampNeg then none else some (g 53 (nI k).toNatClampNeg)) = _
  rw [if_neg (nI_in hk (by decide)), nI_clamp (by omega)]
theorem wu_88 {i : Int32} {k : Nat} (x : Int32) (hi : i = nI k) (hk : k < 40) : xuI (wH L xs g r rs) 88 i x = some (wH L xs (gs g 53 k x) r rs) := by
  subst hi
  show (if 88 < 3 ∨ nI k < 0 ∨ 40 ≤ (nI k).toNatClampNeg then none else some ((wH L xs g r rs).set 88 (.inl (0, 40, .inl (upd (g 53) (nI k).toNatClampNeg x))))) = _
  rw [if_neg (by intro h; rcases h with h | h; exact absurd h (by decide); exact nI_in hk (by decide) h), nI_clamp (by omega)]
  exact congrArg some (wH_set (by decide) rfl)
theorem wa_89 {i : Int32} {k : Nat} (hi : i = nI k) (hk : k < 60) : xaI (wH L xs g r rs) 89 i = some (g 54 k) := by
  subst hi
  show (if nI k < 0 ∨ 60 ≤ (nI k).toNatClampNeg then none else some (g 54 (nI k).toNatClampNeg)) = _
  rw [if_neg (nI_in hk (by decide)), nI_clamp (by omega)]
theorem wu_89 {i : Int32} {k : Nat} (x : Int32) (hi : i = nI k) (hk : k < 60) : xuI (wH L xs g r rs) 89 i x = some (wH L xs (gs g 54 k x) r rs) := by
  subst hi
  show (if 89 < 3 ∨ nI k < 0 ∨ 60 ≤ (nI k).toNatClampNeg then none else some ((wH L xs g r rs).set 89 (.inl (0, 60, .inl (upd (g 54) (nI k).toNatClampNeg x))))) = _
  rw [if_neg (by intro h; rcases h with h | h; exact absurd h (by decide); exact nI_in hk (by decide) h), nI_clamp (by omega)]
  exact congrArg some (wH_set (by decide) rfl)
theorem wa_90 {i : Int32} {k : Nat} (hi : i = nI k) (hk : k < 132) : xaI (wH L xs g r rs) 90 i = some (g 55 k) := by
  subst hi
  show (if nI k < 0 ∨ 132 ≤ (nI k).toNatClampNeg then none else some (g 55 (nI k).toNatClampNeg)) = _
  rw [if_neg (nI_in hk (by decide)), nI_clamp (by omega)]
theorem wu_90 {i : Int32} {k : Nat} (x : Int32) (hi : i = nI k) (hk : k < 132) : xuI (wH L xs g r rs) 90 i x = some (wH L xs (gs g 55 k x) r rs) := by
  subst hi
  show (if 90 < 3 ∨ nI k < 0 ∨ 132 ≤ (nI k).toNatClampNeg then none else some ((wH L xs g r rs).set 90 (.inl (0, 132, .inl (upd (g 55) (nI k).toNatClampNeg x))))) = _
  rw [if_neg (by intro h; rcases h with h | h; exact absurd h (by decide); exact nI_in hk (by decide) h), nI_clamp (by omega)]
  exact congrArg some (wH_set (by decide) rfl)
theorem wa_91 {i : Int32} {k : Nat} (hi : i = nI k) (hk : k < 132) : xaI (wH L xs g r rs) 91 i = some (g 56 k) := by
  subst hi
  show (if nI k < 0 ∨ 132 ≤ (nI k).toNatClampNeg then none else some (g 56 (nI k).toNatClampNeg)) = _
  rw [if_neg (nI_in hk (by decide)), nI_clamp (by omega)]
theorem wu_91 {i : Int32} {k : Nat} (x : Int32) (hi : i = nI k) (hk : k < 132) : xuI (wH L xs g r rs) 91 i x = some (wH L xs (gs g 56 k x) r rs) := by
  subst hi
  show (if 91 < 3 ∨ nI k < 0 ∨ 132 ≤ (nI k).toNatClampNeg then none else some ((wH L xs g r rs).set 91 (.inl (0, 132, .inl (upd (g 56) (nI k).toNatClampNeg x))))) = _
  rw [if_neg (by intro h; rcases h with h | h; exact absurd h (by decide); exact nI_in hk (by decide) h), nI_clamp (by omega)]
  exact congrArg some (wH_set (by decide) rfl)
theorem wa_92 {i : Int32} {k : Nat} (hi : i = nI k) (hk : k < 1584) : xaI (wH L xs g r rs) 92 i = some (g 57 k) := by
  subst hi
  show (if nI k < 0 ∨ 1584 ≤ (nI k).toNatClampNeg then none else some (g 57 (nI k).toNatClampNeg)) = _
  rw [if_neg (nI_in hk (by decide)), nI_clamp (by omega)]
theorem wu_92 {i : Int32} {k : Nat} (x : Int32) (hi : i = nI k) (hk : k < 1584) : xuI (wH L xs g r rs) 92 i x = some (wH L xs (gs g 57 k x) r rs) := by
  subst hi
  show (if 92 < 3 ∨ nI k < 0 ∨ 1584 ≤ (nI k).toNatClampNeg then none else some ((wH L xs g r rs).set 92 (.inl (0, 1584, .inl (upd (g 57) (nI k).toNatClampNeg x))))) = _
  rw [if_neg (by intro h; rcases h with h | h; exact absurd h (by decide); exact nI_in hk (by decide) h), nI_clamp (by omega)]
  exact congrArg some (wH_set (by decide) rfl)
theorem wa_93 {i : Int32} {k : Nat} (hi : i = nI k) (hk : k < 264) : xaI (wH L xs g r rs) 93 i = some (g 58 k) := by
  subst hi
  show (if nI k < 0 ∨ 264 ≤ (nI k).toNatClampNeg then none else some (g 58 (nI k).toNatClampNeg)) = _
  rw [if_neg (nI_in hk (by decide)), nI_clamp (by omega)]
theorem wu_93 {i : Int32} {k : Nat} (x : Int32) (hi : i = nI k) (hk : k < 264) : xuI (wH L xs g r rs) 93 i x = some (wH L xs (gs g 58 k x) r rs) := by
  subst hi
  show (if 93 < 3 ∨ nI k < 0 ∨ 264 ≤ (nI k).toNatClampNeg then none else some ((wH L xs g r rs).set 93 (.inl (0, 264, .inl (upd (g 58) (nI k).toNatClampNeg x))))) = _
  rw [if_neg (by intro h; rcases h with h | h; exact absurd h (by decide); exact nI_in hk (by decide) h), nI_clamp (by omega)]
  exact congrArg some (wH_set (by decide) rfl)
theorem wa_95 {i : Int32} {k : Nat} (hi : i = nI k) (hk : k < 12) : xaI (wH L xs g r rs) 95 i = some (g 60 k) := by
  subst hi
  show (if nI k < 0 ∨ 12 ≤ (nI k).toNatClampNeg then none else some (g 60 (nI k).toNatClampNeg)) = _
  rw [if_neg (nI_in hk (by decide)), nI_clamp (by omega)]
theorem wu_95 {i : Int32} {k : Nat} (x : Int32) (hi : i = nI k) (hk : k < 12) : xuI (wH L xs g r rs) 95 i x = some (wH L xs (gs g 60 k x) r rs) := by
  subst hi
  show (if 95 < 3 ∨ nI k < 0 ∨ 12 ≤ (nI k).toNatClampNeg then none else some ((wH L xs g r rs).set 95 (.inl (0, 12, .inl (upd (g 60) (nI k).toNatClampNeg x))))) = _
  rw [if_neg (by intro h; rcases h with h | h; exact absurd h (by decide); exact nI_in hk (by decide) h), nI_clamp (by omega)]
  exact congrArg some (wH_set (by decide) rfl)
theorem wa_96 {i : Int32} {k : Nat} (hi : i = nI k) (hk : k < 12) : xaI (wH L xs g r rs) 96 i = some (g 61 k) := by
  subst hi
  show (if nI k < 0 ∨ 12 ≤ (nI k).toNatClampNeg then none else some (g 61 (nI k).toNatClampNeg)) = _
  rw [if_neg (nI_in hk (by decide)), nI_clamp (by omega)]
theorem wu_96 {i : Int32} {k : Nat} (x : Int32) (hi : i = nI k) (hk : k < 12) : xuI (wH L xs g r rs) 96 i x = some (wH L xs (gs g 61 k x) r rs) := by
  subst hi
  show (if 96 < 3 ∨ nI k < 0 ∨ 12 ≤ (nI k).toNatClampNeg then none else some ((wH L xs g r rs).set 96 (.inl (0, 12, .inl (upd (g 61) (nI k).toNatClampNeg x))))) = _
  rw [if_neg (by intro h; rcases h with h | h; exact absurd h (by decide); exact nI_in hk (by decide) h), nI_clamp (by omega)]
  exact congrArg some (wH_set (by decide) rfl)
theorem wa_97 {i : Int32} {k : Nat} (hi : i = nI k) (hk : k < 12) : xaI (wH L xs g r rs) 97 i = some (g 62 k) := by
  subst hi
  show (if nI k < 0 ∨ 12 ≤ (nI k).toNatClampNeg then none else some (g 62 (nI k).toNatClampNeg)) = _
  rw [if_neg (nI_in hk (by decide)), nI_clamp (by omega)]
theorem wu_97 {i : Int32} {k : Nat} (x : Int32) (hi : i = nI k) (hk : k < 12) : xuI (wH L xs g r rs) 97 i x = some (wH L xs (gs g 62 k x) r rs) := by
  subst hi
  show (if 97 < 3 ∨ nI k < 0 ∨ 12 ≤ (nI k).toNatClampNeg then none else some ((wH L xs g r rs).set 97 (.inl (0, 12, .inl (upd (g 62) (nI k).toNatClampNeg x))))) = _
  rw [if_neg (by intro h; rcases h with h | h; exact absurd h (by decide); exact nI_in hk (by decide) h), nI_clamp (by omega)]
  exact congrArg some (wH_set (by decide) rfl)
theorem wa_98 {i : Int32} {k : Nat} (hi : i = nI k) (hk : k < 12) : xaI (wH L xs g r rs) 98 i = some (g 63 k) := by
  subst hi
  show (if nI k < 0 ∨ 12 ≤ (nI k).toNatClampNeg then none else some (g 63 (nI k).toNatClampNeg)) = _
  rw [if_neg (nI_in hk (by decide)), nI_clamp (by omega)]
theorem wu_98 {i : Int32} {k : Nat} (x : Int32) (hi : i = nI k) (hk : k < 12) : xuI (wH L xs g r rs) 98 i x = some (wH L xs (gs g 63 k x) r rs) := by
  subst hi
  show (if 98 < 3 ∨ nI k < 0 ∨ 12 ≤ (nI k).toNatClampNeg then none else some ((wH L xs g r rs).set 98 (.inl (0, 12, .inl (upd (g 63) (nI k).toNatClampNeg x))))) = _
  rw [if_neg (by intro h; rcases h with h | h; exact absurd h (by decide); exact nI_in hk (by decide) h), nI_clamp (by omega)]
  exact congrArg some (wH_set (by decide) rfl)
theorem wa_99 {i : Int32} {k : Nat} (hi : i = nI k) (hk : k < 256) : xaI (wH L xs g r rs) 99 i = some (g 64 k) := by
  subst hi
  show (if nI k < 0 ∨ 256 ≤ (nI k).toNatClampNeg then none else some (g 64 (nI k).toNatClampNeg)) = _
  rw [if_neg (nI_in hk (by decide)), nI_clamp (by omega)]
theorem wu_99 {i : Int32} {k : Nat} (x : Int32) (hi : i = nI k) (hk : k < 256) : xuI (wH L xs g r rs) 99 i x = some (wH L xs (gs g 64 k x) r rs) := by
  subst hi
  show (if 99 < 3 ∨ nI k < 0 ∨ 256 ≤ (nI k).toNatClampNeg then none else some ((wH L xs g r rs).set 99 (.inl (0, 256, .inl (upd (g 64) (nI k).toNatClampNeg x))))) = _
  rw [if_neg (by intro h; rcases h with h | h; exact absurd h (by decide); exact nI_in hk (by decide) h), nI_clamp (by omega)]
  exact congrArg some (wH_set (by decide) rfl)
theorem wa_100 {i : Int32} {k : Nat} (hi : i = nI k) (hk : k < 16) : xaI (wH L xs g r rs) 100 i = some (g 65 k) := by
  subst hi
  show (if nI k < 0 ∨ 16 ≤ (nI k).toNatClampNeg then none else some (g 65 (nI k).toNatClampNeg)) = _
  rw [if_neg (nI_in hk (by decide)), nI_clamp (by omega)]
theorem wu_100 {i : Int32} {k : Nat} (x : Int32) (hi : i = nI k) (hk : k < 16) : xuI (wH L xs g r rs) 100 i x = some (wH L xs (gs g 65 k x) r rs) := by
  subst hi
  show (if 100 < 3 ∨ nI k < 0 ∨ 16 ≤ (nI k).toNatClampNeg then none else some ((wH L xs g r rs).set 100 (.inl (0, 16, .inl (upd (g 65) (nI k).toNatClampNeg x))))) = _
  rw [if_neg (by intro h; rcases h with h | h; exact absurd h (by decide); exact nI_in hk (by decide) h), nI_clamp (by omega)]
  exact congrArg some (wH_set (by decide) rfl)
theorem wz_7 {i : Int32} {k : Nat} (hi : i = nI k) (hk : k < 2) : xaZ (wH L xs g r rs) 7 i = some (g 10 k) := by
  subst hi
  show (if nI k < 0 ∨ 2 ≤ (nI k).toNatClampNeg then none else some (g 10 (nI k).toNatClampNeg)) = _
  rw [if_neg (nI_in hk (by decide)), nI_clamp (by omega)]
theorem wv_7 {i : Int32} {k : Nat} (hi : i = nI k) (hk : k < 2) : xuZ (wH L xs g r rs) 7 i 1 = some (wH L xs (gs g 10 k 1) r rs) := by
  subst hi
  show (if nI k < 0 ∨ 2 ≤ (nI k).toNatClampNeg then none else some ((wH L xs g r rs).set 7 (.inl (1, 2, .inl (upd (g 10) (nI k).toNatClampNeg (vp_nar .boolean 1)))))) = _
  rw [if_neg (nI_in hk (by decide)), nI_clamp (by omega)]
  exact congrArg some (wH_set (by decide) rfl)
theorem wz_94 {i : Int32} {k : Nat} (hi : i = nI k) (hk : k < 2) : xaZ (wH L xs g r rs) 94 i = some (g 59 k) := by
  subst hi
  show (if nI k < 0 ∨ 2 ≤ (nI k).toNatClampNeg then none else some (g 59 (nI k).toNatClampNeg)) = _
  rw [if_neg (nI_in hk (by decide)), nI_clamp (by omega)]
theorem wv_94 {i : Int32} {k : Nat} (hi : i = nI k) (hk : k < 2) : xuZ (wH L xs g r rs) 94 i 1 = some (wH L xs (gs g 59 k 1) r rs) := by
  subst hi
  show (if nI k < 0 ∨ 2 ≤ (nI k).toNatClampNeg then none else some ((wH L xs g r rs).set 94 (.inl (1, 2, .inl (upd (g 59) (nI k).toNatClampNeg (vp_nar .boolean 1)))))) = _
  rw [if_neg (nI_in hk (by decide)), nI_clamp (by omega)]
  exact congrArg some (wH_set (by decide) rfl)
theorem wq_4 {i : Int32} {k : Nat} (hi : i = nI k) (hk : k < 8) : xaR 2 (wH L xs g r rs) 4 i = some (44 + 2 * k) := by
  subst hi
  show Option.bind (if ¬ 2 = 2 ∨ nI k < 0 ∨ 8 ≤ (nI k).toNatClampNeg then none else some (rwF (nI k).toNatClampNeg)) id = _
  rw [if_neg (by intro h; rcases h with h | h; exact h rfl; exact nI_in hk (by decide) h), nI_clamp (by omega)]
  show rwF k = _
  unfold rwF
  rw [if_pos hk]
theorem wq_5 {i : Int32} {k : Nat} (hi : i = nI k) (hk : k < 4) : xaR 3 (wH L xs g r rs) 5 i = some (60 + 2 * k) := by
  subst hi
  show Option.bind (if ¬ 3 = 3 ∨ nI k < 0 ∨ 4 ≤ (nI k).toNatClampNeg then none else some (vcF (nI k).toNatClampNeg)) id = _
  rw [if_neg (by intro h; rcases h with h | h; exact h rfl; exact nI_in hk (by decide) h), nI_clamp (by omega)]
  show vcF k = _
  unfold vcF
  rw [if_pos hk]
theorem wq_6 {i : Int32} {k : Nat} (hi : i = nI k) (hk : k < 8) : xaR 3 (wH L xs g r rs) 6 i = some (68 + 2 * k) := by
  subst hi
  show Option.bind (if ¬ 3 = 3 ∨ nI k < 0 ∨ 8 ≤ (nI k).toNatClampNeg then none else some (imF (nI k).toNatClampNeg)) id = _
  rw [if_neg (by intro h; rcases h with h | h; exact h rfl; exact nI_in hk (by decide) h), nI_clamp (by omega)]
  show imF k = _
  unfold imF
  rw [if_pos hk]
theorem wq_11 {i : Int32} {k : Nat} (hi : i = nI k) (hk : k < 12) : xaR 3 (wH L xs g r rs) 11 i = some (13 + 2 * k) := by
  subst hi
  show Option.bind (if ¬ 3 = 3 ∨ nI k < 0 ∨ 12 ≤ (nI k).toNatClampNeg then none else some (bfF (nI k).toNatClampNeg)) id = _
  rw [if_neg (by intro h; rcases h with h | h; exact h rfl; exact nI_in hk (by decide) h), nI_clamp (by omega)]
  show bfF k = _
  unfold bfF
  rw [if_pos hk]
theorem wq_41 {i : Int32} {k : Nat} (hi : i = nI k) (hk : k < 12) : xaQ 4 (wH L xs g r rs) 41 i = some (r k) := by
  subst hi
  show (if ¬ 4 = 4 ∨ nI k < 0 ∨ 12 ≤ (nI k).toNatClampNeg then none else some (r (nI k).toNatClampNeg)) = _
  rw [if_neg (by intro h; rcases h with h | h; exact h rfl; exact nI_in hk (by decide) h), nI_clamp (by omega)]
theorem wqs_41 {i : Int32} {k : Nat} (q : Option Nat) (hi : i = nI k) (hk : k < 12) : xuQ 4 (wH L xs g r rs) 41 i q = some (wH L xs g (va_up r k q) rs) := by
  subst hi
  show (if ¬ 4 = 4 ∨ nI k < 0 ∨ 12 ≤ (nI k).toNatClampNeg then none else some ((wH L xs g r rs).set 41 (.inl (4, 12, .inr (.inr (.inr (.inr (va_up r (nI k).toNatClampNeg q)))))))) = _
  rw [if_neg (by intro h; rcases h with h | h; exact h rfl; exact nI_in hk (by decide) h), nI_clamp (by omega)]
  exact congrArg some (wH_set (by decide) rfl)
theorem wa_0 {i : Int32} {k : Nat} (hi : i = nI k) (hk : k < 256) : xaI (wH L xs g r rs) 0 i = some (CHf k) := by
  subst hi
  show (if nI k < 0 ∨ 256 ≤ (nI k).toNatClampNeg then none else some (CHf (nI k).toNatClampNeg)) = _
  rw [if_neg (nI_in hk (by decide)), nI_clamp (by omega)]
theorem wa_1 {i : Int32} {k : Nat} (hi : i = nI k) (hk : k < 16) : xaI (wH L xs g r rs) 1 i = some (WDf k) := by
  subst hi
  show (if nI k < 0 ∨ 16 ≤ (nI k).toNatClampNeg then none else some (WDf (nI k).toNatClampNeg)) = _
  rw [if_neg (nI_in hk (by decide)), nI_clamp (by omega)]
theorem wa_2 {i : Int32} {k : Nat} (hL : L ≤ 3072) (hi : i = nI k) (hk : k < L) : xaI (wH L xs g r rs) 2 i = some (xs k) := by
  subst hi
  show (if nI k < 0 ∨ L ≤ (nI k).toNatClampNeg then none else some (xs (nI k).toNatClampNeg)) = _
  rw [if_neg (nI_in hk (by omega)), nI_clamp (by omega)]
theorem wl_2 : xaL (wH L xs g r rs) 2 = some (nI L) := rfl
theorem wkv {j : Nat} (hj : j < 25) : xk (wH L xs g r rs) (vO j) = some 1 := by
  match j, hj with
  | 0, _ => exact rfl
  | 1, _ => exact rfl
  | 2, _ => exact rfl
  | 3, _ => exact rfl
  | 4, _ => exact rfl
  | 5, _ => exact rfl
  | 6, _ => exact rfl
  | 7, _ => exact rfl
  | 8, _ => exact rfl
  | 9, _ => exact rfl
  | 10, _ => exact rfl
  | 11, _ => exact rfl
  | 12, _ => exact rfl
  | 13, _ => exact rfl
  | 14, _ => exact rfl
  | 15, _ => exact rfl
  | 16, _ => exact rfl
  | 17, _ => exact rfl
  | 18, _ => exact rfl
  | 19, _ => exact rfl
  | 20, _ => exact rfl
  | 21, _ => exact rfl
  | 22, _ => exact rfl
  | 23, _ => exact rfl
  | 24, _ => exact rfl
  | k + 25, h => exact absurd h (by omega)
theorem wrv {j : Nat} (hj : j < 25) : xgR [1] (wH L xs g r rs) (vO j) 0 = some (vO j + 1) := by
  match j, hj with
  | 0, _ => exact rfl
  | 1, _ => exact rfl
  | 2, _ => exact rfl
  | 3, _ => exact rfl
  | 4, _ => exact rfl
  | 5, _ => exact rfl
  | 6, _ => exact rfl
  | 7, _ => exact rfl
  | 8, _ => exact rfl
  | 9, _ => exact rfl
  | 10, _ => exact rfl
  | 11, _ => exact rfl
  | 12, _ => exact rfl
  | 13, _ => exact rfl
  | 14, _ => exact rfl
  | 15, _ => exact rfl
  | 16, _ => exact rfl
  | 17, _ => exact rfl
  | 18, _ => exact rfl
  | 19, _ => exact rfl
  | 20, _ => exact rfl
  | 21, _ => exact rfl
  | 22, _ => exact rfl
  | 23, _ => exact rfl
  | 24, _ => exact rfl
  | k + 25, h => exact absurd h (by omega)
theorem wiv {j : Nat} (hj : j < 25) : xgI [1] (wH L xs g r rs) (vO j) 1 = some (g 1 j) := by
  match j, hj with
  | 0, _ => exact rfl
  | 1, _ => exact rfl
  | 2, _ => exact rfl
  | 3, _ => exact rfl
  | 4, _ => exact rfl
  | 5, _ => exact rfl
  | 6, _ => exact rfl
  | 7, _ => exact rfl
  | 8, _ => exact rfl
  | 9, _ => exact rfl
  | 10, _ => exact rfl
  | 11, _ => exact rfl
  | 12, _ => exact rfl
  | 13, _ => exact rfl
  | 14, _ => exact rfl
  | 15, _ => exact rfl
  | 16, _ => exact rfl
  | 17, _ => exact rfl
  | 18, _ => exact rfl
  | 19, _ => exact rfl
  | 20, _ => exact rfl
  | 21, _ => exact rfl
  | 22, _ => exact rfl
  | 23, _ => exact rfl
  | 24, _ => exact rfl
  | k + 25, h => exact absurd h (by omega)
theorem wpv {j : Nat} (hj : j < 25) (x : Int32) : xpI [1] (wH L xs g r rs) (vO j) 1 x = some (wH L xs (gs g 1 j x) r rs) := by
  match j, hj with
  | 0, _ => exact congrArg some (wH_set (by decide) rfl)
  | 1, _ => exact congrArg some (wH_set (by decide) rfl)
  | 2, _ => exact congrArg some (wH_set (by decide) rfl)
  | 3, _ => exact congrArg some (wH_set (by decide) rfl)
  | 4, _ => exact congrArg some (wH_set (by decide) rfl)
  | 5, _ => exact congrArg some (wH_set (by decide) rfl)
  | 6, _ => exact congrArg some (wH_set (by decide) rfl)
  | 7, _ => exact congrArg some (wH_set (by decide) rfl)
  | 8, _ => exact congrArg some (wH_set (by decide) rfl)
  | 9, _ => exact congrArg some (wH_set (by decide) rfl)
  | 10, _ => exact congrArg some (wH_set (by decide) rfl)
  | 11, _ => exact congrArg some (wH_set (by decide) rfl)
  | 12, _ => exact congrArg some (wH_set (by decide) rfl)
  | 13, _ => exact congrArg some (wH_set (by decide) rfl)
  | 14, _ => exact congrArg some (wH_set (by decide) rfl)
  | 15, _ => exact congrArg some (wH_set (by decide) rfl)
  | 16, _ => exact congrArg some (wH_set (by decide) rfl)
  | 17, _ => exact congrArg some (wH_set (by decide) rfl)
  | 18, _ => exact congrArg some (wH_set (by decide) rfl)
  | 19, _ => exact congrArg some (wH_set (by decide) rfl)
  | 20, _ => exact congrArg some (wH_set (by decide) rfl)
  | 21, _ => exact congrArg some (wH_set (by decide) rfl)
  | 22, _ => exact congrArg some (wH_set (by decide) rfl)
  | 23, _ => exact congrArg some (wH_set (by decide) rfl)
  | 24, _ => exact congrArg some (wH_set (by decide) rfl)
  | k + 25, h => exact absurd h (by omega)
theorem wmv {j : Nat} (hj : j < 25) : (wH L xs g r rs)[vO j + 1]? = some (.inl (0, 32, .inl (g (20 + j)))) := by
  match j, hj with
  | 0, _ => exact rfl
  | 1, _ => exact rfl
  | 2, _ => exact rfl
  | 3, _ => exact rfl
  | 4, _ => exact rfl
  | 5, _ => exact rfl
  | 6, _ => exact rfl
  | 7, _ => exact rfl
  | 8, _ => exact rfl
  | 9, _ => exact rfl
  | 10, _ => exact rfl
  | 11, _ => exact rfl
  | 12, _ => exact rfl
  | 13, _ => exact rfl
  | 14, _ => exact rfl
  | 15, _ => exact rfl
  | 16, _ => exact rfl
  | 17, _ => exact rfl
  | 18, _ => exact rfl
  | 19, _ => exact rfl
  | 20, _ => exact rfl
  | 21, _ => exact rfl
  | 22, _ => exact rfl
  | 23, _ => exact rfl
  | 24, _ => exact rfl
  | k + 25, h => exact absurd h (by omega)
theorem wmvs {j : Nat} (hj : j < 25) (f : Nat → Int32) : (wH L xs g r rs).set (vO j + 1) (.inl (0, 32, .inl f)) = wH L xs (va_up g (20 + j) f) r rs := by
  match j, hj with
  | 0, _ => exact wH_set (by decide) rfl
  | 1, _ => exact wH_set (by decide) rfl
  | 2, _ => exact wH_set (by decide) rfl
  | 3, _ => exact wH_set (by decide) rfl
  | 4, _ => exact wH_set (by decide) rfl
  | 5, _ => exact wH_set (by decide) rfl
  | 6, _ => exact wH_set (by decide) rfl
  | 7, _ => exact wH_set (by decide) rfl
  | 8, _ => exact wH_set (by decide) rfl
  | 9, _ => exact wH_set (by decide) rfl
  | 10, _ => exact wH_set (by decide) rfl
  | 11, _ => exact wH_set (by decide) rfl
  | 12, _ => exact wH_set (by decide) rfl
  | 13, _ => exact wH_set (by decide) rfl
  | 14, _ => exact wH_set (by decide) rfl
  | 15, _ => exact wH_set (by decide) rfl
  | 16, _ => exact wH_set (by decide) rfl
  | 17, _ => exact wH_set (by decide) rfl
  | 18, _ => exact wH_set (by decide) rfl
  | 19, _ => exact wH_set (by decide) rfl
  | 20, _ => exact wH_set (by decide) rfl
  | 21, _ => exact wH_set (by decide) rfl
  | 22, _ => exact wH_set (by decide) rfl
  | 23, _ => exact wH_set (by decide) rfl
  | 24, _ => exact wH_set (by decide) rfl
  | k + 25, h => exact absurd h (by omega)
theorem wkr {j : Nat} (hj : j < 8) : xk (wH L xs g r rs) (44 + 2 * j) = some 5 := by
  match j, hj with
  | 0, _ => exact rfl
  | 1, _ => exact rfl
  | 2, _ => exact rfl
  | 3, _ => exact rfl
  | 4, _ => exact rfl
  | 5, _ => exact rfl
  | 6, _ => exact rfl
  | 7, _ => exact rfl
  | k + 8, h => exact absurd h (by omega)
theorem wrr {j : Nat} (hj : j < 8) : xgR [5] (wH L xs g r rs) (44 + 2 * j) 0 = some (45 + 2 * j) := by
  match j, hj with
  | 0, _ => exact rfl
  | 1, _ => exact rfl
  | 2, _ => exact rfl
  | 3, _ => exact rfl
  | 4, _ => exact rfl
  | 5, _ => exact rfl
  | 6, _ => exact rfl
  | 7, _ => exact rfl
  | k + 8, h => exact absurd h (by omega)
theorem wir1 {j : Nat} (hj : j < 8) : xgI [5] (wH L xs g r rs) (44 + 2 * j) 1 = some (g 2 j) := by
  match j, hj with
  | 0, _ => exact rfl
  | 1, _ => exact rfl
  | 2, _ => exact rfl
  | 3, _ => exact rfl
  | 4, _ => exact rfl
  | 5, _ => exact rfl
  | 6, _ => exact rfl
  | 7, _ => exact rfl
  | k + 8, h => exact absurd h (by omega)
theorem wpr1 {j : Nat} (hj : j < 8) (x : Int32) : xpI [5] (wH L xs g r rs) (44 + 2 * j) 1 x = some (wH L xs (gs g 2 j x) r rs) := by
  match j, hj with
  | 0, _ => exact congrArg some (wH_set (by decide) rfl)
  | 1, _ => exact congrArg some (wH_set (by decide) rfl)
  | 2, _ => exact congrArg some (wH_set (by decide) rfl)
  | 3, _ => exact congrArg some (wH_set (by decide) rfl)
  | 4, _ => exact congrArg some (wH_set (by decide) rfl)
  | 5, _ => exact congrArg some (wH_set (by decide) rfl)
  | 6, _ => exact congrArg some (wH_set (by decide) rfl)
  | 7, _ => exact congrArg some (wH_set (by decide) rfl)
  | k + 8, h => exact absurd h (by omega)
theorem wir2 {j : Nat} (hj : j < 8) : xgI [5] (wH L xs g r rs) (44 + 2 * j) 2 = some (g 3 j) := by
  match j, hj with
  | 0, _ => exact rfl
  | 1, _ => exact rfl
  | 2, _ => exact rfl
  | 3, _ => exact rfl
  | 4, _ => exact rfl
  | 5, _ => exact rfl
  | 6, _ => exact rfl
  | 7, _ => exact rfl
  | k + 8, h => exact absurd h (by omega)
theorem wpr2 {j : Nat} (hj : j < 8) (x : Int32) : xpI [5] (wH L xs g r rs) (44 + 2 * j) 2 x = some (wH L xs (gs g 3 j x) r rs) := by
  match j, hj with
  | 0, _ => exact congrArg some (wH_set (by decide) rfl)
  | 1, _ => exact congrArg some (wH_set (by decide) rfl)
  | 2, _ => exact congrArg some (wH_set (by decide) rfl)
  | 3, _ => exact congrArg some (wH_set (by decide) rfl)
  | 4, _ => exact congrArg some (wH_set (by decide) rfl)
  | 5, _ => exact congrArg some (wH_set (by decide) rfl)
  | 6, _ => exact congrArg some (wH_set (by decide) rfl)
  | 7, _ => exact congrArg some (wH_set (by decide) rfl)
  | k + 8, h => exact absurd h (by omega)
theorem wir3 {j : Nat} (hj : j < 8) : xgI [5] (wH L xs g r rs) (44 + 2 * j) 3 = some (g 4 j) := by
  match j, hj with
  | 0, _ => exact rfl
  | 1, _ => exact rfl
  | 2, _ => exact rfl
  | 3, _ => exact rfl
  | 4, _ => exact rfl
  | 5, _ => exact rfl
  | 6, _ => exact rfl
  | 7, _ => exact rfl
  | k + 8, h => exact absurd h (by omega)
theorem wpr3 {j : Nat} (hj : j < 8) (x : Int32) : xpI [5] (wH L xs g r rs) (44 + 2 * j) 3 x = some (wH L xs (gs g 4 j x) r rs) := by
  match j, hj with
  | 0, _ => exact congrArg some (wH_set (by decide) rfl)
  | 1, _ => exact congrArg some (wH_set (by decide) rfl)
  | 2, _ => exact congrArg some (wH_set (by decide) rfl)
  | 3, _ => exact congrArg some (wH_set (by decide) rfl)
  | 4, _ => exact congrArg some (wH_set (by decide) rfl)
  | 5, _ => exact congrArg some (wH_set (by decide) rfl)
  | 6, _ => exact congrArg some (wH_set (by decide) rfl)
  | 7, _ => exact congrArg some (wH_set (by decide) rfl)
  | k + 8, h => exact absurd h (by omega)
theorem wmr {j : Nat} (hj : j < 8) : (wH L xs g r rs)[45 + 2 * j]? = some (.inl (0, 40, .inl (g (11 + j)))) := by
  match j, hj with
  | 0, _ => exact rfl
  | 1, _ => exact rfl
  | 2, _ => exact rfl
  | 3, _ => exact rfl
  | 4, _ => exact rfl
  | 5, _ => exact rfl
  | 6, _ => exact rfl
  | 7, _ => exact rfl
  | k + 8, h => exact absurd h (by omega)
theorem wmrs {j : Nat} (hj : j < 8) (f : Nat → Int32) : (wH L xs g r rs).set (45 + 2 * j) (.inl (0, 40, .inl f)) = wH L xs (va_up g (11 + j) f) r rs := by
  match j, hj with
  | 0, _ => exact wH_set (by decide) rfl
  | 1, _ => exact wH_set (by decide) rfl
  | 2, _ => exact wH_set (by decide) rfl
  | 3, _ => exact wH_set (by decide) rfl
  | 4, _ => exact wH_set (by decide) rfl
  | 5, _ => exact wH_set (by decide) rfl
  | 6, _ => exact wH_set (by decide) rfl
  | 7, _ => exact wH_set (by decide) rfl
  | k + 8, h => exact absurd h (by omega)
theorem xaI_at {h : xH} {a n : Nat} {f : Nat → Int32} (he : h[a]? = some (.inl (0, n, .inl f))) {i : Int32} {k : Nat} (hi : i = nI k) (hk : k < n) (hn : n < 2 ^ 31) : xaI h a i = some (f k) := by
  subst hi
  unfold xaI
  rw [he]
  show (if nI k < 0 ∨ n ≤ (nI k).toNatClampNeg then none else some (f (nI k).toNatClampNeg)) = _
  rw [if_neg (nI_in hk hn), nI_clamp (by omega)]
theorem xuI_at {h : xH} {a n : Nat} {f : Nat → Int32} (he : h[a]? = some (.inl (0, n, .inl f))) (ha : 3 ≤ a) {i : Int32} {k : Nat} (x : Int32) (hi : i = nI k) (hk : k < n) (hn : n < 2 ^ 31) : xuI h a i x = some (h.set a (.inl (0, n, .inl (upd f k x)))) := by
  subst hi
  unfold xuI
  rw [he]
  show (if a < 3 ∨ nI k < 0 ∨ n ≤ (nI k).toNatClampNeg then none else some (h.set a (.inl (0, n, .inl (upd f (nI k).toNatClampNeg x))))) = _
  rw [if_neg (by intro h; rcases h with h | h; omega; exact nI_in hk hn h), nI_clamp (by omega)]
theorem vO_ge {j : Nat} : 3 ≤ vO j + 1 := by unfold vO; split <;> (try split) <;> omega
theorem wav {j : Nat} (hj : j < 25) {i : Int32} {k : Nat} (hi : i = nI k) (hk : k < 32) : xaI (wH L xs g r rs) (vO j + 1) i = some (g (20 + j) k) := xaI_at (wmv hj) hi hk (by decide)
theorem wuv {j : Nat} (hj : j < 25) {i : Int32} {k : Nat} (x : Int32) (hi : i = nI k) (hk : k < 32) : xuI (wH L xs g r rs) (vO j + 1) i x = some (wH L xs (gs g (20 + j) k x) r rs) := by
  rw [xuI_at (wmv hj) vO_ge x hi hk (by decide), wmvs hj]
  rfl
theorem war {j : Nat} (hj : j < 8) {i : Int32} {k : Nat} (hi : i = nI k) (hk : k < 40) : xaI (wH L xs g r rs) (45 + 2 * j) i = some (g (11 + j) k) := xaI_at (wmr hj) hi hk (by decide)
theorem wur {j : Nat} (hj : j < 8) {i : Int32} {k : Nat} (x : Int32) (hi : i = nI k) (hk : k < 40) : xuI (wH L xs g r rs) (45 + 2 * j) i x = some (wH L xs (gs g (11 + j) k x) r rs) := by
  rw [xuI_at (wmr hj) (by omega) x hi hk (by decide), wmrs hj]
  rfl
theorem wLv {j : Nat} (hj : j < 25) : xaL (wH L xs g r rs) (vO j + 1) = some 32 := by
  unfold xaL
  rw [wmv hj]
  rfl
theorem wLr {j : Nat} (hj : j < 8) : xaL (wH L xs g r rs) (45 + 2 * j) = some 40 := by
  unfold xaL
  rw [wmr hj]
  rfl
theorem wa_12' {k : Nat} (hk : k < 12) : xaI (wH L xs g r rs) 12 (nI k) = some (g 5 k) := wa_12 rfl hk
theorem wu_12' {k : Nat} {x : Int32} (hk : k < 12) : xuI (wH L xs g r rs) 12 (nI k) x = some (wH L xs (gs g 5 k x) r rs) := wu_12 x rfl hk
theorem wa_38' {k : Nat} (hk : k < 60) : xaI (wH L xs g r rs) 38 (nI k) = some (g 6 k) := wa_38 rfl hk
theorem wu_38' {k : Nat} {x : Int32} (hk : k < 60) : xuI (wH L xs g r rs) 38 (nI k) x = some (wH L xs (gs g 6 k x) r rs) := wu_38 x rfl hk
theorem wa_39' {k : Nat} (hk : k < 12) : xaI (wH L xs g r rs) 39 (nI k) = some (g 7 k) := wa_39 rfl hk
theorem wu_39' {k : Nat} {x : Int32} (hk : k < 12) : xuI (wH L xs g r rs) 39 (nI k) x = some (wH L xs (gs g 7 k x) r rs) := wu_39 x rfl hk
theorem wa_40' {k : Nat} (hk : k < 12) : xaI (wH L xs g r rs) 40 (nI k) = some (g 8 k) := wa_40 rfl hk
theorem wu_40' {k : Nat} {x : Int32} (hk : k < 12) : xuI (wH L xs g r rs) 40 (nI k) x = some (wH L xs (gs g 8 k x) r rs) := wu_40 x rfl hk
theorem wa_43' {k : Nat} (hk : k < 16) : xaI (wH L xs g r rs) 43 (nI k) = some (g 9 k) := wa_43 rfl hk
theorem wu_43' {k : Nat} {x : Int32} (hk : k < 16) : xuI (wH L xs g r rs) 43 (nI k) x = some (wH L xs (gs g 9 k x) r rs) := wu_43 x rfl hk
theorem wa_85' {k : Nat} (hk : k < 8) : xaI (wH L xs g r rs) 85 (nI k) = some (g 50 k) := wa_85 rfl hk
theorem wu_85' {k : Nat} {x : Int32} (hk : k < 8) : xuI (wH L xs g r rs) 85 (nI k) x = some (wH L xs (gs g 50 k x) r rs) := wu_85 x rfl hk
theorem wa_86' {k : Nat} (hk : k < 8) : xaI (wH L xs g r rs) 86 (nI k) = some (g 51 k) := wa_86 rfl hk
theorem wu_86' {k : Nat} {x : Int32} (hk : k < 8) : xuI (wH L xs g r rs) 86 (nI k) x = some (wH L xs (gs g 51 k x) r rs) := wu_86 x rfl hk
theorem wa_87' {k : Nat} (hk : k < 320) : xaI (wH L xs g r rs) 87 (nI k) = some (g 52 k) := wa_87 rfl hk
theorem wu_87' {k : Nat} {x : Int32} (hk : k < 320) : xuI (wH L xs g r rs) 87 (nI k) x = some (wH L xs (gs g 52 k x) r rs) := wu_87 x rfl hk
theorem wa_88' {k : Nat} (hk : k < 40) : xaI (wH L xs g r rs) 88 (nI k) = some (g 53 k) := wa_88 rfl hk
theorem wu_88' {k : Nat} {x : Int32} (hk : k < 40) : xuI (wH L xs g r rs) 88 (nI k) x = some (wH L xs (gs g 53 k x) r rs) := wu_88 x rfl hk
theorem wa_89' {k : Nat} (hk : k < 60) : xaI (wH L xs g r rs) 89 (nI k) = some (g 54 k) := wa_89 rfl hk
theorem wu_89' {k : Nat} {x : Int32} (hk : k < 60) : xuI (wH L xs g r rs) 89 (nI k) x = some (wH L xs (gs g 54 k x) r rs) := wu_89 x rfl hk
theorem wa_90' {k : Nat} (hk : k < 132) : xaI (wH L xs g r rs) 90 (nI k) = some (g 55 k) := wa_90 rfl hk
theorem wu_90' {k : Nat} {x : Int32} (hk : k < 132) : xuI (wH L xs g r rs) 90 (nI k) x = some (wH L xs (gs g 55 k x) r rs) := wu_90 x rfl hk
theorem wa_91' {k : Nat} (hk : k < 132) : xaI (wH L xs g r rs) 91 (nI k) = some (g 56 k) := wa_91 rfl hk
theorem wu_91' {k : Nat} {x : Int32} (hk : k < 132) : xuI (wH L xs g r rs) 91 (nI k) x = some (wH L xs (gs g 56 k x) r rs) := wu_91 x rfl hk
theorem wa_92' {k : Nat} (hk : k < 1584) : xaI (wH L xs g r rs) 92 (nI k) = some (g 57 k) := wa_92 rfl hk
theorem wu_92' {k : Nat} {x : Int32} (hk : k < 1584) : xuI (wH L xs g r rs) 92 (nI k) x = some (wH L xs (gs g 57 k x) r rs) := wu_92 x rfl hk
theorem wa_93' {k : Nat} (hk : k < 264) : xaI (wH L xs g r rs) 93 (nI k) = some (g 58 k) := wa_93 rfl hk
theorem wu_93' {k : Nat} {x : Int32} (hk : k < 264) : xuI (wH L xs g r rs) 93 (nI k) x = some (wH L xs (gs g 58 k x) r rs) := wu_93 x rfl hk
theorem wa_95' {k : Nat} (hk : k < 12) : xaI (wH L xs g r rs) 95 (nI k) = some (g 60 k) := wa_95 rfl hk
theorem wu_95' {k : Nat} {x : Int32} (hk : k < 12) : xuI (wH L xs g r rs) 95 (nI k) x = some (wH L xs (gs g 60 k x) r rs) := wu_95 x rfl hk
theorem wa_96' {k : Nat} (hk : k < 12) : xaI (wH L xs g r rs) 96 (nI k) = some (g 61 k) := wa_96 rfl hk
theorem wu_96' {k : Nat} {x : Int32} (hk : k < 12) : xuI (wH L xs g r rs) 96 (nI k) x = some (wH L xs (gs g 61 k x) r rs) := wu_96 x rfl hk
theorem wa_97' {k : Nat} (hk : k < 12) : xaI (wH L xs g r rs) 97 (nI k) = some (g 62 k) := wa_97 rfl hk
theorem wu_97' {k : Nat} {x : Int32} (hk : k < 12) : xuI (wH L xs g r rs) 97 (nI k) x = some (wH L xs (gs g 62 k x) r rs) := wu_97 x rfl hk
theorem wa_98' {k : Nat} (hk : k < 12) : xaI (wH L xs g r rs) 98 (nI k) = some (g 63 k) := wa_98 rfl hk
theorem wu_98' {k : Nat} {x : Int32} (hk : k < 12) : xuI (wH L xs g r rs) 98 (nI k) x = some (wH L xs (gs g 63 k x) r rs) := wu_98 x rfl hk
theorem wa_99' {k : Nat} (hk : k < 256) : xaI (wH L xs g r rs) 99 (nI k) = some (g 64 k) := wa_99 rfl hk
theorem wu_99' {k : Nat} {x : Int32} (hk : k < 256) : xuI (wH L xs g r rs) 99 (nI k) x = some (wH L xs (gs g 64 k x) r rs) := wu_99 x rfl hk
theorem wa_100' {k : Nat} (hk : k < 16) : xaI (wH L xs g r rs) 100 (nI k) = some (g 65 k) := wa_100 rfl hk
theorem wu_100' {k : Nat} {x : Int32} (hk : k < 16) : xuI (wH L xs g r rs) 100 (nI k) x = some (wH L xs (gs g 65 k x) r rs) := wu_100 x rfl hk
theorem wz_7' {k : Nat} (hk : k < 2) : xaZ (wH L xs g r rs) 7 (nI k) = some (g 10 k) := wz_7 rfl hk
theorem wv_7' {k : Nat} (hk : k < 2) : xuZ (wH L xs g r rs) 7 (nI k) 1 = some (wH L xs (gs g 10 k 1) r rs) := wv_7 rfl hk
theorem wz_94' {k : Nat} (hk : k < 2) : xaZ (wH L xs g r rs) 94 (nI k) = some (g 59 k) := wz_94 rfl hk
theorem wv_94' {k : Nat} (hk : k < 2) : xuZ (wH L xs g r rs) 94 (nI k) 1 = some (wH L xs (gs g 59 k 1) r rs) := wv_94 rfl hk
theorem wq_4' {k : Nat} (hk : k < 8) : xaR 2 (wH L xs g r rs) 4 (nI k) = some (44 + 2 * k) := wq_4 rfl hk
theorem wq_5' {k : Nat} (hk : k < 4) : xaR 3 (wH L xs g r rs) 5 (nI k) = some (60 + 2 * k) := wq_5 rfl hk
theorem wq_6' {k : Nat} (hk : k < 8) : xaR 3 (wH L xs g r rs) 6 (nI k) = some (68 + 2 * k) := wq_6 rfl hk
theorem wq_11' {k : Nat} (hk : k < 12) : xaR 3 (wH L xs g r rs) 11 (nI k) = some (13 + 2 * k) := wq_11 rfl hk
theorem wq_41' {k : Nat} (hk : k < 12) : xaQ 4 (wH L xs g r rs) 41 (nI k) = some (r k) := wq_41 rfl hk
theorem wqs_41' {k : Nat} {q : Option Nat} (hk : k < 12) : xuQ 4 (wH L xs g r rs) 41 (nI k) q = some (wH L xs g (va_up r k q) rs) := wqs_41 q rfl hk
theorem wav' {j k : Nat} (hj : j < 25) (hk : k < 32) : xaI (wH L xs g r rs) (vO j + 1) (nI k) = some (g (20 + j) k) := wav hj rfl hk
theorem wuv' {j k : Nat} {x : Int32} (hj : j < 25) (hk : k < 32) : xuI (wH L xs g r rs) (vO j + 1) (nI k) x = some (wH L xs (gs g (20 + j) k x) r rs) := wuv hj x rfl hk
theorem war' {j k : Nat} (hj : j < 8) (hk : k < 40) : xaI (wH L xs g r rs) (45 + 2 * j) (nI k) = some (g (11 + j) k) := war hj rfl hk
theorem wur' {j k : Nat} {x : Int32} (hj : j < 8) (hk : k < 40) : xuI (wH L xs g r rs) (45 + 2 * j) (nI k) x = some (wH L xs (gs g (11 + j) k x) r rs) := wur hj x rfl hk
theorem wa_0' {k : Nat} (hk : k < 256) : xaI (wH L xs g r rs) 0 (nI k) = some (CHf k) := wa_0 rfl hk
theorem wa_1' {k : Nat} (hk : k < 16) : xaI (wH L xs g r rs) 1 (nI k) = some (WDf k) := wa_1 rfl hk
theorem wvec {k : Nat} (hk : k < 4) : 60 + 2 * k = vO (13 + k) := by unfold vO; rw [if_neg (by omega), if_neg (by omega)]; omega
theorem wimg {k : Nat} (hk : k < 8) : 68 + 2 * k = vO (17 + k) := by unfold vO; rw [if_neg (by omega), if_neg (by omega)]; omega
theorem wbef {k : Nat} (hk : k < 12) : 13 + 2 * k = vO (1 + k) := by unfold vO; rw [if_neg (by omega), if_pos (by omega)]; omega
theorem wscr : 8 = vO 0 := rfl
end WORLD
