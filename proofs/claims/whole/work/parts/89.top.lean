theorem tp_NM {args : Array Value} {s : State} (hts : ∀ w ∈ lw_tbl, w.before args s = true) : ∀ q ∈ xNM, va_Nw (.methodLinkNest q.1 q.2.1 q.2.2.1 q.2.2.2) s := (List.forall_mem_cons.mpr ⟨va_Nw.of rfl (hts _ (List.mem_of_getElem? (i := 74) (by decide +kernel))), (List.forall_mem_cons.mpr ⟨va_Nw.of rfl (hts _ (List.mem_of_getElem? (i := 96) (by decide +kernel))), (List.forall_mem_cons.mpr ⟨va_Nw.of rfl (hts _ (List.mem_of_getElem? (i := 113) (by decide +kernel))), (List.forall_mem_cons.mpr ⟨va_Nw.of rfl (hts _ (List.mem_of_getElem? (i := 154) (by decide +kernel))), (List.forall_mem_cons.mpr ⟨va_Nw.of rfl (hts _ (List.mem_of_getElem? (i := 168) (by decide +kernel))), (List.forall_mem_cons.mpr ⟨va_Nw.of rfl (hts _ (List.mem_of_getElem? (i := 469) (by decide +kernel))), (List.forall_mem_cons.mpr ⟨va_Nw.of rfl (hts _ (List.mem_of_getElem? (i := 597) (by decide +kernel))), (fun _ h => absurd h List.not_mem_nil)⟩)⟩)⟩)⟩)⟩)⟩)⟩)
theorem tp_NF {args : Array Value} {s : State} (hts : ∀ w ∈ lw_tbl, w.before args s = true) : va_Nw xNF s := va_Nw.of (A := args) rfl (hts _ (List.mem_of_getElem? (i := 567) (by decide +kernel)))
theorem tp_ND {args : Array Value} {s : State} (hts : ∀ w ∈ lw_tbl, w.before args s = true) : ∀ q ∈ xND, va_Nw (.declares q) s := (List.forall_mem_cons.mpr ⟨va_Nw.of rfl (hts _ (List.mem_of_getElem? (i := 414) (by decide +kernel))), (List.forall_mem_cons.mpr ⟨va_Nw.of rfl (hts _ (List.mem_of_getElem? (i := 693) (by decide +kernel))), (List.forall_mem_cons.mpr ⟨va_Nw.of rfl (hts _ (List.mem_of_getElem? (i := 766) (by decide +kernel))), (fun _ h => absurd h List.not_mem_nil)⟩)⟩)⟩)
theorem tp_NC {args : Array Value} {s : State} (hts : ∀ w ∈ lw_tbl, w.before args s = true) : ∀ q ∈ xNC, va_Nw (.castable q.1 q.2) s := (List.forall_mem_cons.mpr ⟨va_Nw.of rfl (hts _ (List.mem_of_getElem? (i := 1240) (by decide +kernel))), (List.forall_mem_cons.mpr ⟨va_Nw.of rfl (hts _ (List.mem_of_getElem? (i := 1241) (by decide +kernel))), (List.forall_mem_cons.mpr ⟨va_Nw.of rfl (hts _ (List.mem_of_getElem? (i := 1242) (by decide +kernel))), (List.forall_mem_cons.mpr ⟨va_Nw.of rfl (hts _ (List.mem_of_getElem? (i := 1243) (by decide +kernel))), (List.forall_mem_cons.mpr ⟨va_Nw.of rfl (hts _ (List.mem_of_getElem? (i := 1244) (by decide +kernel))), (List.forall_mem_cons.mpr ⟨va_Nw.of rfl (hts _ (List.mem_of_getElem? (i := 1245) (by decide +kernel))), (List.forall_mem_cons.mpr ⟨va_Nw.of rfl (hts _ (List.mem_of_getElem? (i := 1246) (by decide +kernel))), (List.forall_mem_cons.mpr ⟨va_Nw.of rfl (hts _ (List.mem_of_getElem? (i := 1247) (by decide +kernel))), (fun _ h => absurd h List.not_mem_nil)⟩)⟩)⟩)⟩)⟩)⟩)⟩)⟩)
theorem tp_AO {args : Array Value} {s : State} (hts : ∀ w ∈ lw_tbl, w.before args s = true) : ∀ q ∈ xAO, va_AO q s := (List.forall_mem_cons.mpr ⟨va_AO.of (hts _ (List.mem_of_getElem? (i := 70) (by decide +kernel))), (List.forall_mem_cons.mpr ⟨va_AO.of (hts _ (List.mem_of_getElem? (i := 72) (by decide +kernel))), (List.forall_mem_cons.mpr ⟨va_AO.of (hts _ (List.mem_of_getElem? (i := 151) (by decide +kernel))), (fun _ h => absurd h List.not_mem_nil)⟩)⟩)⟩)
theorem tp_Nc {args : Array Value} {s : State} (h : (Jvm.Cond.and given_1 narrow_1).before args s = true) : ∀ q ∈ xNc, va_Nc q.1 q.2 s := (List.forall_mem_cons.mpr ⟨va_Nc.of (flat_of_before _ h _ (by decide +kernel)), (List.forall_mem_cons.mpr ⟨va_Nc.of (flat_of_before _ h _ (by decide +kernel)), (List.forall_mem_cons.mpr ⟨va_Nc.of (flat_of_before _ h _ (by decide +kernel)), (List.forall_mem_cons.mpr ⟨va_Nc.of (flat_of_before _ h _ (by decide +kernel)), (List.forall_mem_cons.mpr ⟨va_Nc.of (flat_of_before _ h _ (by decide +kernel)), (List.forall_mem_cons.mpr ⟨va_Nc.of (flat_of_before _ h _ (by decide +kernel)), (List.forall_mem_cons.mpr ⟨va_Nc.of (flat_of_before _ h _ (by decide +kernel)), (List.forall_mem_cons.mpr ⟨va_Nc.of (flat_of_before _ h _ (by decide +kernel)), (List.forall_mem_cons.mpr ⟨va_Nc.of (flat_of_before _ h _ (by decide +kernel)), (List.forall_mem_cons.mpr ⟨va_Nc.of (flat_of_before _ h _ (by decide +kernel)), (List.forall_mem_cons.mpr ⟨va_Nc.of (flat_of_before _ h _ (by decide +kernel)), (List.forall_mem_cons.mpr ⟨va_Nc.of (flat_of_before _ h _ (by decide +kernel)), (List.forall_mem_cons.mpr ⟨va_Nc.of (flat_of_before _ h _ (by decide +kernel)), (List.forall_mem_cons.mpr ⟨va_Nc.of (flat_of_before _ h _ (by decide +kernel)), (List.forall_mem_cons.mpr ⟨va_Nc.of (flat_of_before _ h _ (by decide +kernel)), (List.forall_mem_cons.mpr ⟨va_Nc.of (flat_of_before _ h _ (by decide +kernel)), (List.forall_mem_cons.mpr ⟨va_Nc.of (flat_of_before _ h _ (by decide +kernel)), (fun _ h => absurd h List.not_mem_nil)⟩)⟩)⟩)⟩)⟩)⟩)⟩)⟩)⟩)⟩)⟩)⟩)⟩)⟩)⟩)⟩)⟩)
theorem tp_ch : ∀ j, j < 256 → (Cond.eq (.elem (.static "ClassBits" "CHOICES" "[I") (.int (Int32.ofNat j))) (.int (CHf j))) ∈ flatC (Jvm.Cond.and given_1 narrow_1) := by
  have e : ((flatC (Jvm.Cond.and given_1 narrow_1)).drop 7).take 256 = (List.range 256).map (fun j => Cond.eq (.elem (.static "ClassBits" "CHOICES" "[I") (.int (Int32.ofNat j))) (.int (CHf j))) := by decide +kernel
  intro j hj
  refine List.mem_of_mem_drop (List.mem_of_mem_take (i := 256) (?_ : _ ∈ ((flatC (Jvm.Cond.and given_1 narrow_1)).drop 7).take 256))
  rw [e]
  exact List.mem_map.mpr ⟨j, List.mem_range.mpr hj, rfl⟩
theorem tp_wd : ∀ j, j < 16 → (Cond.eq (.elem (.static "ClassBits" "WIDTHS" "[I") (.int (Int32.ofNat j))) (.int (WDf j))) ∈ flatC (Jvm.Cond.and given_1 narrow_1) := by
  have e : ((flatC (Jvm.Cond.and given_1 narrow_1)).drop 266).take 16 = (List.range 16).map (fun j => Cond.eq (.elem (.static "ClassBits" "WIDTHS" "[I") (.int (Int32.ofNat j))) (.int (WDf j))) := by decide +kernel
  intro j hj
  refine List.mem_of_mem_drop (List.mem_of_mem_take (i := 16) (?_ : _ ∈ ((flatC (Jvm.Cond.and given_1 narrow_1)).drop 266).take 16))
  rw [e]
  exact List.mem_map.mpr ⟨j, List.mem_range.mpr hj, rfl⟩
theorem tp_K {args : Array Value} {s : State} (hgd : ∀ w ∈ lw_gd, w.before args s = true) : ∃ (D : va_G), ∀ (k : Nat) (q : vw_C), vwCl[k]? = some q → u_Kn s q.1 q.2.1 q.2.2 (D.1 k) (D.2 k) := by
  have key : ∀ k : Nat, ∃ (z : ClassId × (Nat → Nat)), ∀ q, vwCl[k]? = some q → u_Kn s q.1 q.2.1 q.2.2 z.1 z.2 := by
    intro k
    have : ∃ (c : ClassId) (i : Nat → Nat), ∀ q, vwCl[k]? = some q → u_Kn s q.1 q.2.1 q.2.2 c i := match k with
        | 0 => by
          obtain ⟨c, i, h⟩ := u_known (C := RX0) (T := TX0) (N := 2) (n := 2) hgd inG0 (hgd _ wd_368)
          exact ⟨c, i, fun q hq => by cases hq; exact h⟩
        | 1 => by
          obtain ⟨c, i, h⟩ := u_known (C := RX1) (T := TX1) (N := 2) (n := 2) hgd inG1 (hgd _ wd_73)
          exact ⟨c, i, fun q hq => by cases hq; exact h⟩
        | 2 => by
          obtain ⟨c, i, h⟩ := u_known (C := RX2) (T := TX2) (N := 2) (n := 2) hgd inG2 (hgd _ wd_377)
          exact ⟨c, i, fun q hq => by cases hq; exact h⟩
        | 3 => by
          obtain ⟨c, i, h⟩ := u_known (C := RX3) (T := TX3) (N := 4) (n := 4) hgd inG3 (hgd _ wd_90)
          exact ⟨c, i, fun q hq => by cases hq; exact h⟩
        | 4 => by
          obtain ⟨c, i, h⟩ := u_known (C := RX4) (T := TX4) (N := 2) (n := 2) hgd inG4 (hgd _ wd_338)
          exact ⟨c, i, fun q hq => by cases hq; exact h⟩
        | 5 => by
          obtain ⟨c, i, h⟩ := u_known (C := RX5) (T := TX5) (N := 4) (n := 4) hgd inG5 (hgd _ wd_167)
          exact ⟨c, i, fun q hq => by cases hq; exact h⟩
        | 6 => by
          obtain ⟨c, i, h⟩ := u_known (C := RX7) (T := TX7) (N := 9) (n := 9) hgd inG7 (hgd _ wd_112)
          exact ⟨c, i, fun q hq => by cases hq; exact h⟩
        | 7 => by
          obtain ⟨c, i, h⟩ := u_known (C := RX8) (T := TX8) (N := 2) (n := 2) hgd inG8 (hgd _ wd_359)
          exact ⟨c, i, fun q hq => by cases hq; exact h⟩
        | 8 => by
          obtain ⟨c, i, h⟩ := u_known (C := RX9) (T := TX9) (N := 2) (n := 2) hgd inG9 (hgd _ wd_153)
          exact ⟨c, i, fun q hq => by cases hq; exact h⟩
        | 9 => by
          obtain ⟨c, i, h⟩ := u_known (C := RX10) (T := TX10) (N := 2) (n := 2) hgd inG10 (hgd _ wd_386)
          exact ⟨c, i, fun q hq => by cases hq; exact h⟩
        | 10 => by
          obtain ⟨c, i, h⟩ := u_known (C := RX11) (T := TX11) (N := 12) (n := 12) hgd inG11 (hgd _ wd_62)
          exact ⟨c, i, fun q hq => by cases hq; exact h⟩
        | 11 => by
          obtain ⟨c, i, h⟩ := u_known (C := RX12) (T := TX12) (N := 28) (n := 28) hgd inG12 (hgd _ wd_802)
          exact ⟨c, i, fun q hq => by cases hq; exact h⟩
        | k + 12 => ⟨0, fun _ => 0, fun q hq => by simp [vwCl] at hq⟩
    obtain ⟨c, i, h⟩ := this
    exact ⟨(c, i), h⟩
  obtain ⟨f, hf⟩ := Classical.axiomOfChoice key
  exact ⟨(fun k => (f k).1, fun k => (f k).2), hf⟩
theorem tp_A {args : Array Value} {s : State} (hgd : ∀ w ∈ lw_gd, w.before args s = true) (hao : ∀ q ∈ xAO, va_AO q s) : ∃ (tA : Nat → Nat), ∀ (k : Nat) (q : ClassId × FieldType), (xT tA)[k]? = some q → ArrOfT s q.1 q.2 ∧ va_RA s q.1 q.2 := by
  obtain ⟨c0, k0, m0, a1, a2, a3⟩ := Cond.arrayClass_spec (hgd _ wd_88)
  obtain ⟨c1, k1, m1, b1, b2, b3⟩ := Cond.arrayClass_spec (hgd _ wd_87)
  obtain ⟨m2, c2, k2, d1, -, d2, d3, d4⟩ := Cond.arrayOver_spec (hao RX5 (by decide +kernel))
  obtain ⟨m3, c3, k3, e1, -, e2, e3, e4⟩ := Cond.arrayOver_spec (hao RX1 (by decide +kernel))
  obtain ⟨m4, c4, k4, f1, -, f2, f3, f4⟩ := Cond.arrayOver_spec (hao RX6 (by decide +kernel))
  refine ⟨fun k => if k = 0 then c0 else if k = 1 then c1 else if k = 2 then c2 else if k = 3 then c3 else c4, fun k q hq => ?_⟩
  match k, hq with
  | 0, hq => cases hq; exact ⟨fun N z => ⟨(fun k h => by cases h), k0, a2, m0, a3⟩, a1⟩
  | 1, hq => cases hq; exact ⟨fun N z => ⟨(fun k h => by cases h), k1, b2, m1, b3⟩, b1⟩
  | 2, hq => cases hq; exact ⟨fun N z => ⟨(fun k h => by cases h), k2, d2, m2, d3⟩, k2, m2, d2, d3, d1, d4⟩
  | 3, hq => cases hq; exact ⟨fun N z => ⟨(fun k h => by cases h), k3, e2, m3, e3⟩, k3, m3, e2, e3, e1, e4⟩
  | 4, hq => cases hq; exact ⟨fun N z => ⟨(fun k h => by cases h), k4, f2, m4, f3⟩, k4, m4, f2, f3, f1, f4⟩
set_option maxHeartbeats 4000000 in
set_option maxRecDepth 100000 in
theorem whole_open (hpl : PureLaw) {p : Program} {e : Env} {s : State} {m : MethodId} {below : List Frame} {meth : Method} {c : Code} (l : Launch) {b L : Nat} {xs : Nat → Int32} (hL : L ≤ 3072) (C0 : lw_At p s m meth c b L xs) : W p l e room_1 s m #[Value.ref b] below meth c s.heap [] 0 0 (lw_Z below #[Value.ref b] s) (entryFrame m ([Value.ref b] : List Value).toArray 4) := by
  obtain ⟨hx, hb, hr, hml, hown, hts, hX, hbl, hlocks, hgv⟩ := id C0
  have hgd : ∀ w ∈ lw_gd, w.before #[Value.ref b] s = true := fun w hw => hts w (x_gdT hw)
  have hA : ∀ a : Nat, a < s.heap.size → ¬ (fun q => s.heap.size ≤ q) a := fun a ha => Nat.not_le.mpr ha
  have hfl := flat_of_before _ hgv
  obtain ⟨t0, u1, u2⟩ := va_Tof (args := #[Value.ref b]) (s := s) (tm := .static "ClassBits" "CHOICES" "[I") (ty := .int) (N := 256) (f := fun j => .int (CHf j)) (A := fun q => s.heap.size ≤ q) (by decide) (hfl _ (by decide +kernel)) (va_eqt (hfl _ (List.mem_of_getElem? (i := 6) (by decide +kernel)))) (fun j hj => va_eqt (hfl _ (tp_ch j hj))) hA
  obtain ⟨t1, v1, v2⟩ := va_Tof (args := #[Value.ref b]) (s := s) (tm := .static "ClassBits" "WIDTHS" "[I") (ty := .int) (N := 16) (f := fun j => .int (WDf j)) (A := fun q => s.heap.size ≤ q) (by decide) (hfl _ (by decide +kernel)) (va_eqt (hfl _ (List.mem_of_getElem? (i := 265) (by decide +kernel)))) (fun j hj => va_eqt (hfl _ (tp_wd j hj))) hA
  have hZ0 : va_Z RX11 "CHOICES" "[I" (.ref t0) (fun q => s.heap.size ≤ q) s s.heap := va_Zref (hts _ (List.mem_of_getElem? (i := 560) (by decide +kernel))) (hgd _ wd_44) u1 hA
  have hZ1 : va_Z RX11 "WIDTHS" "[I" (.ref t1) (fun q => s.heap.size ≤ q) s s.heap := va_Zref (hts _ (List.mem_of_getElem? (i := 562) (by decide +kernel))) (hgd _ wd_44) v1 hA
  have hT2 : va_T .int b L (fun j => .int (xs j)) (fun q => s.heap.size ≤ q) s s.heap := by
    obtain ⟨scr, w1, w2, w3, w4, w5⟩ := hX
    exact ⟨scr, w1, w2, w3, by omega, by rw [w4], w5, hA b hbl⟩
  obtain ⟨D, hD⟩ := tp_K hgd
  obtain ⟨tA, htA⟩ := tp_A hgd (tp_AO hts)
  obtain ⟨rd, r0, r1, r2⟩ : ∃ rd : Nat → Nat, rd 0 = t0 ∧ rd 1 = t1 ∧ rd 2 = b := ⟨fun k => if k = 0 then t0 else if k = 1 then t1 else b, rfl, rfl, rfl⟩
  have hG : xG D tA s.heap.size (ro0 L xs) rd s := by
    refine ⟨⟨hD, htA⟩, Nat.le_refl _, by rw [r0]; exact hZ0, by rw [r1]; exact hZ1, rfl, fun i hi => ?_, tp_NM hts, tp_NF hts, tp_ND hts, tp_NC hts, tp_Nc hgv, tp_AO hts⟩
    match i, hi with
    | 0, _ => exact ⟨256, CHf, rfl, by rw [r0]; exact u2⟩
    | 1, _ => exact ⟨16, WDf, rfl, by rw [r1]; exact v2⟩
    | 2, _ => exact ⟨L, xs, rfl, by rw [r2]; exact hT2⟩
  obtain ⟨h', hf, hlen, hsz⟩ := hpl L xs hL
  obtain ⟨mo, k⟩ := W_law (nm := meth.name) (p, l, e, s, m, #[Value.ref b], below, meth, c) (D, tA, s.heap.size, ro0 L xs, rd, rd, 3, xz (ro0 L xs)) 2 (ro0 L xs) (1, h') hf
  have kk := k ⟨hx, hb, hml, hown, hgd, hG, rfl⟩ room_1 (lw_Z below #[Value.ref b] s) (by decide) (by decide) (by show h'.length - 3 ≤ 600000; omega) (by show xz h' - _ ≤ 7302250; omega) (fun pc' ls' st' h2 hE => ?_)
  · have hl := lv_entry ([.ref b] : List Value) (n := 4) (Nat.le_of_ble_eq_true rfl)
    rw [lg_entry_eq]
    have := kk rd s.heap [] ((lg_sl ([.ref b] : List Value) ++ List.replicate (4 - (lg_sl ([.ref b] : List Value)).length) Slot.unset).toArray) ⟨fun k q hq => (by cases k <;> cases hq), ⟨fun i j p q hp => (by cases i <;> cases hp), fun k q hq => (by cases k <;> cases hq)⟩, va_S.rf, fun _ _ => rfl, fun _ _ => rfl, rfl, Nat.le_refl _, Nat.le_refl _, ?_, Nat.le_refl _⟩ ⟨fun q hq => ?_, fun v hv => (by cases hv)⟩ (by show lv_has _ 4 [(0, .ref (rd 2))]; rw [r2]; exact hl)
    · change W p l e _ s m _ below meth c s.heap [] (3 - 3) (xz (ro0 L xs) - xz (ro0 L xs)) _ _ at this
      rw [Nat.sub_self, Nat.sub_self] at this
      exact this
    · intro k x hk
      match k, hk with
      | 0, hk => cases hk; trivial
      | 1, hk => cases hk; trivial
      | 2, hk => cases hk; trivial
    · rw [List.mem_singleton.mp hq]
      exact xcv_r (Nat.le_of_ble_eq_true rfl)
  · obtain ⟨e1, e2, e3, -⟩ := hE
    rw [show h2 = h' from e3, show st' = [.int 1] from e2]
    intro ad H locs lsA hI hc hl
    obtain ⟨i1, i2, i3, -⟩ := hI
    refine va_forget (fun q hq => i3.2.2 q hq) ?_
    refine W.widen (k := 600000) (n := 7302250) (by show h'.length - 3 ≤ 600000; omega) (by show xz h' - _ ≤ 7302250; omega) ?_
    exact lw_ret hx hb hr hlocks e1
