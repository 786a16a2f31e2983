def xN : Nat := 2000
theorem x_inc {x k : Int32} {n : Int} (h : Int32.ofInt n = k) : x + Int32.ofInt n = x + k := by rw [h]
theorem x_nar {v : Int32} (h : v = 0 ∨ v = 1) : narrow .boolean (.int v) = .int v := by
  rcases h with h | h <;> subst h <;> rfl
theorem x_if {α : Type} {c : Prop} [Decidable c] {A B : Option α} {q : α} (h : (if c then A else B) = some q) : (c ∧ A = some q) ∨ B = some q := by
  by_cases hc : c
  · rw [if_pos hc] at h; exact Or.inl ⟨hc, h⟩
  · rw [if_neg hc] at h; exact Or.inr h
def x_noref : Value → Bool
  | .ref _ => false
  | _ => true
theorem xc_all {fs : List Value} (h : fs.all x_noref = true) : ∀ n, ∀ v ∈ fs, xcv n v := by
  intro n v hv a e
  have := List.all_eq_true.mp h v hv
  rw [e] at this
  cases this
theorem wdm_max : (Cond.code Lib.Math.max.name Lib.Math.max.code 2 (some .int)) ∈ lw_gd := x_w 477 (by decide +kernel) rfl
theorem wdm_min : (Cond.code Lib.Math.min.name Lib.Math.min.code 2 (some .int)) ∈ lw_gd := x_w 474 (by decide +kernel) rfl
theorem fd_X6_number : xFd [0, 2, 4, 7, 9] 0 "ClassBits$Run" "number" "I" true .int := List.forall_mem_cons.mpr ⟨⟨RX0, TX0, 2, tyX0, rfl, by decide, rfl, inG0, tyX0_ok, nmX0, by decide +kernel⟩, List.forall_mem_cons.mpr ⟨⟨RX2, TX2, 2, tyX2, rfl, by decide, rfl, inG2, tyX2_ok, nmX2, by decide +kernel⟩, List.forall_mem_cons.mpr ⟨⟨RX4, TX4, 2, tyX4, rfl, by decide, rfl, inG4, tyX4_ok, nmX4, by decide +kernel⟩, List.forall_mem_cons.mpr ⟨⟨RX8, TX8, 2, tyX8, rfl, by decide, rfl, inG8, tyX8_ok, nmX8, by decide +kernel⟩, List.forall_mem_cons.mpr ⟨⟨RX10, TX10, 2, tyX10, rfl, by decide, rfl, inG10, tyX10_ok, nmX10, by decide +kernel⟩, (fun _ h => absurd h List.not_mem_nil)⟩⟩⟩⟩⟩
theorem fd_X6_length : xFd [0, 2, 4, 7, 9] 1 "ClassBits$Run" "length" "I" true .int := List.forall_mem_cons.mpr ⟨⟨RX0, TX0, 2, tyX0, rfl, by decide, rfl, inG0, tyX0_ok, nmX0, by decide +kernel⟩, List.forall_mem_cons.mpr ⟨⟨RX2, TX2, 2, tyX2, rfl, by decide, rfl, inG2, tyX2_ok, nmX2, by decide +kernel⟩, List.forall_mem_cons.mpr ⟨⟨RX4, TX4, 2, tyX4, rfl, by decide, rfl, inG4, tyX4_ok, nmX4, by decide +kernel⟩, List.forall_mem_cons.mpr ⟨⟨RX8, TX8, 2, tyX8, rfl, by decide, rfl, inG8, tyX8_ok, nmX8, by decide +kernel⟩, List.forall_mem_cons.mpr ⟨⟨RX10, TX10, 2, tyX10, rfl, by decide, rfl, inG10, tyX10_ok, nmX10, by decide +kernel⟩, (fun _ h => absurd h List.not_mem_nil)⟩⟩⟩⟩⟩
theorem fd_X1_masks : xFd [1] 0 "ClassBits$BitVector" "masks" "[I" true (.array .int) := List.forall_mem_cons.mpr ⟨⟨RX1, TX1, 2, tyX1, rfl, by decide, rfl, inG1, tyX1_ok, nmX1, by decide +kernel⟩, (fun _ h => absurd h List.not_mem_nil)⟩
theorem fd_X1_length : xFd [1] 1 "ClassBits$BitVector" "length" "I" false .int := List.forall_mem_cons.mpr ⟨⟨RX1, TX1, 2, tyX1, rfl, by decide, rfl, inG1, tyX1_ok, nmX1, by decide +kernel⟩, (fun _ h => absurd h List.not_mem_nil)⟩
theorem fd_X3_before : xFd [3] 0 "ClassBits$History" "before" "[LClassBits$BitVector;" true (.array (.object "ClassBits$BitVector")) := List.forall_mem_cons.mpr ⟨⟨RX3, TX3, 4, tyX3, rfl, by decide, rfl, inG3, tyX3_ok, nmX3, by decide +kernel⟩, (fun _ h => absurd h List.not_mem_nil)⟩
theorem fd_X3_changed : xFd [3] 1 "ClassBits$History" "changed" "[I" true (.array .int) := List.forall_mem_cons.mpr ⟨⟨RX3, TX3, 4, tyX3, rfl, by decide, rfl, inG3, tyX3_ok, nmX3, by decide +kernel⟩, (fun _ h => absurd h List.not_mem_nil)⟩
theorem fd_X3_oldest : xFd [3] 2 "ClassBits$History" "oldest" "I" false .int := List.forall_mem_cons.mpr ⟨⟨RX3, TX3, 4, tyX3, rfl, by decide, rfl, inG3, tyX3_ok, nmX3, by decide +kernel⟩, (fun _ h => absurd h List.not_mem_nil)⟩
theorem fd_X3_held : xFd [3] 3 "ClassBits$History" "held" "I" false .int := List.forall_mem_cons.mpr ⟨⟨RX3, TX3, 4, tyX3, rfl, by decide, rfl, inG3, tyX3_ok, nmX3, by decide +kernel⟩, (fun _ h => absurd h List.not_mem_nil)⟩
theorem fd_X5_items : xFd [5] 0 "ClassBits$Row" "items" "[I" true (.array .int) := List.forall_mem_cons.mpr ⟨⟨RX5, TX5, 4, tyX5, rfl, by decide, rfl, inG5, tyX5_ok, nmX5, by decide +kernel⟩, (fun _ h => absurd h List.not_mem_nil)⟩
theorem fd_X5_missing : xFd [5] 1 "ClassBits$Row" "missing" "Z" false .boolean := List.forall_mem_cons.mpr ⟨⟨RX5, TX5, 4, tyX5, rfl, by decide, rfl, inG5, tyX5_ok, nmX5, by decide +kernel⟩, (fun _ h => absurd h List.not_mem_nil)⟩
theorem fd_X5_lane : xFd [5] 2 "ClassBits$Row" "lane" "I" false .int := List.forall_mem_cons.mpr ⟨⟨RX5, TX5, 4, tyX5, rfl, by decide, rfl, inG5, tyX5_ok, nmX5, by decide +kernel⟩, (fun _ h => absurd h List.not_mem_nil)⟩
theorem fd_X5_length : xFd [5] 3 "ClassBits$Row" "length" "I" false .int := List.forall_mem_cons.mpr ⟨⟨RX5, TX5, 4, tyX5, rfl, by decide, rfl, inG5, tyX5_ok, nmX5, by decide +kernel⟩, (fun _ h => absurd h List.not_mem_nil)⟩
theorem fd_X7_tape : xFd [6] 0 "ClassBits$TextReader" "tape" "[I" true (.array .int) := List.forall_mem_cons.mpr ⟨⟨RX7, TX7, 9, tyX7, rfl, by decide, rfl, inG7, tyX7_ok, nmX7, by decide +kernel⟩, (fun _ h => absurd h List.not_mem_nil)⟩
theorem fd_X7_kinds : xFd [6] 1 "ClassBits$TextReader" "kinds" "[I" true (.array .int) := List.forall_mem_cons.mpr ⟨⟨RX7, TX7, 9, tyX7, rfl, by decide, rfl, inG7, tyX7_ok, nmX7, by decide +kernel⟩, (fun _ h => absurd h List.not_mem_nil)⟩
theorem fd_X7_lengths : xFd [6] 2 "ClassBits$TextReader" "lengths" "[I" true (.array .int) := List.forall_mem_cons.mpr ⟨⟨RX7, TX7, 9, tyX7, rfl, by decide, rfl, inG7, tyX7_ok, nmX7, by decide +kernel⟩, (fun _ h => absurd h List.not_mem_nil)⟩
theorem fd_X7_tapeLength : xFd [6] 3 "ClassBits$TextReader" "tapeLength" "I" false .int := List.forall_mem_cons.mpr ⟨⟨RX7, TX7, 9, tyX7, rfl, by decide, rfl, inG7, tyX7_ok, nmX7, by decide +kernel⟩, (fun _ h => absurd h List.not_mem_nil)⟩
theorem fd_X7_place : xFd [6] 4 "ClassBits$TextReader" "place" "I" false .int := List.forall_mem_cons.mpr ⟨⟨RX7, TX7, 9, tyX7, rfl, by decide, rfl, inG7, tyX7_ok, nmX7, by decide +kernel⟩, (fun _ h => absurd h List.not_mem_nil)⟩
theorem fd_X7_runCount : xFd [6] 5 "ClassBits$TextReader" "runCount" "I" false .int := List.forall_mem_cons.mpr ⟨⟨RX7, TX7, 9, tyX7, rfl, by decide, rfl, inG7, tyX7_ok, nmX7, by decide +kernel⟩, (fun _ h => absurd h List.not_mem_nil)⟩
theorem fd_X7_bitSum : xFd [6] 6 "ClassBits$TextReader" "bitSum" "I" false .int := List.forall_mem_cons.mpr ⟨⟨RX7, TX7, 9, tyX7, rfl, by decide, rfl, inG7, tyX7_ok, nmX7, by decide +kernel⟩, (fun _ h => absurd h List.not_mem_nil)⟩
theorem fd_X7_currentKind : xFd [6] 7 "ClassBits$TextReader" "currentKind" "I" false .int := List.forall_mem_cons.mpr ⟨⟨RX7, TX7, 9, tyX7, rfl, by decide, rfl, inG7, tyX7_ok, nmX7, by decide +kernel⟩, (fun _ h => absurd h List.not_mem_nil)⟩
theorem fd_X7_currentLength : xFd [6] 8 "ClassBits$TextReader" "currentLength" "I" false .int := List.forall_mem_cons.mpr ⟨⟨RX7, TX7, 9, tyX7, rfl, by decide, rfl, inG7, tyX7_ok, nmX7, by decide +kernel⟩, (fun _ h => absurd h List.not_mem_nil)⟩
theorem fd_X9_numbers : xFd [8] 0 "ClassBits$Trace" "numbers" "[I" true (.array .int) := List.forall_mem_cons.mpr ⟨⟨RX9, TX9, 2, tyX9, rfl, by decide, rfl, inG9, tyX9_ok, nmX9, by decide +kernel⟩, (fun _ h => absurd h List.not_mem_nil)⟩
theorem fd_X9_held : xFd [8] 1 "ClassBits$Trace" "held" "I" false .int := List.forall_mem_cons.mpr ⟨⟨RX9, TX9, 2, tyX9, rfl, by decide, rfl, inG9, tyX9_ok, nmX9, by decide +kernel⟩, (fun _ h => absurd h List.not_mem_nil)⟩
theorem fd_X11_rows : xFd [10] 0 "ClassBits" "rows" "[LClassBits$Row;" true (.array (.object "ClassBits$Row")) := List.forall_mem_cons.mpr ⟨⟨RX11, TX11, 12, tyX11, rfl, by decide, rfl, inG11, tyX11_ok, nmX11, by decide +kernel⟩, (fun _ h => absurd h List.not_mem_nil)⟩
theorem fd_X11_vectors : xFd [10] 1 "ClassBits" "vectors" "[LClassBits$BitVector;" true (.array (.object "ClassBits$BitVector")) := List.forall_mem_cons.mpr ⟨⟨RX11, TX11, 12, tyX11, rfl, by decide, rfl, inG11, tyX11_ok, nmX11, by decide +kernel⟩, (fun _ h => absurd h List.not_mem_nil)⟩
theorem fd_X11_images : xFd [10] 2 "ClassBits" "images" "[LClassBits$BitVector;" true (.array (.object "ClassBits$BitVector")) := List.forall_mem_cons.mpr ⟨⟨RX11, TX11, 12, tyX11, rfl, by decide, rfl, inG11, tyX11_ok, nmX11, by decide +kernel⟩, (fun _ h => absurd h List.not_mem_nil)⟩
theorem fd_X11_imageKept : xFd [10] 3 "ClassBits" "imageKept" "[Z" true (.array .boolean) := List.forall_mem_cons.mpr ⟨⟨RX11, TX11, 12, tyX11, rfl, by decide, rfl, inG11, tyX11_ok, nmX11, by decide +kernel⟩, (fun _ h => absurd h List.not_mem_nil)⟩
theorem fd_X11_scratch : xFd [10] 4 "ClassBits" "scratch" "LClassBits$BitVector;" true (.object "ClassBits$BitVector") := List.forall_mem_cons.mpr ⟨⟨RX11, TX11, 12, tyX11, rfl, by decide, rfl, inG11, tyX11_ok, nmX11, by decide +kernel⟩, (fun _ h => absurd h List.not_mem_nil)⟩
theorem fd_X11_history : xFd [10] 5 "ClassBits" "history" "LClassBits$History;" true (.object "ClassBits$History") := List.forall_mem_cons.mpr ⟨⟨RX11, TX11, 12, tyX11, rfl, by decide, rfl, inG11, tyX11_ok, nmX11, by decide +kernel⟩, (fun _ h => absurd h List.not_mem_nil)⟩
theorem fd_X11_reader : xFd [10] 6 "ClassBits" "reader" "LClassBits$TextReader;" true (.object "ClassBits$TextReader") := List.forall_mem_cons.mpr ⟨⟨RX11, TX11, 12, tyX11, rfl, by decide, rfl, inG11, tyX11_ok, nmX11, by decide +kernel⟩, (fun _ h => absurd h List.not_mem_nil)⟩
theorem fd_X11_runs : xFd [10] 7 "ClassBits" "runs" "[LClassBits$Run;" true (.array (.object "ClassBits$Run")) := List.forall_mem_cons.mpr ⟨⟨RX11, TX11, 12, tyX11, rfl, by decide, rfl, inG11, tyX11_ok, nmX11, by decide +kernel⟩, (fun _ h => absurd h List.not_mem_nil)⟩
theorem fd_X11_asked : xFd [10] 8 "ClassBits" "asked" "LClassBits$Trace;" true (.object "ClassBits$Trace") := List.forall_mem_cons.mpr ⟨⟨RX11, TX11, 12, tyX11, rfl, by decide, rfl, inG11, tyX11_ok, nmX11, by decide +kernel⟩, (fun _ h => absurd h List.not_mem_nil)⟩
theorem fd_X11_runCount : xFd [10] 9 "ClassBits" "runCount" "I" false .int := List.forall_mem_cons.mpr ⟨⟨RX11, TX11, 12, tyX11, rfl, by decide, rfl, inG11, tyX11_ok, nmX11, by decide +kernel⟩, (fun _ h => absurd h List.not_mem_nil)⟩
theorem fd_X11_latestFault : xFd [10] 10 "ClassBits" "latestFault" "I" false .int := List.forall_mem_cons.mpr ⟨⟨RX11, TX11, 12, tyX11, rfl, by decide, rfl, inG11, tyX11_ok, nmX11, by decide +kernel⟩, (fun _ h => absurd h List.not_mem_nil)⟩
theorem fd_X11_latestFinding : xFd [10] 11 "ClassBits" "latestFinding" "I" false .int := List.forall_mem_cons.mpr ⟨⟨RX11, TX11, 12, tyX11, rfl, by decide, rfl, inG11, tyX11_ok, nmX11, by decide +kernel⟩, (fun _ h => absurd h List.not_mem_nil)⟩
theorem fd_X12_lane : xFd [11] 0 "ClassBitsModel" "lane" "[I" true (.array .int) := List.forall_mem_cons.mpr ⟨⟨RX12, TX12, 28, tyX12, rfl, by decide, rfl, inG12, tyX12_ok, nmX12, by decide +kernel⟩, (fun _ h => absurd h List.not_mem_nil)⟩
theorem fd_X12_many : xFd [11] 1 "ClassBitsModel" "many" "[I" true (.array .int) := List.forall_mem_cons.mpr ⟨⟨RX12, TX12, 28, tyX12, rfl, by decide, rfl, inG12, tyX12_ok, nmX12, by decide +kernel⟩, (fun _ h => absurd h List.not_mem_nil)⟩
theorem fd_X12_items : xFd [11] 2 "ClassBitsModel" "items" "[I" true (.array .int) := List.forall_mem_cons.mpr ⟨⟨RX12, TX12, 28, tyX12, rfl, by decide, rfl, inG12, tyX12_ok, nmX12, by decide +kernel⟩, (fun _ h => absurd h List.not_mem_nil)⟩
theorem fd_X12_spare : xFd [11] 3 "ClassBitsModel" "spare" "[I" true (.array .int) := List.forall_mem_cons.mpr ⟨⟨RX12, TX12, 28, tyX12, rfl, by decide, rfl, inG12, tyX12_ok, nmX12, by decide +kernel⟩, (fun _ h => absurd h List.not_mem_nil)⟩
theorem fd_X12_status : xFd [11] 4 "ClassBitsModel" "status" "I" false .int := List.forall_mem_cons.mpr ⟨⟨RX12, TX12, 28, tyX12, rfl, by decide, rfl, inG12, tyX12_ok, nmX12, by decide +kernel⟩, (fun _ h => absurd h List.not_mem_nil)⟩
theorem fd_X12_tape : xFd [11] 5 "ClassBitsModel" "tape" "[I" true (.array .int) := List.forall_mem_cons.mpr ⟨⟨RX12, TX12, 28, tyX12, rfl, by decide, rfl, inG12, tyX12_ok, nmX12, by decide +kernel⟩, (fun _ h => absurd h List.not_mem_nil)⟩
theorem fd_X12_taped : xFd [11] 6 "ClassBitsModel" "taped" "I" false .int := List.forall_mem_cons.mpr ⟨⟨RX12, TX12, 28, tyX12, rfl, by decide, rfl, inG12, tyX12_ok, nmX12, by decide +kernel⟩, (fun _ h => absurd h List.not_mem_nil)⟩
theorem fd_X12_faultKind : xFd [11] 7 "ClassBitsModel" "faultKind" "I" false .int := List.forall_mem_cons.mpr ⟨⟨RX12, TX12, 28, tyX12, rfl, by decide, rfl, inG12, tyX12_ok, nmX12, by decide +kernel⟩, (fun _ h => absurd h List.not_mem_nil)⟩
theorem fd_X12_faultPlace : xFd [11] 8 "ClassBitsModel" "faultPlace" "I" false .int := List.forall_mem_cons.mpr ⟨⟨RX12, TX12, 28, tyX12, rfl, by decide, rfl, inG12, tyX12_ok, nmX12, by decide +kernel⟩, (fun _ h => absurd h List.not_mem_nil)⟩
theorem fd_X12_at : xFd [11] 9 "ClassBitsModel" "at" "I" false .int := List.forall_mem_cons.mpr ⟨⟨RX12, TX12, 28, tyX12, rfl, by decide, rfl, inG12, tyX12_ok, nmX12, by decide +kernel⟩, (fun _ h => absurd h List.not_mem_nil)⟩
theorem fd_X12_start : xFd [11] 10 "ClassBitsModel" "start" "I" false .int := List.forall_mem_cons.mpr ⟨⟨RX12, TX12, 28, tyX12, rfl, by decide, rfl, inG12, tyX12_ok, nmX12, by decide +kernel⟩, (fun _ h => absurd h List.not_mem_nil)⟩
theorem fd_X12_token : xFd [11] 11 "ClassBitsModel" "token" "I" false .int := List.forall_mem_cons.mpr ⟨⟨RX12, TX12, 28, tyX12, rfl, by decide, rfl, inG12, tyX12_ok, nmX12, by decide +kernel⟩, (fun _ h => absurd h List.not_mem_nil)⟩
theorem fd_X12_value : xFd [11] 12 "ClassBitsModel" "value" "I" false .int := List.forall_mem_cons.mpr ⟨⟨RX12, TX12, 28, tyX12, rfl, by decide, rfl, inG12, tyX12_ok, nmX12, by decide +kernel⟩, (fun _ h => absurd h List.not_mem_nil)⟩
theorem fd_X12_now : xFd [11] 13 "ClassBitsModel" "now" "[I" true (.array .int) := List.forall_mem_cons.mpr ⟨⟨RX12, TX12, 28, tyX12, rfl, by decide, rfl, inG12, tyX12_ok, nmX12, by decide +kernel⟩, (fun _ h => absurd h List.not_mem_nil)⟩
theorem fd_X12_tried : xFd [11] 14 "ClassBitsModel" "tried" "[I" true (.array .int) := List.forall_mem_cons.mpr ⟨⟨RX12, TX12, 28, tyX12, rfl, by decide, rfl, inG12, tyX12_ok, nmX12, by decide +kernel⟩, (fun _ h => absurd h List.not_mem_nil)⟩
theorem fd_X12_past : xFd [11] 15 "ClassBitsModel" "past" "[I" true (.array .int) := List.forall_mem_cons.mpr ⟨⟨RX12, TX12, 28, tyX12, rfl, by decide, rfl, inG12, tyX12_ok, nmX12, by decide +kernel⟩, (fun _ h => absurd h List.not_mem_nil)⟩
theorem fd_X12_acts : xFd [11] 16 "ClassBitsModel" "acts" "I" false .int := List.forall_mem_cons.mpr ⟨⟨RX12, TX12, 28, tyX12, rfl, by decide, rfl, inG12, tyX12_ok, nmX12, by decide +kernel⟩, (fun _ h => absurd h List.not_mem_nil)⟩
theorem fd_X12_images : xFd [11] 17 "ClassBitsModel" "images" "[I" true (.array .int) := List.forall_mem_cons.mpr ⟨⟨RX12, TX12, 28, tyX12, rfl, by decide, rfl, inG12, tyX12_ok, nmX12, by decide +kernel⟩, (fun _ h => absurd h List.not_mem_nil)⟩
theorem fd_X12_kept : xFd [11] 18 "ClassBitsModel" "kept" "[Z" true (.array .boolean) := List.forall_mem_cons.mpr ⟨⟨RX12, TX12, 28, tyX12, rfl, by decide, rfl, inG12, tyX12_ok, nmX12, by decide +kernel⟩, (fun _ h => absurd h List.not_mem_nil)⟩
theorem fd_X12_runs : xFd [11] 19 "ClassBitsModel" "runs" "I" false .int := List.forall_mem_cons.mpr ⟨⟨RX12, TX12, 28, tyX12, rfl, by decide, rfl, inG12, tyX12_ok, nmX12, by decide +kernel⟩, (fun _ h => absurd h List.not_mem_nil)⟩
theorem fd_X12_kinds : xFd [11] 20 "ClassBitsModel" "kinds" "[I" true (.array .int) := List.forall_mem_cons.mpr ⟨⟨RX12, TX12, 28, tyX12, rfl, by decide, rfl, inG12, tyX12_ok, nmX12, by decide +kernel⟩, (fun _ h => absurd h List.not_mem_nil)⟩
theorem fd_X12_length : xFd [11] 21 "ClassBitsModel" "length" "[I" true (.array .int) := List.forall_mem_cons.mpr ⟨⟨RX12, TX12, 28, tyX12, rfl, by decide, rfl, inG12, tyX12_ok, nmX12, by decide +kernel⟩, (fun _ h => absurd h List.not_mem_nil)⟩
theorem fd_X12_some : xFd [11] 22 "ClassBitsModel" "some" "I" false .int := List.forall_mem_cons.mpr ⟨⟨RX12, TX12, 28, tyX12, rfl, by decide, rfl, inG12, tyX12_ok, nmX12, by decide +kernel⟩, (fun _ h => absurd h List.not_mem_nil)⟩
theorem fd_X12_someKinds : xFd [11] 23 "ClassBitsModel" "someKinds" "[I" true (.array .int) := List.forall_mem_cons.mpr ⟨⟨RX12, TX12, 28, tyX12, rfl, by decide, rfl, inG12, tyX12_ok, nmX12, by decide +kernel⟩, (fun _ h => absurd h List.not_mem_nil)⟩
theorem fd_X12_someLength : xFd [11] 24 "ClassBitsModel" "someLength" "[I" true (.array .int) := List.forall_mem_cons.mpr ⟨⟨RX12, TX12, 28, tyX12, rfl, by decide, rfl, inG12, tyX12_ok, nmX12, by decide +kernel⟩, (fun _ h => absurd h List.not_mem_nil)⟩
theorem fd_X12_chosen : xFd [11] 25 "ClassBitsModel" "chosen" "[I" true (.array .int) := List.forall_mem_cons.mpr ⟨⟨RX12, TX12, 28, tyX12, rfl, by decide, rfl, inG12, tyX12_ok, nmX12, by decide +kernel⟩, (fun _ h => absurd h List.not_mem_nil)⟩
theorem fd_X12_trace : xFd [11] 26 "ClassBitsModel" "trace" "[I" true (.array .int) := List.forall_mem_cons.mpr ⟨⟨RX12, TX12, 28, tyX12, rfl, by decide, rfl, inG12, tyX12_ok, nmX12, by decide +kernel⟩, (fun _ h => absurd h List.not_mem_nil)⟩
theorem fd_X12_traced : xFd [11] 27 "ClassBitsModel" "traced" "I" false .int := List.forall_mem_cons.mpr ⟨⟨RX12, TX12, 28, tyX12, rfl, by decide, rfl, inG12, tyX12_ok, nmX12, by decide +kernel⟩, (fun _ h => absurd h List.not_mem_nil)⟩
theorem nf_0 : ∀ j, j < 2 → defaultValue (tyX0 j) = vp_V [.int 0, .int 0] j := by decide +kernel
theorem nc_0 : ∀ n, ∀ v ∈ ([.int 0, .int 0] : List Value), xcv n v := xc_all (by decide)
theorem nf_1 : ∀ j, j < 2 → defaultValue (tyX1 j) = vp_V [.null, .int 0] j := by decide +kernel
theorem nc_1 : ∀ n, ∀ v ∈ ([.null, .int 0] : List Value), xcv n v := xc_all (by decide)
theorem nf_2 : ∀ j, j < 2 → defaultValue (tyX2 j) = vp_V [.int 0, .int 0] j := by decide +kernel
theorem nc_2 : ∀ n, ∀ v ∈ ([.int 0, .int 0] : List Value), xcv n v := xc_all (by decide)
theorem nf_3 : ∀ j, j < 4 → defaultValue (tyX3 j) = vp_V [.null, .null, .int 0, .int 0] j := by decide +kernel
theorem nc_3 : ∀ n, ∀ v ∈ ([.null, .null, .int 0, .int 0] : List Value), xcv n v := xc_all (by decide)
theorem nf_4 : ∀ j, j < 2 → defaultValue (tyX4 j) = vp_V [.int 0, .int 0] j := by decide +kernel
theorem nc_4 : ∀ n, ∀ v ∈ ([.int 0, .int 0] : List Value), xcv n v := xc_all (by decide)
theorem nf_5 : ∀ j, j < 4 → defaultValue (tyX5 j) = vp_V [.null, .int 0, .int 0, .int 0] j := by decide +kernel
theorem nc_5 : ∀ n, ∀ v ∈ ([.null, .int 0, .int 0, .int 0] : List Value), xcv n v := xc_all (by decide)
theorem nf_6 : ∀ j, j < 9 → defaultValue (tyX7 j) = vp_V [.null, .null, .null, .int 0, .int 0, .int 0, .int 0, .int 0, .int 0] j := by decide +kernel
theorem nc_6 : ∀ n, ∀ v ∈ ([.null, .null, .null, .int 0, .int 0, .int 0, .int 0, .int 0, .int 0] : List Value), xcv n v := xc_all (by decide)
theorem nf_7 : ∀ j, j < 2 → defaultValue (tyX8 j) = vp_V [.int 0, .int 0] j := by decide +kernel
theorem nc_7 : ∀ n, ∀ v ∈ ([.int 0, .int 0] : List Value), xcv n v := xc_all (by decide)
theorem nf_8 : ∀ j, j < 2 → defaultValue (tyX9 j) = vp_V [.null, .int 0] j := by decide +kernel
theorem nc_8 : ∀ n, ∀ v ∈ ([.null, .int 0] : List Value), xcv n v := xc_all (by decide)
theorem nf_9 : ∀ j, j < 2 → defaultValue (tyX10 j) = vp_V [.int 0, .int 0] j := by decide +kernel
theorem nc_9 : ∀ n, ∀ v ∈ ([.int 0, .int 0] : List Value), xcv n v := xc_all (by decide)
theorem nf_10 : ∀ j, j < 12 → defaultValue (tyX11 j) = vp_V [.null, .null, .null, .null, .null, .null, .null, .null, .null, .int 0, .int 0, .int 0] j := by decide +kernel
theorem nc_10 : ∀ n, ∀ v ∈ ([.null, .null, .null, .null, .null, .null, .null, .null, .null, .int 0, .int 0, .int 0] : List Value), xcv n v := xc_all (by decide)
theorem nf_11 : ∀ j, j < 28 → defaultValue (tyX12 j) = vp_V [.null, .null, .null, .null, .int 0, .null, .int 0, .int 0, .int 0, .int 0, .int 0, .int 0, .int 0, .null, .null, .null, .int 0, .null, .null, .int 0, .null, .null, .int 0, .null, .null, .null, .null, .int 0] j := by decide +kernel
theorem nc_11 : ∀ n, ∀ v ∈ ([.null, .null, .null, .null, .int 0, .null, .int 0, .int 0, .int 0, .int 0, .int 0, .int 0, .int 0, .null, .null, .null, .int 0, .null, .null, .int 0, .null, .null, .int 0, .null, .null, .null, .null, .int 0] : List Value), xcv n v := xc_all (by decide)
theorem hd_X1_init : yX1_init.cls ≠ "java/lang/invoke/MethodHandle" ∧ yX1_init.cls ≠ "java/lang/invoke/VarHandle" ∧ (parseMethodDescriptor yX1_init.desc).map (fun d => d.parameters.length) = some 0 := by decide +kernel
theorem hd_X3_init : yX3_init.cls ≠ "java/lang/invoke/MethodHandle" ∧ yX3_init.cls ≠ "java/lang/invoke/VarHandle" ∧ (parseMethodDescriptor yX3_init.desc).map (fun d => d.parameters.length) = some 0 := by decide +kernel
theorem hd_X5_init : yX5_init.cls ≠ "java/lang/invoke/MethodHandle" ∧ yX5_init.cls ≠ "java/lang/invoke/VarHandle" ∧ (parseMethodDescriptor yX5_init.desc).map (fun d => d.parameters.length) = some 0 := by decide +kernel
theorem hd_X7_init : yX7_init.cls ≠ "java/lang/invoke/MethodHandle" ∧ yX7_init.cls ≠ "java/lang/invoke/VarHandle" ∧ (parseMethodDescriptor yX7_init.desc).map (fun d => d.parameters.length) = some 0 := by decide +kernel
theorem hd_X9_init : yX9_init.cls ≠ "java/lang/invoke/MethodHandle" ∧ yX9_init.cls ≠ "java/lang/invoke/VarHandle" ∧ (parseMethodDescriptor yX9_init.desc).map (fun d => d.parameters.length) = some 0 := by decide +kernel
theorem hd_X11_init : yX11_init.cls ≠ "java/lang/invoke/MethodHandle" ∧ yX11_init.cls ≠ "java/lang/invoke/VarHandle" ∧ (parseMethodDescriptor yX11_init.desc).map (fun d => d.parameters.length) = some 0 := by decide +kernel
theorem hd_X11_isValue : yX11_isValue.cls ≠ "java/lang/invoke/MethodHandle" ∧ yX11_isValue.cls ≠ "java/lang/invoke/VarHandle" ∧ (parseMethodDescriptor yX11_isValue.desc).map (fun d => d.parameters.length) = some 1 := by decide +kernel
theorem hd_X11_isVector : yX11_isVector.cls ≠ "java/lang/invoke/MethodHandle" ∧ yX11_isVector.cls ≠ "java/lang/invoke/VarHandle" ∧ (parseMethodDescriptor yX11_isVector.desc).map (fun d => d.parameters.length) = some 1 := by decide +kernel
theorem hd_X1_copyFrom : yX1_copyFrom.cls ≠ "java/lang/invoke/MethodHandle" ∧ yX1_copyFrom.cls ≠ "java/lang/invoke/VarHandle" ∧ (parseMethodDescriptor yX1_copyFrom.desc).map (fun d => d.parameters.length) = some 1 := by decide +kernel
theorem hd_X3_keep : yX3_keep.cls ≠ "java/lang/invoke/MethodHandle" ∧ yX3_keep.cls ≠ "java/lang/invoke/VarHandle" ∧ (parseMethodDescriptor yX3_keep.desc).map (fun d => d.parameters.length) = some 2 := by decide +kernel
theorem hd_X11_vectorToChange : yX11_vectorToChange.cls ≠ "java/lang/invoke/MethodHandle" ∧ yX11_vectorToChange.cls ≠ "java/lang/invoke/VarHandle" ∧ (parseMethodDescriptor yX11_vectorToChange.desc).map (fun d => d.parameters.length) = some 1 := by decide +kernel
theorem hd_X1_write : yX1_write.cls ≠ "java/lang/invoke/MethodHandle" ∧ yX1_write.cls ≠ "java/lang/invoke/VarHandle" ∧ (parseMethodDescriptor yX1_write.desc).map (fun d => d.parameters.length) = some 2 := by decide +kernel
theorem hd_X1_append : yX1_append.cls ≠ "java/lang/invoke/MethodHandle" ∧ yX1_append.cls ≠ "java/lang/invoke/VarHandle" ∧ (parseMethodDescriptor yX1_append.desc).map (fun d => d.parameters.length) = some 1 := by decide +kernel
theorem hd_X11_add : yX11_add.cls ≠ "java/lang/invoke/MethodHandle" ∧ yX11_add.cls ≠ "java/lang/invoke/VarHandle" ∧ (parseMethodDescriptor yX11_add.desc).map (fun d => d.parameters.length) = some 3 := by decide +kernel
theorem hd_X11_commonDivisor : yX11_commonDivisor.cls ≠ "java/lang/invoke/MethodHandle" ∧ yX11_commonDivisor.cls ≠ "java/lang/invoke/VarHandle" ∧ (parseMethodDescriptor yX11_commonDivisor.desc).map (fun d => d.parameters.length) = some 2 := by decide +kernel
theorem hd_X1_joinedMask : yX1_joinedMask.cls ≠ "java/lang/invoke/MethodHandle" ∧ yX1_joinedMask.cls ≠ "java/lang/invoke/VarHandle" ∧ (parseMethodDescriptor yX1_joinedMask.desc).map (fun d => d.parameters.length) = some 3 := by decide +kernel
theorem hd_X1_becomeJoined : yX1_becomeJoined.cls ≠ "java/lang/invoke/MethodHandle" ∧ yX1_becomeJoined.cls ≠ "java/lang/invoke/VarHandle" ∧ (parseMethodDescriptor yX1_becomeJoined.desc).map (fun d => d.parameters.length) = some 3 := by decide +kernel
theorem hd_X11_firstPlaces : yX11_firstPlaces.cls ≠ "java/lang/invoke/MethodHandle" ∧ yX11_firstPlaces.cls ≠ "java/lang/invoke/VarHandle" ∧ (parseMethodDescriptor yX11_firstPlaces.desc).map (fun d => d.parameters.length) = some 1 := by decide +kernel
theorem hd_J6_bitCount_0f7a4 : yJ6_bitCount_0f7a4.cls ≠ "java/lang/invoke/MethodHandle" ∧ yJ6_bitCount_0f7a4.cls ≠ "java/lang/invoke/VarHandle" ∧ (parseMethodDescriptor yJ6_bitCount_0f7a4.desc).map (fun d => d.parameters.length) = some 1 := by decide +kernel
theorem hd_X1_onesAhead : yX1_onesAhead.cls ≠ "java/lang/invoke/MethodHandle" ∧ yX1_onesAhead.cls ≠ "java/lang/invoke/VarHandle" ∧ (parseMethodDescriptor yX1_onesAhead.desc).map (fun d => d.parameters.length) = some 1 := by decide +kernel
theorem hd_X1_countOnes : yX1_countOnes.cls ≠ "java/lang/invoke/MethodHandle" ∧ yX1_countOnes.cls ≠ "java/lang/invoke/VarHandle" ∧ (parseMethodDescriptor yX1_countOnes.desc).map (fun d => d.parameters.length) = some 0 := by decide +kernel
theorem hd_X11_alike : yX11_alike.cls ≠ "java/lang/invoke/MethodHandle" ∧ yX11_alike.cls ≠ "java/lang/invoke/VarHandle" ∧ (parseMethodDescriptor yX11_alike.desc).map (fun d => d.parameters.length) = some 3 := by decide +kernel
theorem hd_X11_fine : yX11_fine.cls ≠ "java/lang/invoke/MethodHandle" ∧ yX11_fine.cls ≠ "java/lang/invoke/VarHandle" ∧ (parseMethodDescriptor yX11_fine.desc).map (fun d => d.parameters.length) = some 1 := by decide +kernel
theorem hd_X11_found : yX11_found.cls ≠ "java/lang/invoke/MethodHandle" ∧ yX11_found.cls ≠ "java/lang/invoke/VarHandle" ∧ (parseMethodDescriptor yX11_found.desc).map (fun d => d.parameters.length) = some 1 := by decide +kernel
theorem hd_X11_isOfKind : yX11_isOfKind.cls ≠ "java/lang/invoke/MethodHandle" ∧ yX11_isOfKind.cls ≠ "java/lang/invoke/VarHandle" ∧ (parseMethodDescriptor yX11_isOfKind.desc).map (fun d => d.parameters.length) = some 2 := by decide +kernel
theorem hd_X11_isRun : yX11_isRun.cls ≠ "java/lang/invoke/MethodHandle" ∧ yX11_isRun.cls ≠ "java/lang/invoke/VarHandle" ∧ (parseMethodDescriptor yX11_isRun.desc).map (fun d => d.parameters.length) = some 1 := by decide +kernel
theorem hd_X11_as : yX11_as.cls ≠ "java/lang/invoke/MethodHandle" ∧ yX11_as.cls ≠ "java/lang/invoke/VarHandle" ∧ (parseMethodDescriptor yX11_as.desc).map (fun d => d.parameters.length) = some 2 := by decide +kernel
theorem hd_X9_note : yX9_note.cls ≠ "java/lang/invoke/MethodHandle" ∧ yX9_note.cls ≠ "java/lang/invoke/VarHandle" ∧ (parseMethodDescriptor yX9_note.desc).map (fun d => d.parameters.length) = some 1 := by decide +kernel
theorem hd_X6_tellSize : yX6_tellSize.cls ≠ "java/lang/invoke/MethodHandle" ∧ yX6_tellSize.cls ≠ "java/lang/invoke/VarHandle" ∧ (parseMethodDescriptor yX6_tellSize.desc).map (fun d => d.parameters.length) = some 1 := by decide +kernel
theorem hd_X0_tellSize : yX0_tellSize.cls ≠ "java/lang/invoke/MethodHandle" ∧ yX0_tellSize.cls ≠ "java/lang/invoke/VarHandle" ∧ (parseMethodDescriptor yX0_tellSize.desc).map (fun d => d.parameters.length) = some 1 := by decide +kernel
theorem hd_X2_tellSize : yX2_tellSize.cls ≠ "java/lang/invoke/MethodHandle" ∧ yX2_tellSize.cls ≠ "java/lang/invoke/VarHandle" ∧ (parseMethodDescriptor yX2_tellSize.desc).map (fun d => d.parameters.length) = some 1 := by decide +kernel
theorem hd_X6_tellMark : yX6_tellMark.cls ≠ "java/lang/invoke/MethodHandle" ∧ yX6_tellMark.cls ≠ "java/lang/invoke/VarHandle" ∧ (parseMethodDescriptor yX6_tellMark.desc).map (fun d => d.parameters.length) = some 1 := by decide +kernel
theorem hd_X0_tellMark : yX0_tellMark.cls ≠ "java/lang/invoke/MethodHandle" ∧ yX0_tellMark.cls ≠ "java/lang/invoke/VarHandle" ∧ (parseMethodDescriptor yX0_tellMark.desc).map (fun d => d.parameters.length) = some 1 := by decide +kernel
theorem hd_X0_bitOf : yX0_bitOf.cls ≠ "java/lang/invoke/MethodHandle" ∧ yX0_bitOf.cls ≠ "java/lang/invoke/VarHandle" ∧ (parseMethodDescriptor yX0_bitOf.desc).map (fun d => d.parameters.length) = some 1 := by decide +kernel
theorem hd_X2_bitOf : yX2_bitOf.cls ≠ "java/lang/invoke/MethodHandle" ∧ yX2_bitOf.cls ≠ "java/lang/invoke/VarHandle" ∧ (parseMethodDescriptor yX2_bitOf.desc).map (fun d => d.parameters.length) = some 1 := by decide +kernel
theorem hd_X4_bitOf : yX4_bitOf.cls ≠ "java/lang/invoke/MethodHandle" ∧ yX4_bitOf.cls ≠ "java/lang/invoke/VarHandle" ∧ (parseMethodDescriptor yX4_bitOf.desc).map (fun d => d.parameters.length) = some 1 := by decide +kernel
theorem hd_X8_bitOf : yX8_bitOf.cls ≠ "java/lang/invoke/MethodHandle" ∧ yX8_bitOf.cls ≠ "java/lang/invoke/VarHandle" ∧ (parseMethodDescriptor yX8_bitOf.desc).map (fun d => d.parameters.length) = some 1 := by decide +kernel
theorem hd_X10_bitOf : yX10_bitOf.cls ≠ "java/lang/invoke/MethodHandle" ∧ yX10_bitOf.cls ≠ "java/lang/invoke/VarHandle" ∧ (parseMethodDescriptor yX10_bitOf.desc).map (fun d => d.parameters.length) = some 1 := by decide +kernel
theorem hd_X6_onesWithin : yX6_onesWithin.cls ≠ "java/lang/invoke/MethodHandle" ∧ yX6_onesWithin.cls ≠ "java/lang/invoke/VarHandle" ∧ (parseMethodDescriptor yX6_onesWithin.desc).map (fun d => d.parameters.length) = some 0 := by decide +kernel
theorem hd_X10_tellMark : yX10_tellMark.cls ≠ "java/lang/invoke/MethodHandle" ∧ yX10_tellMark.cls ≠ "java/lang/invoke/VarHandle" ∧ (parseMethodDescriptor yX10_tellMark.desc).map (fun d => d.parameters.length) = some 1 := by decide +kernel
theorem hd_X4_tellMark : yX4_tellMark.cls ≠ "java/lang/invoke/MethodHandle" ∧ yX4_tellMark.cls ≠ "java/lang/invoke/VarHandle" ∧ (parseMethodDescriptor yX4_tellMark.desc).map (fun d => d.parameters.length) = some 1 := by decide +kernel
theorem hd_X8_tellMark : yX8_tellMark.cls ≠ "java/lang/invoke/MethodHandle" ∧ yX8_tellMark.cls ≠ "java/lang/invoke/VarHandle" ∧ (parseMethodDescriptor yX8_tellMark.desc).map (fun d => d.parameters.length) = some 1 := by decide +kernel
theorem hd_X10_tellSize : yX10_tellSize.cls ≠ "java/lang/invoke/MethodHandle" ∧ yX10_tellSize.cls ≠ "java/lang/invoke/VarHandle" ∧ (parseMethodDescriptor yX10_tellSize.desc).map (fun d => d.parameters.length) = some 1 := by decide +kernel
theorem hd_X4_tellSize : yX4_tellSize.cls ≠ "java/lang/invoke/MethodHandle" ∧ yX4_tellSize.cls ≠ "java/lang/invoke/VarHandle" ∧ (parseMethodDescriptor yX4_tellSize.desc).map (fun d => d.parameters.length) = some 1 := by decide +kernel
theorem hd_X11_ask : yX11_ask.cls ≠ "java/lang/invoke/MethodHandle" ∧ yX11_ask.cls ≠ "java/lang/invoke/VarHandle" ∧ (parseMethodDescriptor yX11_ask.desc).map (fun d => d.parameters.length) = some 2 := by decide +kernel
theorem hd_X11_bits : yX11_bits.cls ≠ "java/lang/invoke/MethodHandle" ∧ yX11_bits.cls ≠ "java/lang/invoke/VarHandle" ∧ (parseMethodDescriptor yX11_bits.desc).map (fun d => d.parameters.length) = some 1 := by decide +kernel
theorem hd_X11_bitsOfAll : yX11_bitsOfAll.cls ≠ "java/lang/invoke/MethodHandle" ∧ yX11_bitsOfAll.cls ≠ "java/lang/invoke/VarHandle" ∧ (parseMethodDescriptor yX11_bitsOfAll.desc).map (fun d => d.parameters.length) = some 0 := by decide +kernel
theorem hd_X11_choices : yX11_choices.cls ≠ "java/lang/invoke/MethodHandle" ∧ yX11_choices.cls ≠ "java/lang/invoke/VarHandle" ∧ (parseMethodDescriptor yX11_choices.desc).map (fun d => d.parameters.length) = some 2 := by decide +kernel
theorem hd_X11_offsetOf : yX11_offsetOf.cls ≠ "java/lang/invoke/MethodHandle" ∧ yX11_offsetOf.cls ≠ "java/lang/invoke/VarHandle" ∧ (parseMethodDescriptor yX11_offsetOf.desc).map (fun d => d.parameters.length) = some 1 := by decide +kernel
theorem hd_X1_classOf : yX1_classOf.cls ≠ "java/lang/invoke/MethodHandle" ∧ yX1_classOf.cls ≠ "java/lang/invoke/VarHandle" ∧ (parseMethodDescriptor yX1_classOf.desc).map (fun d => d.parameters.length) = some 1 := by decide +kernel
theorem hd_X1_beginOf : yX1_beginOf.cls ≠ "java/lang/invoke/MethodHandle" ∧ yX1_beginOf.cls ≠ "java/lang/invoke/VarHandle" ∧ (parseMethodDescriptor yX1_beginOf.desc).map (fun d => d.parameters.length) = some 1 := by decide +kernel
theorem hd_X1_blockCount : yX1_blockCount.cls ≠ "java/lang/invoke/MethodHandle" ∧ yX1_blockCount.cls ≠ "java/lang/invoke/VarHandle" ∧ (parseMethodDescriptor yX1_blockCount.desc).map (fun d => d.parameters.length) = some 0 := by decide +kernel
theorem hd_X11_block : yX11_block.cls ≠ "java/lang/invoke/MethodHandle" ∧ yX11_block.cls ≠ "java/lang/invoke/VarHandle" ∧ (parseMethodDescriptor yX11_block.desc).map (fun d => d.parameters.length) = some 3 := by decide +kernel
theorem hd_X11_choose : yX11_choose.cls ≠ "java/lang/invoke/MethodHandle" ∧ yX11_choose.cls ≠ "java/lang/invoke/VarHandle" ∧ (parseMethodDescriptor yX11_choose.desc).map (fun d => d.parameters.length) = some 2 := by decide +kernel
theorem hd_X11_isRow : yX11_isRow.cls ≠ "java/lang/invoke/MethodHandle" ∧ yX11_isRow.cls ≠ "java/lang/invoke/VarHandle" ∧ (parseMethodDescriptor yX11_isRow.desc).map (fun d => d.parameters.length) = some 1 := by decide +kernel
theorem hd_X5_hasPart : yX5_hasPart.cls ≠ "java/lang/invoke/MethodHandle" ∧ yX5_hasPart.cls ≠ "java/lang/invoke/VarHandle" ∧ (parseMethodDescriptor yX5_hasPart.desc).map (fun d => d.parameters.length) = some 2 := by decide +kernel
theorem hd_X11_copy : yX11_copy.cls ≠ "java/lang/invoke/MethodHandle" ∧ yX11_copy.cls ≠ "java/lang/invoke/VarHandle" ∧ (parseMethodDescriptor yX11_copy.desc).map (fun d => d.parameters.length) = some 5 := by decide +kernel
theorem hd_X11_onesOfAll : yX11_onesOfAll.cls ≠ "java/lang/invoke/MethodHandle" ∧ yX11_onesOfAll.cls ≠ "java/lang/invoke/VarHandle" ∧ (parseMethodDescriptor yX11_onesOfAll.desc).map (fun d => d.parameters.length) = some 0 := by decide +kernel
theorem hd_X11_rowsThatAreThere : yX11_rowsThatAreThere.cls ≠ "java/lang/invoke/MethodHandle" ∧ yX11_rowsThatAreThere.cls ≠ "java/lang/invoke/VarHandle" ∧ (parseMethodDescriptor yX11_rowsThatAreThere.desc).map (fun d => d.parameters.length) = some 0 := by decide +kernel
theorem hd_X11_count : yX11_count.cls ≠ "java/lang/invoke/MethodHandle" ∧ yX11_count.cls ≠ "java/lang/invoke/VarHandle" ∧ (parseMethodDescriptor yX11_count.desc).map (fun d => d.parameters.length) = some 1 := by decide +kernel
theorem hd_X1_shorten : yX1_shorten.cls ≠ "java/lang/invoke/MethodHandle" ∧ yX1_shorten.cls ≠ "java/lang/invoke/VarHandle" ∧ (parseMethodDescriptor yX1_shorten.desc).map (fun d => d.parameters.length) = some 1 := by decide +kernel
theorem hd_X11_cut : yX11_cut.cls ≠ "java/lang/invoke/MethodHandle" ∧ yX11_cut.cls ≠ "java/lang/invoke/VarHandle" ∧ (parseMethodDescriptor yX11_cut.desc).map (fun d => d.parameters.length) = some 2 := by decide +kernel
theorem hd_X1_bitAt : yX1_bitAt.cls ≠ "java/lang/invoke/MethodHandle" ∧ yX1_bitAt.cls ≠ "java/lang/invoke/VarHandle" ∧ (parseMethodDescriptor yX1_bitAt.desc).map (fun d => d.parameters.length) = some 1 := by decide +kernel
theorem hd_X1_payloadBits : yX1_payloadBits.cls ≠ "java/lang/invoke/MethodHandle" ∧ yX1_payloadBits.cls ≠ "java/lang/invoke/VarHandle" ∧ (parseMethodDescriptor yX1_payloadBits.desc).map (fun d => d.parameters.length) = some 0 := by decide +kernel
theorem hd_X11_drawn : yX11_drawn.cls ≠ "java/lang/invoke/MethodHandle" ∧ yX11_drawn.cls ≠ "java/lang/invoke/VarHandle" ∧ (parseMethodDescriptor yX11_drawn.desc).map (fun d => d.parameters.length) = some 4 := by decide +kernel
theorem hd_X11_drop : yX11_drop.cls ≠ "java/lang/invoke/MethodHandle" ∧ yX11_drop.cls ≠ "java/lang/invoke/VarHandle" ∧ (parseMethodDescriptor yX11_drop.desc).map (fun d => d.parameters.length) = some 1 := by decide +kernel
theorem hd_X1_entryCount : yX1_entryCount.cls ≠ "java/lang/invoke/MethodHandle" ∧ yX1_entryCount.cls ≠ "java/lang/invoke/VarHandle" ∧ (parseMethodDescriptor yX1_entryCount.desc).map (fun d => d.parameters.length) = some 0 := by decide +kernel
theorem hd_X11_entry : yX11_entry.cls ≠ "java/lang/invoke/MethodHandle" ∧ yX11_entry.cls ≠ "java/lang/invoke/VarHandle" ∧ (parseMethodDescriptor yX11_entry.desc).map (fun d => d.parameters.length) = some 3 := by decide +kernel
theorem hd_X11_fault : yX11_fault.cls ≠ "java/lang/invoke/MethodHandle" ∧ yX11_fault.cls ≠ "java/lang/invoke/VarHandle" ∧ (parseMethodDescriptor yX11_fault.desc).map (fun d => d.parameters.length) = some 0 := by decide +kernel
theorem hd_X7_hasRoom : yX7_hasRoom.cls ≠ "java/lang/invoke/MethodHandle" ∧ yX7_hasRoom.cls ≠ "java/lang/invoke/VarHandle" ∧ (parseMethodDescriptor yX7_hasRoom.desc).map (fun d => d.parameters.length) = some 0 := by decide +kernel
theorem hd_X7_append : yX7_append.cls ≠ "java/lang/invoke/MethodHandle" ∧ yX7_append.cls ≠ "java/lang/invoke/VarHandle" ∧ (parseMethodDescriptor yX7_append.desc).map (fun d => d.parameters.length) = some 1 := by decide +kernel
theorem hd_X11_feed : yX11_feed.cls ≠ "java/lang/invoke/MethodHandle" ∧ yX11_feed.cls ≠ "java/lang/invoke/VarHandle" ∧ (parseMethodDescriptor yX11_feed.desc).map (fun d => d.parameters.length) = some 1 := by decide +kernel
theorem hd_X11_get : yX11_get.cls ≠ "java/lang/invoke/MethodHandle" ∧ yX11_get.cls ≠ "java/lang/invoke/VarHandle" ∧ (parseMethodDescriptor yX11_get.desc).map (fun d => d.parameters.length) = some 2 := by decide +kernel
theorem hd_X11_image : yX11_image.cls ≠ "java/lang/invoke/MethodHandle" ∧ yX11_image.cls ≠ "java/lang/invoke/VarHandle" ∧ (parseMethodDescriptor yX11_image.desc).map (fun d => d.parameters.length) = some 1 := by decide +kernel
theorem hd_X11_isInt : yX11_isInt.cls ≠ "java/lang/invoke/MethodHandle" ∧ yX11_isInt.cls ≠ "java/lang/invoke/VarHandle" ∧ (parseMethodDescriptor yX11_isInt.desc).map (fun d => d.parameters.length) = some 1 := by decide +kernel
theorem hd_X11_isPlaceOrEnd : yX11_isPlaceOrEnd.cls ≠ "java/lang/invoke/MethodHandle" ∧ yX11_isPlaceOrEnd.cls ≠ "java/lang/invoke/VarHandle" ∧ (parseMethodDescriptor yX11_isPlaceOrEnd.desc).map (fun d => d.parameters.length) = some 2 := by decide +kernel
theorem hd_X11_join : yX11_join.cls ≠ "java/lang/invoke/MethodHandle" ∧ yX11_join.cls ≠ "java/lang/invoke/VarHandle" ∧ (parseMethodDescriptor yX11_join.desc).map (fun d => d.parameters.length) = some 4 := by decide +kernel
theorem hd_X0_kindNumber : yX0_kindNumber.cls ≠ "java/lang/invoke/MethodHandle" ∧ yX0_kindNumber.cls ≠ "java/lang/invoke/VarHandle" ∧ (parseMethodDescriptor yX0_kindNumber.desc).map (fun d => d.parameters.length) = some 0 := by decide +kernel
theorem hd_X2_kindNumber : yX2_kindNumber.cls ≠ "java/lang/invoke/MethodHandle" ∧ yX2_kindNumber.cls ≠ "java/lang/invoke/VarHandle" ∧ (parseMethodDescriptor yX2_kindNumber.desc).map (fun d => d.parameters.length) = some 0 := by decide +kernel
theorem hd_X4_kindNumber : yX4_kindNumber.cls ≠ "java/lang/invoke/MethodHandle" ∧ yX4_kindNumber.cls ≠ "java/lang/invoke/VarHandle" ∧ (parseMethodDescriptor yX4_kindNumber.desc).map (fun d => d.parameters.length) = some 0 := by decide +kernel
theorem hd_X8_kindNumber : yX8_kindNumber.cls ≠ "java/lang/invoke/MethodHandle" ∧ yX8_kindNumber.cls ≠ "java/lang/invoke/VarHandle" ∧ (parseMethodDescriptor yX8_kindNumber.desc).map (fun d => d.parameters.length) = some 0 := by decide +kernel
theorem hd_X10_kindNumber : yX10_kindNumber.cls ≠ "java/lang/invoke/MethodHandle" ∧ yX10_kindNumber.cls ≠ "java/lang/invoke/VarHandle" ∧ (parseMethodDescriptor yX10_kindNumber.desc).map (fun d => d.parameters.length) = some 0 := by decide +kernel
theorem hd_X11_kind : yX11_kind.cls ≠ "java/lang/invoke/MethodHandle" ∧ yX11_kind.cls ≠ "java/lang/invoke/VarHandle" ∧ (parseMethodDescriptor yX11_kind.desc).map (fun d => d.parameters.length) = some 1 := by decide +kernel
theorem hd_X11_last : yX11_last.cls ≠ "java/lang/invoke/MethodHandle" ∧ yX11_last.cls ≠ "java/lang/invoke/VarHandle" ∧ (parseMethodDescriptor yX11_last.desc).map (fun d => d.parameters.length) = some 3 := by decide +kernel
theorem hd_X6_init : yX6_init.cls ≠ "java/lang/invoke/MethodHandle" ∧ yX6_init.cls ≠ "java/lang/invoke/VarHandle" ∧ (parseMethodDescriptor yX6_init.desc).map (fun d => d.parameters.length) = some 2 := by decide +kernel
theorem hd_X0_init : yX0_init.cls ≠ "java/lang/invoke/MethodHandle" ∧ yX0_init.cls ≠ "java/lang/invoke/VarHandle" ∧ (parseMethodDescriptor yX0_init.desc).map (fun d => d.parameters.length) = some 2 := by decide +kernel
theorem hd_X2_init : yX2_init.cls ≠ "java/lang/invoke/MethodHandle" ∧ yX2_init.cls ≠ "java/lang/invoke/VarHandle" ∧ (parseMethodDescriptor yX2_init.desc).map (fun d => d.parameters.length) = some 2 := by decide +kernel
theorem hd_X10_init : yX10_init.cls ≠ "java/lang/invoke/MethodHandle" ∧ yX10_init.cls ≠ "java/lang/invoke/VarHandle" ∧ (parseMethodDescriptor yX10_init.desc).map (fun d => d.parameters.length) = some 2 := by decide +kernel
theorem hd_X4_init : yX4_init.cls ≠ "java/lang/invoke/MethodHandle" ∧ yX4_init.cls ≠ "java/lang/invoke/VarHandle" ∧ (parseMethodDescriptor yX4_init.desc).map (fun d => d.parameters.length) = some 2 := by decide +kernel
theorem hd_X8_init : yX8_init.cls ≠ "java/lang/invoke/MethodHandle" ∧ yX8_init.cls ≠ "java/lang/invoke/VarHandle" ∧ (parseMethodDescriptor yX8_init.desc).map (fun d => d.parameters.length) = some 2 := by decide +kernel
theorem hd_X11_newRun : yX11_newRun.cls ≠ "java/lang/invoke/MethodHandle" ∧ yX11_newRun.cls ≠ "java/lang/invoke/VarHandle" ∧ (parseMethodDescriptor yX11_newRun.desc).map (fun d => d.parameters.length) = some 3 := by decide +kernel
theorem hd_X11_takeOverRuns : yX11_takeOverRuns.cls ≠ "java/lang/invoke/MethodHandle" ∧ yX11_takeOverRuns.cls ≠ "java/lang/invoke/VarHandle" ∧ (parseMethodDescriptor yX11_takeOverRuns.desc).map (fun d => d.parameters.length) = some 0 := by decide +kernel
theorem hd_X1_appendRun : yX1_appendRun.cls ≠ "java/lang/invoke/MethodHandle" ∧ yX1_appendRun.cls ≠ "java/lang/invoke/VarHandle" ∧ (parseMethodDescriptor yX1_appendRun.desc).map (fun d => d.parameters.length) = some 1 := by decide +kernel
theorem hd_J7_fill_53178 : yJ7_fill_53178.cls ≠ "java/lang/invoke/MethodHandle" ∧ yJ7_fill_53178.cls ≠ "java/lang/invoke/VarHandle" ∧ (parseMethodDescriptor yJ7_fill_53178.desc).map (fun d => d.parameters.length) = some 2 := by decide +kernel
theorem hd_X1_clearTo : yX1_clearTo.cls ≠ "java/lang/invoke/MethodHandle" ∧ yX1_clearTo.cls ≠ "java/lang/invoke/VarHandle" ∧ (parseMethodDescriptor yX1_clearTo.desc).map (fun d => d.parameters.length) = some 1 := by decide +kernel
theorem hd_X7_emptyTape : yX7_emptyTape.cls ≠ "java/lang/invoke/MethodHandle" ∧ yX7_emptyTape.cls ≠ "java/lang/invoke/VarHandle" ∧ (parseMethodDescriptor yX7_emptyTape.desc).map (fun d => d.parameters.length) = some 0 := by decide +kernel
theorem hd_X7_byteAt : yX7_byteAt.cls ≠ "java/lang/invoke/MethodHandle" ∧ yX7_byteAt.cls ≠ "java/lang/invoke/VarHandle" ∧ (parseMethodDescriptor yX7_byteAt.desc).map (fun d => d.parameters.length) = some 1 := by decide +kernel
theorem hd_X7_isFigure : yX7_isFigure.cls ≠ "java/lang/invoke/MethodHandle" ∧ yX7_isFigure.cls ≠ "java/lang/invoke/VarHandle" ∧ (parseMethodDescriptor yX7_isFigure.desc).map (fun d => d.parameters.length) = some 1 := by decide +kernel
theorem hd_X7_readNumber : yX7_readNumber.cls ≠ "java/lang/invoke/MethodHandle" ∧ yX7_readNumber.cls ≠ "java/lang/invoke/VarHandle" ∧ (parseMethodDescriptor yX7_readNumber.desc).map (fun d => d.parameters.length) = some 0 := by decide +kernel
theorem hd_X7_readSemicolon : yX7_readSemicolon.cls ≠ "java/lang/invoke/MethodHandle" ∧ yX7_readSemicolon.cls ≠ "java/lang/invoke/VarHandle" ∧ (parseMethodDescriptor yX7_readSemicolon.desc).map (fun d => d.parameters.length) = some 0 := by decide +kernel
theorem hd_X7_kindOfLetter : yX7_kindOfLetter.cls ≠ "java/lang/invoke/MethodHandle" ∧ yX7_kindOfLetter.cls ≠ "java/lang/invoke/VarHandle" ∧ (parseMethodDescriptor yX7_kindOfLetter.desc).map (fun d => d.parameters.length) = some 1 := by decide +kernel
theorem hd_X7_readSort : yX7_readSort.cls ≠ "java/lang/invoke/MethodHandle" ∧ yX7_readSort.cls ≠ "java/lang/invoke/VarHandle" ∧ (parseMethodDescriptor yX7_readSort.desc).map (fun d => d.parameters.length) = some 0 := by decide +kernel
theorem hd_X7_readRun : yX7_readRun.cls ≠ "java/lang/invoke/MethodHandle" ∧ yX7_readRun.cls ≠ "java/lang/invoke/VarHandle" ∧ (parseMethodDescriptor yX7_readRun.desc).map (fun d => d.parameters.length) = some 0 := by decide +kernel
theorem hd_X7_readTape : yX7_readTape.cls ≠ "java/lang/invoke/MethodHandle" ∧ yX7_readTape.cls ≠ "java/lang/invoke/VarHandle" ∧ (parseMethodDescriptor yX7_readTape.desc).map (fun d => d.parameters.length) = some 0 := by decide +kernel
theorem hd_X11_load : yX11_load.cls ≠ "java/lang/invoke/MethodHandle" ∧ yX11_load.cls ≠ "java/lang/invoke/VarHandle" ∧ (parseMethodDescriptor yX11_load.desc).map (fun d => d.parameters.length) = some 1 := by decide +kernel
theorem hd_X11_longest : yX11_longest.cls ≠ "java/lang/invoke/MethodHandle" ∧ yX11_longest.cls ≠ "java/lang/invoke/VarHandle" ∧ (parseMethodDescriptor yX11_longest.desc).map (fun d => d.parameters.length) = some 3 := by decide +kernel
theorem hd_X11_maskOf : yX11_maskOf.cls ≠ "java/lang/invoke/MethodHandle" ∧ yX11_maskOf.cls ≠ "java/lang/invoke/VarHandle" ∧ (parseMethodDescriptor yX11_maskOf.desc).map (fun d => d.parameters.length) = some 2 := by decide +kernel
theorem hd_X11_mask : yX11_mask.cls ≠ "java/lang/invoke/MethodHandle" ∧ yX11_mask.cls ≠ "java/lang/invoke/VarHandle" ∧ (parseMethodDescriptor yX11_mask.desc).map (fun d => d.parameters.length) = some 2 := by decide +kernel
theorem hd_X11_next : yX11_next.cls ≠ "java/lang/invoke/MethodHandle" ∧ yX11_next.cls ≠ "java/lang/invoke/VarHandle" ∧ (parseMethodDescriptor yX11_next.desc).map (fun d => d.parameters.length) = some 3 := by decide +kernel
theorem hd_X11_offset : yX11_offset.cls ≠ "java/lang/invoke/MethodHandle" ∧ yX11_offset.cls ≠ "java/lang/invoke/VarHandle" ∧ (parseMethodDescriptor yX11_offset.desc).map (fun d => d.parameters.length) = some 1 := by decide +kernel
theorem hd_X11_ones : yX11_ones.cls ≠ "java/lang/invoke/MethodHandle" ∧ yX11_ones.cls ≠ "java/lang/invoke/VarHandle" ∧ (parseMethodDescriptor yX11_ones.desc).map (fun d => d.parameters.length) = some 1 := by decide +kernel
theorem hd_X1_payloadWord : yX1_payloadWord.cls ≠ "java/lang/invoke/MethodHandle" ∧ yX1_payloadWord.cls ≠ "java/lang/invoke/VarHandle" ∧ (parseMethodDescriptor yX1_payloadWord.desc).map (fun d => d.parameters.length) = some 1 := by decide +kernel
theorem hd_X11_payload : yX11_payload.cls ≠ "java/lang/invoke/MethodHandle" ∧ yX11_payload.cls ≠ "java/lang/invoke/VarHandle" ∧ (parseMethodDescriptor yX11_payload.desc).map (fun d => d.parameters.length) = some 2 := by decide +kernel
theorem hd_X11_put : yX11_put.cls ≠ "java/lang/invoke/MethodHandle" ∧ yX11_put.cls ≠ "java/lang/invoke/VarHandle" ∧ (parseMethodDescriptor yX11_put.desc).map (fun d => d.parameters.length) = some 3 := by decide +kernel
theorem hd_X11_rank : yX11_rank.cls ≠ "java/lang/invoke/MethodHandle" ∧ yX11_rank.cls ≠ "java/lang/invoke/VarHandle" ∧ (parseMethodDescriptor yX11_rank.desc).map (fun d => d.parameters.length) = some 3 := by decide +kernel
theorem hd_X3_forgetAll : yX3_forgetAll.cls ≠ "java/lang/invoke/MethodHandle" ∧ yX3_forgetAll.cls ≠ "java/lang/invoke/VarHandle" ∧ (parseMethodDescriptor yX3_forgetAll.desc).map (fun d => d.parameters.length) = some 0 := by decide +kernel
theorem hd_X11_restore : yX11_restore.cls ≠ "java/lang/invoke/MethodHandle" ∧ yX11_restore.cls ≠ "java/lang/invoke/VarHandle" ∧ (parseMethodDescriptor yX11_restore.desc).map (fun d => d.parameters.length) = some 1 := by decide +kernel
theorem hd_X5_begin : yX5_begin.cls ≠ "java/lang/invoke/MethodHandle" ∧ yX5_begin.cls ≠ "java/lang/invoke/VarHandle" ∧ (parseMethodDescriptor yX5_begin.desc).map (fun d => d.parameters.length) = some 2 := by decide +kernel
theorem hd_X11_row : yX11_row.cls ≠ "java/lang/invoke/MethodHandle" ∧ yX11_row.cls ≠ "java/lang/invoke/VarHandle" ∧ (parseMethodDescriptor yX11_row.desc).map (fun d => d.parameters.length) = some 3 := by decide +kernel
theorem hd_X11_select : yX11_select.cls ≠ "java/lang/invoke/MethodHandle" ∧ yX11_select.cls ≠ "java/lang/invoke/VarHandle" ∧ (parseMethodDescriptor yX11_select.desc).map (fun d => d.parameters.length) = some 3 := by decide +kernel
theorem hd_X5_store : yX5_store.cls ≠ "java/lang/invoke/MethodHandle" ∧ yX5_store.cls ≠ "java/lang/invoke/VarHandle" ∧ (parseMethodDescriptor yX5_store.desc).map (fun d => d.parameters.length) = some 2 := by decide +kernel
theorem hd_X11_set : yX11_set.cls ≠ "java/lang/invoke/MethodHandle" ∧ yX11_set.cls ≠ "java/lang/invoke/VarHandle" ∧ (parseMethodDescriptor yX11_set.desc).map (fun d => d.parameters.length) = some 3 := by decide +kernel
theorem hd_X11_size : yX11_size.cls ≠ "java/lang/invoke/MethodHandle" ∧ yX11_size.cls ≠ "java/lang/invoke/VarHandle" ∧ (parseMethodDescriptor yX11_size.desc).map (fun d => d.parameters.length) = some 2 := by decide +kernel
theorem hd_X11_status : yX11_status.cls ≠ "java/lang/invoke/MethodHandle" ∧ yX11_status.cls ≠ "java/lang/invoke/VarHandle" ∧ (parseMethodDescriptor yX11_status.desc).map (fun d => d.parameters.length) = some 0 := by decide +kernel
theorem hd_X11_stretches : yX11_stretches.cls ≠ "java/lang/invoke/MethodHandle" ∧ yX11_stretches.cls ≠ "java/lang/invoke/VarHandle" ∧ (parseMethodDescriptor yX11_stretches.desc).map (fun d => d.parameters.length) = some 1 := by decide +kernel
theorem hd_X5_tellsPlaces : yX5_tellsPlaces.cls ≠ "java/lang/invoke/MethodHandle" ∧ yX5_tellsPlaces.cls ≠ "java/lang/invoke/VarHandle" ∧ (parseMethodDescriptor yX5_tellsPlaces.desc).map (fun d => d.parameters.length) = some 2 := by decide +kernel
theorem hd_X11_take : yX11_take.cls ≠ "java/lang/invoke/MethodHandle" ∧ yX11_take.cls ≠ "java/lang/invoke/VarHandle" ∧ (parseMethodDescriptor yX11_take.desc).map (fun d => d.parameters.length) = some 4 := by decide +kernel
theorem hd_X11_tell : yX11_tell.cls ≠ "java/lang/invoke/MethodHandle" ∧ yX11_tell.cls ≠ "java/lang/invoke/VarHandle" ∧ (parseMethodDescriptor yX11_tell.desc).map (fun d => d.parameters.length) = some 4 := by decide +kernel
theorem hd_X11_trace : yX11_trace.cls ≠ "java/lang/invoke/MethodHandle" ∧ yX11_trace.cls ≠ "java/lang/invoke/VarHandle" ∧ (parseMethodDescriptor yX11_trace.desc).map (fun d => d.parameters.length) = some 1 := by decide +kernel
theorem hd_X1_invert : yX1_invert.cls ≠ "java/lang/invoke/MethodHandle" ∧ yX1_invert.cls ≠ "java/lang/invoke/VarHandle" ∧ (parseMethodDescriptor yX1_invert.desc).map (fun d => d.parameters.length) = some 0 := by decide +kernel
theorem hd_X11_turn : yX11_turn.cls ≠ "java/lang/invoke/MethodHandle" ∧ yX11_turn.cls ≠ "java/lang/invoke/VarHandle" ∧ (parseMethodDescriptor yX11_turn.desc).map (fun d => d.parameters.length) = some 1 := by decide +kernel
theorem hd_X3_giveBack : yX3_giveBack.cls ≠ "java/lang/invoke/MethodHandle" ∧ yX3_giveBack.cls ≠ "java/lang/invoke/VarHandle" ∧ (parseMethodDescriptor yX3_giveBack.desc).map (fun d => d.parameters.length) = some 1 := by decide +kernel
theorem hd_X11_undo : yX11_undo.cls ≠ "java/lang/invoke/MethodHandle" ∧ yX11_undo.cls ≠ "java/lang/invoke/VarHandle" ∧ (parseMethodDescriptor yX11_undo.desc).map (fun d => d.parameters.length) = some 0 := by decide +kernel
theorem hd_X11_weight : yX11_weight.cls ≠ "java/lang/invoke/MethodHandle" ∧ yX11_weight.cls ≠ "java/lang/invoke/VarHandle" ∧ (parseMethodDescriptor yX11_weight.desc).map (fun d => d.parameters.length) = some 2 := by decide +kernel
theorem hd_X12_init : yX12_init.cls ≠ "java/lang/invoke/MethodHandle" ∧ yX12_init.cls ≠ "java/lang/invoke/VarHandle" ∧ (parseMethodDescriptor yX12_init.desc).map (fun d => d.parameters.length) = some 0 := by decide +kernel
theorem hd_X12_puts : yX12_puts.cls ≠ "java/lang/invoke/MethodHandle" ∧ yX12_puts.cls ≠ "java/lang/invoke/VarHandle" ∧ (parseMethodDescriptor yX12_puts.desc).map (fun d => d.parameters.length) = some 4 := by decide +kernel
theorem hd_X12_appends : yX12_appends.cls ≠ "java/lang/invoke/MethodHandle" ∧ yX12_appends.cls ≠ "java/lang/invoke/VarHandle" ∧ (parseMethodDescriptor yX12_appends.desc).map (fun d => d.parameters.length) = some 2 := by decide +kernel
theorem hd_X12_bitsOf : yX12_bitsOf.cls ≠ "java/lang/invoke/MethodHandle" ∧ yX12_bitsOf.cls ≠ "java/lang/invoke/VarHandle" ∧ (parseMethodDescriptor yX12_bitsOf.desc).map (fun d => d.parameters.length) = some 1 := by decide +kernel
theorem hd_X12_in : yX12_in.cls ≠ "java/lang/invoke/MethodHandle" ∧ yX12_in.cls ≠ "java/lang/invoke/VarHandle" ∧ (parseMethodDescriptor yX12_in.desc).map (fun d => d.parameters.length) = some 3 := by decide +kernel
theorem hd_X12_isValue : yX12_isValue.cls ≠ "java/lang/invoke/MethodHandle" ∧ yX12_isValue.cls ≠ "java/lang/invoke/VarHandle" ∧ (parseMethodDescriptor yX12_isValue.desc).map (fun d => d.parameters.length) = some 1 := by decide +kernel
theorem hd_X12_isVector : yX12_isVector.cls ≠ "java/lang/invoke/MethodHandle" ∧ yX12_isVector.cls ≠ "java/lang/invoke/VarHandle" ∧ (parseMethodDescriptor yX12_isVector.desc).map (fun d => d.parameters.length) = some 1 := by decide +kernel
theorem hd_X12_copies : yX12_copies.cls ≠ "java/lang/invoke/MethodHandle" ∧ yX12_copies.cls ≠ "java/lang/invoke/VarHandle" ∧ (parseMethodDescriptor yX12_copies.desc).map (fun d => d.parameters.length) = some 4 := by decide +kernel
theorem hd_X12_notes : yX12_notes.cls ≠ "java/lang/invoke/MethodHandle" ∧ yX12_notes.cls ≠ "java/lang/invoke/VarHandle" ∧ (parseMethodDescriptor yX12_notes.desc).map (fun d => d.parameters.length) = some 0 := by decide +kernel
theorem hd_X12_add : yX12_add.cls ≠ "java/lang/invoke/MethodHandle" ∧ yX12_add.cls ≠ "java/lang/invoke/VarHandle" ∧ (parseMethodDescriptor yX12_add.desc).map (fun d => d.parameters.length) = some 3 := by decide +kernel
theorem hd_X12_byteAt : yX12_byteAt.cls ≠ "java/lang/invoke/MethodHandle" ∧ yX12_byteAt.cls ≠ "java/lang/invoke/VarHandle" ∧ (parseMethodDescriptor yX12_byteAt.desc).map (fun d => d.parameters.length) = some 1 := by decide +kernel
theorem hd_X12_advances : yX12_advances.cls ≠ "java/lang/invoke/MethodHandle" ∧ yX12_advances.cls ≠ "java/lang/invoke/VarHandle" ∧ (parseMethodDescriptor yX12_advances.desc).map (fun d => d.parameters.length) = some 0 := by decide +kernel
theorem hd_X12_sortOf : yX12_sortOf.cls ≠ "java/lang/invoke/MethodHandle" ∧ yX12_sortOf.cls ≠ "java/lang/invoke/VarHandle" ∧ (parseMethodDescriptor yX12_sortOf.desc).map (fun d => d.parameters.length) = some 1 := by decide +kernel
theorem hd_X12_alike : yX12_alike.cls ≠ "java/lang/invoke/MethodHandle" ∧ yX12_alike.cls ≠ "java/lang/invoke/VarHandle" ∧ (parseMethodDescriptor yX12_alike.desc).map (fun d => d.parameters.length) = some 3 := by decide +kernel
theorem hd_X12_bit : yX12_bit.cls ≠ "java/lang/invoke/MethodHandle" ∧ yX12_bit.cls ≠ "java/lang/invoke/VarHandle" ∧ (parseMethodDescriptor yX12_bit.desc).map (fun d => d.parameters.length) = some 3 := by decide +kernel
theorem hd_X12_onesAhead : yX12_onesAhead.cls ≠ "java/lang/invoke/MethodHandle" ∧ yX12_onesAhead.cls ≠ "java/lang/invoke/VarHandle" ∧ (parseMethodDescriptor yX12_onesAhead.desc).map (fun d => d.parameters.length) = some 3 := by decide +kernel
theorem hd_X12_allOnes : yX12_allOnes.cls ≠ "java/lang/invoke/MethodHandle" ∧ yX12_allOnes.cls ≠ "java/lang/invoke/VarHandle" ∧ (parseMethodDescriptor yX12_allOnes.desc).map (fun d => d.parameters.length) = some 1 := by decide +kernel
theorem hd_X12_kindIn : yX12_kindIn.cls ≠ "java/lang/invoke/MethodHandle" ∧ yX12_kindIn.cls ≠ "java/lang/invoke/VarHandle" ∧ (parseMethodDescriptor yX12_kindIn.desc).map (fun d => d.parameters.length) = some 1 := by decide +kernel
theorem hd_X12_traces : yX12_traces.cls ≠ "java/lang/invoke/MethodHandle" ∧ yX12_traces.cls ≠ "java/lang/invoke/VarHandle" ∧ (parseMethodDescriptor yX12_traces.desc).map (fun d => d.parameters.length) = some 1 := by decide +kernel
theorem hd_X12_alternateSize : yX12_alternateSize.cls ≠ "java/lang/invoke/MethodHandle" ∧ yX12_alternateSize.cls ≠ "java/lang/invoke/VarHandle" ∧ (parseMethodDescriptor yX12_alternateSize.desc).map (fun d => d.parameters.length) = some 1 := by decide +kernel
theorem hd_X12_alternateMark : yX12_alternateMark.cls ≠ "java/lang/invoke/MethodHandle" ∧ yX12_alternateMark.cls ≠ "java/lang/invoke/VarHandle" ∧ (parseMethodDescriptor yX12_alternateMark.desc).map (fun d => d.parameters.length) = some 1 := by decide +kernel
theorem hd_X12_found : yX12_found.cls ≠ "java/lang/invoke/MethodHandle" ∧ yX12_found.cls ≠ "java/lang/invoke/VarHandle" ∧ (parseMethodDescriptor yX12_found.desc).map (fun d => d.parameters.length) = some 1 := by decide +kernel
theorem hd_X12_isRun : yX12_isRun.cls ≠ "java/lang/invoke/MethodHandle" ∧ yX12_isRun.cls ≠ "java/lang/invoke/VarHandle" ∧ (parseMethodDescriptor yX12_isRun.desc).map (fun d => d.parameters.length) = some 1 := by decide +kernel
theorem hd_X12_well : yX12_well.cls ≠ "java/lang/invoke/MethodHandle" ∧ yX12_well.cls ≠ "java/lang/invoke/VarHandle" ∧ (parseMethodDescriptor yX12_well.desc).map (fun d => d.parameters.length) = some 1 := by decide +kernel
theorem hd_X12_as : yX12_as.cls ≠ "java/lang/invoke/MethodHandle" ∧ yX12_as.cls ≠ "java/lang/invoke/VarHandle" ∧ (parseMethodDescriptor yX12_as.desc).map (fun d => d.parameters.length) = some 2 := by decide +kernel
theorem hd_X12_bitOf : yX12_bitOf.cls ≠ "java/lang/invoke/MethodHandle" ∧ yX12_bitOf.cls ≠ "java/lang/invoke/VarHandle" ∧ (parseMethodDescriptor yX12_bitOf.desc).map (fun d => d.parameters.length) = some 2 := by decide +kernel
theorem hd_X12_onesOf : yX12_onesOf.cls ≠ "java/lang/invoke/MethodHandle" ∧ yX12_onesOf.cls ≠ "java/lang/invoke/VarHandle" ∧ (parseMethodDescriptor yX12_onesOf.desc).map (fun d => d.parameters.length) = some 1 := by decide +kernel
theorem hd_X12_zerosMark : yX12_zerosMark.cls ≠ "java/lang/invoke/MethodHandle" ∧ yX12_zerosMark.cls ≠ "java/lang/invoke/VarHandle" ∧ (parseMethodDescriptor yX12_zerosMark.desc).map (fun d => d.parameters.length) = some 1 := by decide +kernel
theorem hd_X12_zerosSize : yX12_zerosSize.cls ≠ "java/lang/invoke/MethodHandle" ∧ yX12_zerosSize.cls ≠ "java/lang/invoke/VarHandle" ∧ (parseMethodDescriptor yX12_zerosSize.desc).map (fun d => d.parameters.length) = some 1 := by decide +kernel
theorem hd_X12_ask : yX12_ask.cls ≠ "java/lang/invoke/MethodHandle" ∧ yX12_ask.cls ≠ "java/lang/invoke/VarHandle" ∧ (parseMethodDescriptor yX12_ask.desc).map (fun d => d.parameters.length) = some 2 := by decide +kernel
theorem hd_X12_widthOf : yX12_widthOf.cls ≠ "java/lang/invoke/MethodHandle" ∧ yX12_widthOf.cls ≠ "java/lang/invoke/VarHandle" ∧ (parseMethodDescriptor yX12_widthOf.desc).map (fun d => d.parameters.length) = some 1 := by decide +kernel
theorem hd_X12_begins : yX12_begins.cls ≠ "java/lang/invoke/MethodHandle" ∧ yX12_begins.cls ≠ "java/lang/invoke/VarHandle" ∧ (parseMethodDescriptor yX12_begins.desc).map (fun d => d.parameters.length) = some 3 := by decide +kernel
theorem hd_X12_bits : yX12_bits.cls ≠ "java/lang/invoke/MethodHandle" ∧ yX12_bits.cls ≠ "java/lang/invoke/VarHandle" ∧ (parseMethodDescriptor yX12_bits.desc).map (fun d => d.parameters.length) = some 1 := by decide +kernel
theorem hd_X12_blocks : yX12_blocks.cls ≠ "java/lang/invoke/MethodHandle" ∧ yX12_blocks.cls ≠ "java/lang/invoke/VarHandle" ∧ (parseMethodDescriptor yX12_blocks.desc).map (fun d => d.parameters.length) = some 2 := by decide +kernel
theorem hd_X12_offsetOf : yX12_offsetOf.cls ≠ "java/lang/invoke/MethodHandle" ∧ yX12_offsetOf.cls ≠ "java/lang/invoke/VarHandle" ∧ (parseMethodDescriptor yX12_offsetOf.desc).map (fun d => d.parameters.length) = some 1 := by decide +kernel
theorem hd_X12_block : yX12_block.cls ≠ "java/lang/invoke/MethodHandle" ∧ yX12_block.cls ≠ "java/lang/invoke/VarHandle" ∧ (parseMethodDescriptor yX12_block.desc).map (fun d => d.parameters.length) = some 3 := by decide +kernel
theorem hd_X12_choose : yX12_choose.cls ≠ "java/lang/invoke/MethodHandle" ∧ yX12_choose.cls ≠ "java/lang/invoke/VarHandle" ∧ (parseMethodDescriptor yX12_choose.desc).map (fun d => d.parameters.length) = some 2 := by decide +kernel
theorem hd_X12_isMissing : yX12_isMissing.cls ≠ "java/lang/invoke/MethodHandle" ∧ yX12_isMissing.cls ≠ "java/lang/invoke/VarHandle" ∧ (parseMethodDescriptor yX12_isMissing.desc).map (fun d => d.parameters.length) = some 1 := by decide +kernel
theorem hd_X12_isPart : yX12_isPart.cls ≠ "java/lang/invoke/MethodHandle" ∧ yX12_isPart.cls ≠ "java/lang/invoke/VarHandle" ∧ (parseMethodDescriptor yX12_isPart.desc).map (fun d => d.parameters.length) = some 3 := by decide +kernel
theorem hd_X12_isRow : yX12_isRow.cls ≠ "java/lang/invoke/MethodHandle" ∧ yX12_isRow.cls ≠ "java/lang/invoke/VarHandle" ∧ (parseMethodDescriptor yX12_isRow.desc).map (fun d => d.parameters.length) = some 1 := by decide +kernel
theorem hd_X12_copy : yX12_copy.cls ≠ "java/lang/invoke/MethodHandle" ∧ yX12_copy.cls ≠ "java/lang/invoke/VarHandle" ∧ (parseMethodDescriptor yX12_copy.desc).map (fun d => d.parameters.length) = some 5 := by decide +kernel
theorem hd_X12_onesOfAll : yX12_onesOfAll.cls ≠ "java/lang/invoke/MethodHandle" ∧ yX12_onesOfAll.cls ≠ "java/lang/invoke/VarHandle" ∧ (parseMethodDescriptor yX12_onesOfAll.desc).map (fun d => d.parameters.length) = some 0 := by decide +kernel
theorem hd_X12_count : yX12_count.cls ≠ "java/lang/invoke/MethodHandle" ∧ yX12_count.cls ≠ "java/lang/invoke/VarHandle" ∧ (parseMethodDescriptor yX12_count.desc).map (fun d => d.parameters.length) = some 1 := by decide +kernel
theorem hd_X12_cut : yX12_cut.cls ≠ "java/lang/invoke/MethodHandle" ∧ yX12_cut.cls ≠ "java/lang/invoke/VarHandle" ∧ (parseMethodDescriptor yX12_cut.desc).map (fun d => d.parameters.length) = some 2 := by decide +kernel
theorem hd_X12_drawn : yX12_drawn.cls ≠ "java/lang/invoke/MethodHandle" ∧ yX12_drawn.cls ≠ "java/lang/invoke/VarHandle" ∧ (parseMethodDescriptor yX12_drawn.desc).map (fun d => d.parameters.length) = some 4 := by decide +kernel
theorem hd_X12_drop : yX12_drop.cls ≠ "java/lang/invoke/MethodHandle" ∧ yX12_drop.cls ≠ "java/lang/invoke/VarHandle" ∧ (parseMethodDescriptor yX12_drop.desc).map (fun d => d.parameters.length) = some 1 := by decide +kernel
theorem hd_X12_empties : yX12_empties.cls ≠ "java/lang/invoke/MethodHandle" ∧ yX12_empties.cls ≠ "java/lang/invoke/VarHandle" ∧ (parseMethodDescriptor yX12_empties.desc).map (fun d => d.parameters.length) = some 2 := by decide +kernel
theorem hd_X12_entry : yX12_entry.cls ≠ "java/lang/invoke/MethodHandle" ∧ yX12_entry.cls ≠ "java/lang/invoke/VarHandle" ∧ (parseMethodDescriptor yX12_entry.desc).map (fun d => d.parameters.length) = some 3 := by decide +kernel
theorem hd_X12_fault : yX12_fault.cls ≠ "java/lang/invoke/MethodHandle" ∧ yX12_fault.cls ≠ "java/lang/invoke/VarHandle" ∧ (parseMethodDescriptor yX12_fault.desc).map (fun d => d.parameters.length) = some 0 := by decide +kernel
theorem hd_X12_feed : yX12_feed.cls ≠ "java/lang/invoke/MethodHandle" ∧ yX12_feed.cls ≠ "java/lang/invoke/VarHandle" ∧ (parseMethodDescriptor yX12_feed.desc).map (fun d => d.parameters.length) = some 1 := by decide +kernel
theorem hd_X12_isWell : yX12_isWell.cls ≠ "java/lang/invoke/MethodHandle" ∧ yX12_isWell.cls ≠ "java/lang/invoke/VarHandle" ∧ (parseMethodDescriptor yX12_isWell.desc).map (fun d => d.parameters.length) = some 0 := by decide +kernel
theorem hd_X12_takes : yX12_takes.cls ≠ "java/lang/invoke/MethodHandle" ∧ yX12_takes.cls ≠ "java/lang/invoke/VarHandle" ∧ (parseMethodDescriptor yX12_takes.desc).map (fun d => d.parameters.length) = some 2 := by decide +kernel
theorem hd_X12_figure : yX12_figure.cls ≠ "java/lang/invoke/MethodHandle" ∧ yX12_figure.cls ≠ "java/lang/invoke/VarHandle" ∧ (parseMethodDescriptor yX12_figure.desc).map (fun d => d.parameters.length) = some 2 := by decide +kernel
theorem hd_X12_isBit : yX12_isBit.cls ≠ "java/lang/invoke/MethodHandle" ∧ yX12_isBit.cls ≠ "java/lang/invoke/VarHandle" ∧ (parseMethodDescriptor yX12_isBit.desc).map (fun d => d.parameters.length) = some 2 := by decide +kernel
theorem hd_X12_get : yX12_get.cls ≠ "java/lang/invoke/MethodHandle" ∧ yX12_get.cls ≠ "java/lang/invoke/VarHandle" ∧ (parseMethodDescriptor yX12_get.desc).map (fun d => d.parameters.length) = some 2 := by decide +kernel
theorem hd_X12_image : yX12_image.cls ≠ "java/lang/invoke/MethodHandle" ∧ yX12_image.cls ≠ "java/lang/invoke/VarHandle" ∧ (parseMethodDescriptor yX12_image.desc).map (fun d => d.parameters.length) = some 1 := by decide +kernel
theorem hd_X12_isInt : yX12_isInt.cls ≠ "java/lang/invoke/MethodHandle" ∧ yX12_isInt.cls ≠ "java/lang/invoke/VarHandle" ∧ (parseMethodDescriptor yX12_isInt.desc).map (fun d => d.parameters.length) = some 1 := by decide +kernel
theorem hd_X12_isPlace : yX12_isPlace.cls ≠ "java/lang/invoke/MethodHandle" ∧ yX12_isPlace.cls ≠ "java/lang/invoke/VarHandle" ∧ (parseMethodDescriptor yX12_isPlace.desc).map (fun d => d.parameters.length) = some 2 := by decide +kernel
theorem hd_X12_join : yX12_join.cls ≠ "java/lang/invoke/MethodHandle" ∧ yX12_join.cls ≠ "java/lang/invoke/VarHandle" ∧ (parseMethodDescriptor yX12_join.desc).map (fun d => d.parameters.length) = some 4 := by decide +kernel
theorem hd_X12_kind : yX12_kind.cls ≠ "java/lang/invoke/MethodHandle" ∧ yX12_kind.cls ≠ "java/lang/invoke/VarHandle" ∧ (parseMethodDescriptor yX12_kind.desc).map (fun d => d.parameters.length) = some 1 := by decide +kernel
theorem hd_X12_kindOf : yX12_kindOf.cls ≠ "java/lang/invoke/MethodHandle" ∧ yX12_kindOf.cls ≠ "java/lang/invoke/VarHandle" ∧ (parseMethodDescriptor yX12_kindOf.desc).map (fun d => d.parameters.length) = some 1 := by decide +kernel
theorem hd_X12_last : yX12_last.cls ≠ "java/lang/invoke/MethodHandle" ∧ yX12_last.cls ≠ "java/lang/invoke/VarHandle" ∧ (parseMethodDescriptor yX12_last.desc).map (fun d => d.parameters.length) = some 3 := by decide +kernel
theorem hd_X12_longer : yX12_longer.cls ≠ "java/lang/invoke/MethodHandle" ∧ yX12_longer.cls ≠ "java/lang/invoke/VarHandle" ∧ (parseMethodDescriptor yX12_longer.desc).map (fun d => d.parameters.length) = some 1 := by decide +kernel
theorem hd_X12_load : yX12_load.cls ≠ "java/lang/invoke/MethodHandle" ∧ yX12_load.cls ≠ "java/lang/invoke/VarHandle" ∧ (parseMethodDescriptor yX12_load.desc).map (fun d => d.parameters.length) = some 1 := by decide +kernel
theorem hd_X12_longest : yX12_longest.cls ≠ "java/lang/invoke/MethodHandle" ∧ yX12_longest.cls ≠ "java/lang/invoke/VarHandle" ∧ (parseMethodDescriptor yX12_longest.desc).map (fun d => d.parameters.length) = some 3 := by decide +kernel
theorem hd_X12_lowest : yX12_lowest.cls ≠ "java/lang/invoke/MethodHandle" ∧ yX12_lowest.cls ≠ "java/lang/invoke/VarHandle" ∧ (parseMethodDescriptor yX12_lowest.desc).map (fun d => d.parameters.length) = some 2 := by decide +kernel
theorem hd_X12_mask : yX12_mask.cls ≠ "java/lang/invoke/MethodHandle" ∧ yX12_mask.cls ≠ "java/lang/invoke/VarHandle" ∧ (parseMethodDescriptor yX12_mask.desc).map (fun d => d.parameters.length) = some 2 := by decide +kernel
theorem hd_X12_next : yX12_next.cls ≠ "java/lang/invoke/MethodHandle" ∧ yX12_next.cls ≠ "java/lang/invoke/VarHandle" ∧ (parseMethodDescriptor yX12_next.desc).map (fun d => d.parameters.length) = some 3 := by decide +kernel
theorem hd_X12_offset : yX12_offset.cls ≠ "java/lang/invoke/MethodHandle" ∧ yX12_offset.cls ≠ "java/lang/invoke/VarHandle" ∧ (parseMethodDescriptor yX12_offset.desc).map (fun d => d.parameters.length) = some 1 := by decide +kernel
theorem hd_X12_ones : yX12_ones.cls ≠ "java/lang/invoke/MethodHandle" ∧ yX12_ones.cls ≠ "java/lang/invoke/VarHandle" ∧ (parseMethodDescriptor yX12_ones.desc).map (fun d => d.parameters.length) = some 1 := by decide +kernel
theorem hd_X12_payload : yX12_payload.cls ≠ "java/lang/invoke/MethodHandle" ∧ yX12_payload.cls ≠ "java/lang/invoke/VarHandle" ∧ (parseMethodDescriptor yX12_payload.desc).map (fun d => d.parameters.length) = some 2 := by decide +kernel
theorem hd_X12_put : yX12_put.cls ≠ "java/lang/invoke/MethodHandle" ∧ yX12_put.cls ≠ "java/lang/invoke/VarHandle" ∧ (parseMethodDescriptor yX12_put.desc).map (fun d => d.parameters.length) = some 3 := by decide +kernel
theorem hd_X12_rank : yX12_rank.cls ≠ "java/lang/invoke/MethodHandle" ∧ yX12_rank.cls ≠ "java/lang/invoke/VarHandle" ∧ (parseMethodDescriptor yX12_rank.desc).map (fun d => d.parameters.length) = some 3 := by decide +kernel
theorem hd_X12_restore : yX12_restore.cls ≠ "java/lang/invoke/MethodHandle" ∧ yX12_restore.cls ≠ "java/lang/invoke/VarHandle" ∧ (parseMethodDescriptor yX12_restore.desc).map (fun d => d.parameters.length) = some 1 := by decide +kernel
theorem hd_X12_row : yX12_row.cls ≠ "java/lang/invoke/MethodHandle" ∧ yX12_row.cls ≠ "java/lang/invoke/VarHandle" ∧ (parseMethodDescriptor yX12_row.desc).map (fun d => d.parameters.length) = some 3 := by decide +kernel
theorem hd_X12_select : yX12_select.cls ≠ "java/lang/invoke/MethodHandle" ∧ yX12_select.cls ≠ "java/lang/invoke/VarHandle" ∧ (parseMethodDescriptor yX12_select.desc).map (fun d => d.parameters.length) = some 3 := by decide +kernel
theorem hd_X12_set : yX12_set.cls ≠ "java/lang/invoke/MethodHandle" ∧ yX12_set.cls ≠ "java/lang/invoke/VarHandle" ∧ (parseMethodDescriptor yX12_set.desc).map (fun d => d.parameters.length) = some 3 := by decide +kernel
theorem hd_X12_size : yX12_size.cls ≠ "java/lang/invoke/MethodHandle" ∧ yX12_size.cls ≠ "java/lang/invoke/VarHandle" ∧ (parseMethodDescriptor yX12_size.desc).map (fun d => d.parameters.length) = some 2 := by decide +kernel
theorem hd_X12_status : yX12_status.cls ≠ "java/lang/invoke/MethodHandle" ∧ yX12_status.cls ≠ "java/lang/invoke/VarHandle" ∧ (parseMethodDescriptor yX12_status.desc).map (fun d => d.parameters.length) = some 0 := by decide +kernel
theorem hd_X12_stretches : yX12_stretches.cls ≠ "java/lang/invoke/MethodHandle" ∧ yX12_stretches.cls ≠ "java/lang/invoke/VarHandle" ∧ (parseMethodDescriptor yX12_stretches.desc).map (fun d => d.parameters.length) = some 1 := by decide +kernel
theorem hd_X12_take : yX12_take.cls ≠ "java/lang/invoke/MethodHandle" ∧ yX12_take.cls ≠ "java/lang/invoke/VarHandle" ∧ (parseMethodDescriptor yX12_take.desc).map (fun d => d.parameters.length) = some 4 := by decide +kernel
theorem hd_X12_tell : yX12_tell.cls ≠ "java/lang/invoke/MethodHandle" ∧ yX12_tell.cls ≠ "java/lang/invoke/VarHandle" ∧ (parseMethodDescriptor yX12_tell.desc).map (fun d => d.parameters.length) = some 4 := by decide +kernel
theorem hd_X12_trace : yX12_trace.cls ≠ "java/lang/invoke/MethodHandle" ∧ yX12_trace.cls ≠ "java/lang/invoke/VarHandle" ∧ (parseMethodDescriptor yX12_trace.desc).map (fun d => d.parameters.length) = some 1 := by decide +kernel
theorem hd_X12_turn : yX12_turn.cls ≠ "java/lang/invoke/MethodHandle" ∧ yX12_turn.cls ≠ "java/lang/invoke/VarHandle" ∧ (parseMethodDescriptor yX12_turn.desc).map (fun d => d.parameters.length) = some 1 := by decide +kernel
theorem hd_X12_undo : yX12_undo.cls ≠ "java/lang/invoke/MethodHandle" ∧ yX12_undo.cls ≠ "java/lang/invoke/VarHandle" ∧ (parseMethodDescriptor yX12_undo.desc).map (fun d => d.parameters.length) = some 0 := by decide +kernel
theorem hd_X12_weight : yX12_weight.cls ≠ "java/lang/invoke/MethodHandle" ∧ yX12_weight.cls ≠ "java/lang/invoke/VarHandle" ∧ (parseMethodDescriptor yX12_weight.desc).map (fun d => d.parameters.length) = some 2 := by decide +kernel
theorem bi_10 : (Int8.ofInt 10).toInt32 = 10 := by decide
theorem bi_100 : (Int8.ofInt 100).toInt32 = 100 := by decide
theorem bi_11 : (Int8.ofInt 11).toInt32 = 11 := by decide
theorem bi_111 : (Int8.ofInt 111).toInt32 = 111 := by decide
theorem bi_116 : (Int8.ofInt 116).toInt32 = 116 := by decide
theorem bi_12 : (Int8.ofInt 12).toInt32 = 12 := by decide
theorem bi_122 : (Int8.ofInt 122).toInt32 = 122 := by decide
theorem bi_13 : (Int8.ofInt 13).toInt32 = 13 := by decide
theorem bi_14 : (Int8.ofInt 14).toInt32 = 14 := by decide
theorem bi_15 : (Int8.ofInt 15).toInt32 = 15 := by decide
theorem bi_16 : (Int8.ofInt 16).toInt32 = 16 := by decide
theorem bi_18 : (Int8.ofInt 18).toInt32 = 18 := by decide
theorem bi_20 : (Int8.ofInt 20).toInt32 = 20 := by decide
theorem bi_21 : (Int8.ofInt 21).toInt32 = 21 := by decide
theorem bi_22 : (Int8.ofInt 22).toInt32 = 22 := by decide
theorem bi_23 : (Int8.ofInt 23).toInt32 = 23 := by decide
theorem bi_24 : (Int8.ofInt 24).toInt32 = 24 := by decide
theorem bi_32 : (Int8.ofInt 32).toInt32 = 32 := by decide
theorem bi_33 : (Int8.ofInt 33).toInt32 = 33 := by decide
theorem bi_40 : (Int8.ofInt 40).toInt32 = 40 := by decide
theorem bi_44 : (Int8.ofInt 44).toInt32 = 44 := by decide
theorem bi_48 : (Int8.ofInt 48).toInt32 = 48 := by decide
theorem bi_57 : (Int8.ofInt 57).toInt32 = 57 := by decide
theorem bi_59 : (Int8.ofInt 59).toInt32 = 59 := by decide
theorem bi_6 : (Int8.ofInt 6).toInt32 = 6 := by decide
theorem bi_60 : (Int8.ofInt 60).toInt32 = 60 := by decide
theorem bi_63 : (Int8.ofInt 63).toInt32 = 63 := by decide
theorem bi_64 : (Int8.ofInt 64).toInt32 = 64 := by decide
theorem bi_7 : (Int8.ofInt 7).toInt32 = 7 := by decide
theorem bi_8 : (Int8.ofInt 8).toInt32 = 8 := by decide
theorem bi_97 : (Int8.ofInt 97).toInt32 = 97 := by decide
theorem bi_98 : (Int8.ofInt 98).toInt32 = 98 := by decide
theorem bi_99 : (Int8.ofInt 99).toInt32 = 99 := by decide
theorem ic_0 : Int32.ofInt 0 = 0 := by decide
theorem ic_1 : Int32.ofInt 1 = 1 := by decide
theorem ic_2 : Int32.ofInt 2 = 2 := by decide
theorem ic_3 : Int32.ofInt 3 = 3 := by decide
theorem ic_4 : Int32.ofInt 4 = 4 := by decide
theorem ic_5 : Int32.ofInt 5 = 5 := by decide
theorem ic_6 : Int32.ofInt 6 = 6 := by decide
theorem ic_m1 : Int32.ofInt (-1) = (-1) := by decide
theorem lc_0 : Int64.ofNat ((0 : Fin 2) : Nat) = 0 := by decide
theorem lc_1 : Int64.ofNat ((1 : Fin 2) : Nat) = 1 := by decide
theorem si_1000 : (Int16.ofInt 1000).toInt32 = 1000 := by decide
theorem si_132 : (Int16.ofInt 132).toInt32 = 132 := by decide
theorem si_1452 : (Int16.ofInt 1452).toInt32 = 1452 := by decide
theorem si_1584 : (Int16.ofInt 1584).toInt32 = 1584 := by decide
theorem si_200 : (Int16.ofInt 200).toInt32 = 200 := by decide
theorem si_240 : (Int16.ofInt 240).toInt32 = 240 := by decide
theorem si_255 : (Int16.ofInt 255).toInt32 = 255 := by decide
theorem si_256 : (Int16.ofInt 256).toInt32 = 256 := by decide
theorem si_264 : (Int16.ofInt 264).toInt32 = 264 := by decide
theorem si_320 : (Int16.ofInt 320).toInt32 = 320 := by decide
theorem si_32767 : (Int16.ofInt 32767).toInt32 = 32767 := by decide
theorem si_480 : (Int16.ofInt 480).toInt32 = 480 := by decide
