section
-- ===== PART A: goes FIRST, ahead of the names: the tables' words, and 'selects' of the private methods out of them =====
/-- a private method of a class that the tables say can be made, by its rows of tables_1 -/
def lw_okq (q : MethodName × Nat) : Prop := (q.1.cls ≠ "java/lang/invoke/MethodHandle" ∧ q.1.cls ≠ "java/lang/invoke/VarHandle") ∧ Cond.instantiable q.1.cls q.2 ∈ tables_1 ∧ Cond.privateMethod q.1 ∈ tables_1 ∧ Cond.instanceMethod q.1 ∈ tables_1
theorem lw_p0 : lw_okq (⟨"ClassBits", "found", "(I)I"⟩, 12) := ⟨⟨by decide +kernel, by decide +kernel⟩, List.mem_of_getElem? (i := 19) (by decide +kernel), List.mem_of_getElem? (i := 192) (by decide +kernel), List.mem_of_getElem? (i := 193) (by decide +kernel)⟩
theorem lw_p1 : lw_okq (⟨"ClassBits", "fine", "(I)I"⟩, 12) := ⟨⟨by decide +kernel, by decide +kernel⟩, List.mem_of_getElem? (i := 19) (by decide +kernel), List.mem_of_getElem? (i := 204) (by decide +kernel), List.mem_of_getElem? (i := 205) (by decide +kernel)⟩
theorem lw_p2 : lw_okq (⟨"ClassBits$TextReader", "readRun", "()I"⟩, 9) := ⟨⟨by decide +kernel, by decide +kernel⟩, List.mem_of_getElem? (i := 69) (by decide +kernel), List.mem_of_getElem? (i := 256) (by decide +kernel), List.mem_of_getElem? (i := 257) (by decide +kernel)⟩
theorem lw_p3 : lw_okq (⟨"ClassBits$TextReader", "readSort", "()I"⟩, 9) := ⟨⟨by decide +kernel, by decide +kernel⟩, List.mem_of_getElem? (i := 69) (by decide +kernel), List.mem_of_getElem? (i := 260) (by decide +kernel), List.mem_of_getElem? (i := 261) (by decide +kernel)⟩
theorem lw_p4 : lw_okq (⟨"ClassBits$TextReader", "byteAt", "(I)I"⟩, 9) := ⟨⟨by decide +kernel, by decide +kernel⟩, List.mem_of_getElem? (i := 69) (by decide +kernel), List.mem_of_getElem? (i := 264) (by decide +kernel), List.mem_of_getElem? (i := 265) (by decide +kernel)⟩
theorem lw_p5 : lw_okq (⟨"ClassBits$TextReader", "readNumber", "()I"⟩, 9) := ⟨⟨by decide +kernel, by decide +kernel⟩, List.mem_of_getElem? (i := 69) (by decide +kernel), List.mem_of_getElem? (i := 272) (by decide +kernel), List.mem_of_getElem? (i := 273) (by decide +kernel)⟩
theorem lw_p6 : lw_okq (⟨"ClassBits$TextReader", "readSemicolon", "()I"⟩, 9) := ⟨⟨by decide +kernel, by decide +kernel⟩, List.mem_of_getElem? (i := 69) (by decide +kernel), List.mem_of_getElem? (i := 279) (by decide +kernel), List.mem_of_getElem? (i := 280) (by decide +kernel)⟩
theorem lw_p7 : lw_okq (⟨"ClassBits", "takeOverRuns", "()V"⟩, 12) := ⟨⟨by decide +kernel, by decide +kernel⟩, List.mem_of_getElem? (i := 19) (by decide +kernel), List.mem_of_getElem? (i := 288) (by decide +kernel), List.mem_of_getElem? (i := 289) (by decide +kernel)⟩
theorem lw_p8 : lw_okq (⟨"ClassBits", "vectorToChange", "(I)LClassBits$BitVector;"⟩, 12) := ⟨⟨by decide +kernel, by decide +kernel⟩, List.mem_of_getElem? (i := 19) (by decide +kernel), List.mem_of_getElem? (i := 349) (by decide +kernel), List.mem_of_getElem? (i := 350) (by decide +kernel)⟩
theorem lw_p9 : lw_okq (⟨"ClassBits", "isPlaceOrEnd", "(II)Z"⟩, 12) := ⟨⟨by decide +kernel, by decide +kernel⟩, List.mem_of_getElem? (i := 19) (by decide +kernel), List.mem_of_getElem? (i := 575) (by decide +kernel), List.mem_of_getElem? (i := 576) (by decide +kernel)⟩
theorem lw_p10 : lw_okq (⟨"ClassBits", "onesOfAll", "()I"⟩, 12) := ⟨⟨by decide +kernel, by decide +kernel⟩, List.mem_of_getElem? (i := 19) (by decide +kernel), List.mem_of_getElem? (i := 630) (by decide +kernel), List.mem_of_getElem? (i := 631) (by decide +kernel)⟩
theorem lw_p11 : lw_okq (⟨"ClassBits", "isRun", "(I)Z"⟩, 12) := ⟨⟨by decide +kernel, by decide +kernel⟩, List.mem_of_getElem? (i := 19) (by decide +kernel), List.mem_of_getElem? (i := 646) (by decide +kernel), List.mem_of_getElem? (i := 647) (by decide +kernel)⟩
theorem lw_p12 : lw_okq (⟨"ClassBits", "rowsThatAreThere", "()I"⟩, 12) := ⟨⟨by decide +kernel, by decide +kernel⟩, List.mem_of_getElem? (i := 19) (by decide +kernel), List.mem_of_getElem? (i := 747) (by decide +kernel), List.mem_of_getElem? (i := 748) (by decide +kernel)⟩
theorem lw_p13 : lw_okq (⟨"ClassBits", "bitsOfAll", "()I"⟩, 12) := ⟨⟨by decide +kernel, by decide +kernel⟩, List.mem_of_getElem? (i := 19) (by decide +kernel), List.mem_of_getElem? (i := 751) (by decide +kernel), List.mem_of_getElem? (i := 752) (by decide +kernel)⟩
theorem lw_p14 : lw_okq (⟨"ClassBitsModel", "found", "(I)I"⟩, 28) := ⟨⟨by decide +kernel, by decide +kernel⟩, List.mem_of_getElem? (i := 759) (by decide +kernel), List.mem_of_getElem? (i := 862) (by decide +kernel), List.mem_of_getElem? (i := 863) (by decide +kernel)⟩
theorem lw_p15 : lw_okq (⟨"ClassBitsModel", "well", "(I)I"⟩, 28) := ⟨⟨by decide +kernel, by decide +kernel⟩, List.mem_of_getElem? (i := 759) (by decide +kernel), List.mem_of_getElem? (i := 867) (by decide +kernel), List.mem_of_getElem? (i := 868) (by decide +kernel)⟩
def lw_privs_1 : List (MethodName × Nat) := [(⟨"ClassBits", "found", "(I)I"⟩, 12), (⟨"ClassBits", "fine", "(I)I"⟩, 12), (⟨"ClassBits$TextReader", "readRun", "()I"⟩, 9), (⟨"ClassBits$TextReader", "readSort", "()I"⟩, 9), (⟨"ClassBits$TextReader", "byteAt", "(I)I"⟩, 9), (⟨"ClassBits$TextReader", "readNumber", "()I"⟩, 9), (⟨"ClassBits$TextReader", "readSemicolon", "()I"⟩, 9), (⟨"ClassBits", "takeOverRuns", "()V"⟩, 12), (⟨"ClassBits", "vectorToChange", "(I)LClassBits$BitVector;"⟩, 12), (⟨"ClassBits", "isPlaceOrEnd", "(II)Z"⟩, 12), (⟨"ClassBits", "onesOfAll", "()I"⟩, 12), (⟨"ClassBits", "isRun", "(I)Z"⟩, 12), (⟨"ClassBits", "rowsThatAreThere", "()I"⟩, 12), (⟨"ClassBits", "bitsOfAll", "()I"⟩, 12), (⟨"ClassBitsModel", "found", "(I)I"⟩, 28), (⟨"ClassBitsModel", "well", "(I)I"⟩, 28)]
theorem lw_r1 : ∀ q ∈ lw_privs_1, lw_okq q := List.forall_mem_cons.mpr ⟨lw_p0, List.forall_mem_cons.mpr ⟨lw_p1, List.forall_mem_cons.mpr ⟨lw_p2, List.forall_mem_cons.mpr ⟨lw_p3, List.forall_mem_cons.mpr ⟨lw_p4, List.forall_mem_cons.mpr ⟨lw_p5, List.forall_mem_cons.mpr ⟨lw_p6, List.forall_mem_cons.mpr ⟨lw_p7, List.forall_mem_cons.mpr ⟨lw_p8, List.forall_mem_cons.mpr ⟨lw_p9, List.forall_mem_cons.mpr ⟨lw_p10, List.forall_mem_cons.mpr ⟨lw_p11, List.forall_mem_cons.mpr ⟨lw_p12, List.forall_mem_cons.mpr ⟨lw_p13, List.forall_mem_cons.mpr ⟨lw_p14, List.forall_mem_cons.mpr ⟨lw_p15, fun _ h => absurd h List.not_mem_nil⟩⟩⟩⟩⟩⟩⟩⟩⟩⟩⟩⟩⟩⟩⟩⟩
theorem lw_p16 : lw_okq (⟨"ClassBitsModel", "isMissing", "(I)Z"⟩, 28) := ⟨⟨by decide +kernel, by decide +kernel⟩, List.mem_of_getElem? (i := 759) (by decide +kernel), List.mem_of_getElem? (i := 875) (by decide +kernel), List.mem_of_getElem? (i := 876) (by decide +kernel)⟩
theorem lw_p17 : lw_okq (⟨"ClassBitsModel", "isPart", "(III)Z"⟩, 28) := ⟨⟨by decide +kernel, by decide +kernel⟩, List.mem_of_getElem? (i := 759) (by decide +kernel), List.mem_of_getElem? (i := 886) (by decide +kernel), List.mem_of_getElem? (i := 887) (by decide +kernel)⟩
theorem lw_p18 : lw_okq (⟨"ClassBitsModel", "advances", "()V"⟩, 28) := ⟨⟨by decide +kernel, by decide +kernel⟩, List.mem_of_getElem? (i := 759) (by decide +kernel), List.mem_of_getElem? (i := 906) (by decide +kernel), List.mem_of_getElem? (i := 907) (by decide +kernel)⟩
theorem lw_p19 : lw_okq (⟨"ClassBitsModel", "byteAt", "(I)I"⟩, 28) := ⟨⟨by decide +kernel, by decide +kernel⟩, List.mem_of_getElem? (i := 759) (by decide +kernel), List.mem_of_getElem? (i := 910) (by decide +kernel), List.mem_of_getElem? (i := 911) (by decide +kernel)⟩
theorem lw_p20 : lw_okq (⟨"ClassBitsModel", "takes", "(ZI)I"⟩, 28) := ⟨⟨by decide +kernel, by decide +kernel⟩, List.mem_of_getElem? (i := 759) (by decide +kernel), List.mem_of_getElem? (i := 917) (by decide +kernel), List.mem_of_getElem? (i := 918) (by decide +kernel)⟩
theorem lw_p21 : lw_okq (⟨"ClassBitsModel", "isWell", "()Z"⟩, 28) := ⟨⟨by decide +kernel, by decide +kernel⟩, List.mem_of_getElem? (i := 759) (by decide +kernel), List.mem_of_getElem? (i := 921) (by decide +kernel), List.mem_of_getElem? (i := 922) (by decide +kernel)⟩
theorem lw_p22 : lw_okq (⟨"ClassBitsModel", "longer", "(I)I"⟩, 28) := ⟨⟨by decide +kernel, by decide +kernel⟩, List.mem_of_getElem? (i := 759) (by decide +kernel), List.mem_of_getElem? (i := 925) (by decide +kernel), List.mem_of_getElem? (i := 926) (by decide +kernel)⟩
theorem lw_p23 : lw_okq (⟨"ClassBitsModel", "figure", "(II)I"⟩, 28) := ⟨⟨by decide +kernel, by decide +kernel⟩, List.mem_of_getElem? (i := 759) (by decide +kernel), List.mem_of_getElem? (i := 929) (by decide +kernel), List.mem_of_getElem? (i := 930) (by decide +kernel)⟩
theorem lw_p24 : lw_okq (⟨"ClassBitsModel", "notes", "()V"⟩, 28) := ⟨⟨by decide +kernel, by decide +kernel⟩, List.mem_of_getElem? (i := 759) (by decide +kernel), List.mem_of_getElem? (i := 934) (by decide +kernel), List.mem_of_getElem? (i := 935) (by decide +kernel)⟩
theorem lw_p25 : lw_okq (⟨"ClassBitsModel", "empties", "(II)V"⟩, 28) := ⟨⟨by decide +kernel, by decide +kernel⟩, List.mem_of_getElem? (i := 759) (by decide +kernel), List.mem_of_getElem? (i := 941) (by decide +kernel), List.mem_of_getElem? (i := 942) (by decide +kernel)⟩
theorem lw_p26 : lw_okq (⟨"ClassBitsModel", "appends", "(II)V"⟩, 28) := ⟨⟨by decide +kernel, by decide +kernel⟩, List.mem_of_getElem? (i := 759) (by decide +kernel), List.mem_of_getElem? (i := 948) (by decide +kernel), List.mem_of_getElem? (i := 949) (by decide +kernel)⟩
theorem lw_p27 : lw_okq (⟨"ClassBitsModel", "isBit", "(II)Z"⟩, 28) := ⟨⟨by decide +kernel, by decide +kernel⟩, List.mem_of_getElem? (i := 759) (by decide +kernel), List.mem_of_getElem? (i := 963) (by decide +kernel), List.mem_of_getElem? (i := 964) (by decide +kernel)⟩
theorem lw_p28 : lw_okq (⟨"ClassBitsModel", "bitsOf", "(I)I"⟩, 28) := ⟨⟨by decide +kernel, by decide +kernel⟩, List.mem_of_getElem? (i := 759) (by decide +kernel), List.mem_of_getElem? (i := 967) (by decide +kernel), List.mem_of_getElem? (i := 968) (by decide +kernel)⟩
theorem lw_p29 : lw_okq (⟨"ClassBitsModel", "allOnes", "(I)I"⟩, 28) := ⟨⟨by decide +kernel, by decide +kernel⟩, List.mem_of_getElem? (i := 759) (by decide +kernel), List.mem_of_getElem? (i := 989) (by decide +kernel), List.mem_of_getElem? (i := 990) (by decide +kernel)⟩
theorem lw_p30 : lw_okq (⟨"ClassBitsModel", "offsetOf", "(I)I"⟩, 28) := ⟨⟨by decide +kernel, by decide +kernel⟩, List.mem_of_getElem? (i := 759) (by decide +kernel), List.mem_of_getElem? (i := 1031) (by decide +kernel), List.mem_of_getElem? (i := 1032) (by decide +kernel)⟩
theorem lw_p31 : lw_okq (⟨"ClassBitsModel", "widthOf", "(I)I"⟩, 28) := ⟨⟨by decide +kernel, by decide +kernel⟩, List.mem_of_getElem? (i := 759) (by decide +kernel), List.mem_of_getElem? (i := 1035) (by decide +kernel), List.mem_of_getElem? (i := 1036) (by decide +kernel)⟩
def lw_privs_2 : List (MethodName × Nat) := [(⟨"ClassBitsModel", "isMissing", "(I)Z"⟩, 28), (⟨"ClassBitsModel", "isPart", "(III)Z"⟩, 28), (⟨"ClassBitsModel", "advances", "()V"⟩, 28), (⟨"ClassBitsModel", "byteAt", "(I)I"⟩, 28), (⟨"ClassBitsModel", "takes", "(ZI)I"⟩, 28), (⟨"ClassBitsModel", "isWell", "()Z"⟩, 28), (⟨"ClassBitsModel", "longer", "(I)I"⟩, 28), (⟨"ClassBitsModel", "figure", "(II)I"⟩, 28), (⟨"ClassBitsModel", "notes", "()V"⟩, 28), (⟨"ClassBitsModel", "empties", "(II)V"⟩, 28), (⟨"ClassBitsModel", "appends", "(II)V"⟩, 28), (⟨"ClassBitsModel", "isBit", "(II)Z"⟩, 28), (⟨"ClassBitsModel", "bitsOf", "(I)I"⟩, 28), (⟨"ClassBitsModel", "allOnes", "(I)I"⟩, 28), (⟨"ClassBitsModel", "offsetOf", "(I)I"⟩, 28), (⟨"ClassBitsModel", "widthOf", "(I)I"⟩, 28)]
theorem lw_r2 : ∀ q ∈ lw_privs_2, lw_okq q := List.forall_mem_cons.mpr ⟨lw_p16, List.forall_mem_cons.mpr ⟨lw_p17, List.forall_mem_cons.mpr ⟨lw_p18, List.forall_mem_cons.mpr ⟨lw_p19, List.forall_mem_cons.mpr ⟨lw_p20, List.forall_mem_cons.mpr ⟨lw_p21, List.forall_mem_cons.mpr ⟨lw_p22, List.forall_mem_cons.mpr ⟨lw_p23, List.forall_mem_cons.mpr ⟨lw_p24, List.forall_mem_cons.mpr ⟨lw_p25, List.forall_mem_cons.mpr ⟨lw_p26, List.forall_mem_cons.mpr ⟨lw_p27, List.forall_mem_cons.mpr ⟨lw_p28, List.forall_mem_cons.mpr ⟨lw_p29, List.forall_mem_cons.mpr ⟨lw_p30, List.forall_mem_cons.mpr ⟨lw_p31, fun _ h => absurd h List.not_mem_nil⟩⟩⟩⟩⟩⟩⟩⟩⟩⟩⟩⟩⟩⟩⟩⟩
theorem lw_p32 : lw_okq (⟨"ClassBitsModel", "begins", "([III)I"⟩, 28) := ⟨⟨by decide +kernel, by decide +kernel⟩, List.mem_of_getElem? (i := 759) (by decide +kernel), List.mem_of_getElem? (i := 1039) (by decide +kernel), List.mem_of_getElem? (i := 1040) (by decide +kernel)⟩
theorem lw_p33 : lw_okq (⟨"ClassBitsModel", "isPlace", "(II)Z"⟩, 28) := ⟨⟨by decide +kernel, by decide +kernel⟩, List.mem_of_getElem? (i := 759) (by decide +kernel), List.mem_of_getElem? (i := 1072) (by decide +kernel), List.mem_of_getElem? (i := 1073) (by decide +kernel)⟩
theorem lw_p34 : lw_okq (⟨"ClassBitsModel", "onesOfAll", "()I"⟩, 28) := ⟨⟨by decide +kernel, by decide +kernel⟩, List.mem_of_getElem? (i := 759) (by decide +kernel), List.mem_of_getElem? (i := 1123) (by decide +kernel), List.mem_of_getElem? (i := 1124) (by decide +kernel)⟩
theorem lw_p35 : lw_okq (⟨"ClassBitsModel", "isRun", "(I)Z"⟩, 28) := ⟨⟨by decide +kernel, by decide +kernel⟩, List.mem_of_getElem? (i := 759) (by decide +kernel), List.mem_of_getElem? (i := 1135) (by decide +kernel), List.mem_of_getElem? (i := 1136) (by decide +kernel)⟩
theorem lw_p36 : lw_okq (⟨"ClassBitsModel", "kindIn", "(I)I"⟩, 28) := ⟨⟨by decide +kernel, by decide +kernel⟩, List.mem_of_getElem? (i := 759) (by decide +kernel), List.mem_of_getElem? (i := 1139) (by decide +kernel), List.mem_of_getElem? (i := 1140) (by decide +kernel)⟩
theorem lw_p37 : lw_okq (⟨"ClassBitsModel", "alternateSize", "(I)I"⟩, 28) := ⟨⟨by decide +kernel, by decide +kernel⟩, List.mem_of_getElem? (i := 759) (by decide +kernel), List.mem_of_getElem? (i := 1151) (by decide +kernel), List.mem_of_getElem? (i := 1152) (by decide +kernel)⟩
theorem lw_p38 : lw_okq (⟨"ClassBitsModel", "traces", "(I)V"⟩, 28) := ⟨⟨by decide +kernel, by decide +kernel⟩, List.mem_of_getElem? (i := 759) (by decide +kernel), List.mem_of_getElem? (i := 1155) (by decide +kernel), List.mem_of_getElem? (i := 1156) (by decide +kernel)⟩
theorem lw_p39 : lw_okq (⟨"ClassBitsModel", "zerosSize", "(I)I"⟩, 28) := ⟨⟨by decide +kernel, by decide +kernel⟩, List.mem_of_getElem? (i := 759) (by decide +kernel), List.mem_of_getElem? (i := 1159) (by decide +kernel), List.mem_of_getElem? (i := 1160) (by decide +kernel)⟩
theorem lw_p40 : lw_okq (⟨"ClassBitsModel", "zerosMark", "(I)I"⟩, 28) := ⟨⟨by decide +kernel, by decide +kernel⟩, List.mem_of_getElem? (i := 759) (by decide +kernel), List.mem_of_getElem? (i := 1163) (by decide +kernel), List.mem_of_getElem? (i := 1164) (by decide +kernel)⟩
theorem lw_p41 : lw_okq (⟨"ClassBitsModel", "onesOf", "(I)I"⟩, 28) := ⟨⟨by decide +kernel, by decide +kernel⟩, List.mem_of_getElem? (i := 759) (by decide +kernel), List.mem_of_getElem? (i := 1167) (by decide +kernel), List.mem_of_getElem? (i := 1168) (by decide +kernel)⟩
theorem lw_p42 : lw_okq (⟨"ClassBitsModel", "alternateMark", "(I)I"⟩, 28) := ⟨⟨by decide +kernel, by decide +kernel⟩, List.mem_of_getElem? (i := 759) (by decide +kernel), List.mem_of_getElem? (i := 1171) (by decide +kernel), List.mem_of_getElem? (i := 1172) (by decide +kernel)⟩
def lw_privs_3 : List (MethodName × Nat) := [(⟨"ClassBitsModel", "begins", "([III)I"⟩, 28), (⟨"ClassBitsModel", "isPlace", "(II)Z"⟩, 28), (⟨"ClassBitsModel", "onesOfAll", "()I"⟩, 28), (⟨"ClassBitsModel", "isRun", "(I)Z"⟩, 28), (⟨"ClassBitsModel", "kindIn", "(I)I"⟩, 28), (⟨"ClassBitsModel", "alternateSize", "(I)I"⟩, 28), (⟨"ClassBitsModel", "traces", "(I)V"⟩, 28), (⟨"ClassBitsModel", "zerosSize", "(I)I"⟩, 28), (⟨"ClassBitsModel", "zerosMark", "(I)I"⟩, 28), (⟨"ClassBitsModel", "onesOf", "(I)I"⟩, 28), (⟨"ClassBitsModel", "alternateMark", "(I)I"⟩, 28)]
theorem lw_r3 : ∀ q ∈ lw_privs_3, lw_okq q := List.forall_mem_cons.mpr ⟨lw_p32, List.forall_mem_cons.mpr ⟨lw_p33, List.forall_mem_cons.mpr ⟨lw_p34, List.forall_mem_cons.mpr ⟨lw_p35, List.forall_mem_cons.mpr ⟨lw_p36, List.forall_mem_cons.mpr ⟨lw_p37, List.forall_mem_cons.mpr ⟨lw_p38, List.forall_mem_cons.mpr ⟨lw_p39, List.forall_mem_cons.mpr ⟨lw_p40, List.forall_mem_cons.mpr ⟨lw_p41, List.forall_mem_cons.mpr ⟨lw_p42, fun _ h => absurd h List.not_mem_nil⟩⟩⟩⟩⟩⟩⟩⟩⟩⟩⟩
def lw_privs : List (MethodName × Nat) := lw_privs_1 ++ (lw_privs_2 ++ (lw_privs_3))
def lw_tbl : List Cond := k2_sels lw_privs ++ tables_1
theorem lw_privs_ok : ∀ q ∈ lw_privs, lw_okq q := by
  show ∀ q ∈ lw_privs_1 ++ (lw_privs_2 ++ (lw_privs_3)), lw_okq q
  exact List.forall_mem_append.mpr ⟨lw_r1, List.forall_mem_append.mpr ⟨lw_r2, lw_r3⟩⟩
end
section
def RX0 : String := "ClassBits$AlternateRun"
def TX0 : u_T := fun k => match k with
  | 0 => ("ClassBits$Run", "number", "I", true)
  | _ => ("ClassBits$Run", "length", "I", true)
def tyX0 : Nat → FieldType := fun k => match k with
  | 0 => .int
  | _ => .int
theorem nmX0 : ∀ a, a < 2 → ∀ b, b < 2 → a ≠ b → (TX0 a).2.1 ≠ (TX0 b).2.1 := by decide +kernel
theorem tyX0_ok : ∀ k, k < 2 → parseFieldDescriptor (TX0 k).2.2.1 = some (tyX0 k) := by decide +kernel
abbrev cX0_init : ByteArray := prog_2_method_1_code
def yX0_init : MethodName := ⟨RX0, "<init>", "(II)V"⟩
abbrev cX0_kindNumber : ByteArray := prog_2_method_2_code
def yX0_kindNumber : MethodName := ⟨RX0, "kindNumber", "()I"⟩
abbrev cX0_bitOf : ByteArray := prog_2_method_3_code
def yX0_bitOf : MethodName := ⟨RX0, "bitOf", "(I)I"⟩
abbrev cX0_tellSize : ByteArray := prog_2_method_4_code
def yX0_tellSize : MethodName := ⟨RX0, "tellSize", "(LClassBits$Trace;)I"⟩
abbrev cX0_tellMark : ByteArray := prog_2_method_5_code
def yX0_tellMark : MethodName := ⟨RX0, "tellMark", "(LClassBits$Trace;)I"⟩
def RX1 : String := "ClassBits$BitVector"
def TX1 : u_T := fun k => match k with
  | 0 => ("ClassBits$BitVector", "masks", "[I", true)
  | _ => ("ClassBits$BitVector", "length", "I", false)
def tyX1 : Nat → FieldType := fun k => match k with
  | 0 => .array .int
  | _ => .int
theorem nmX1 : ∀ a, a < 2 → ∀ b, b < 2 → a ≠ b → (TX1 a).2.1 ≠ (TX1 b).2.1 := by decide +kernel
theorem tyX1_ok : ∀ k, k < 2 → parseFieldDescriptor (TX1 k).2.2.1 = some (tyX1 k) := by decide +kernel
abbrev cX1_init : ByteArray := prog_3_method_1_code
def yX1_init : MethodName := ⟨RX1, "<init>", "()V"⟩
abbrev cX1_bitAt : ByteArray := prog_3_method_2_code
def yX1_bitAt : MethodName := ⟨RX1, "bitAt", "(I)I"⟩
abbrev cX1_write : ByteArray := prog_3_method_3_code
def yX1_write : MethodName := ⟨RX1, "write", "(II)V"⟩
abbrev cX1_append : ByteArray := prog_3_method_4_code
def yX1_append : MethodName := ⟨RX1, "append", "(I)V"⟩
abbrev cX1_appendRun : ByteArray := prog_3_method_5_code
def yX1_appendRun : MethodName := ⟨RX1, "appendRun", "(LClassBits$Run;)V"⟩
abbrev cX1_clearTo : ByteArray := prog_3_method_6_code
def yX1_clearTo : MethodName := ⟨RX1, "clearTo", "(I)V"⟩
abbrev cX1_shorten : ByteArray := prog_3_method_7_code
def yX1_shorten : MethodName := ⟨RX1, "shorten", "(I)V"⟩
abbrev cX1_invert : ByteArray := prog_3_method_8_code
def yX1_invert : MethodName := ⟨RX1, "invert", "()V"⟩
abbrev cX1_copyFrom : ByteArray := prog_3_method_9_code
def yX1_copyFrom : MethodName := ⟨RX1, "copyFrom", "(LClassBits$BitVector;)V"⟩
abbrev cX1_becomeJoined : ByteArray := prog_3_method_10_code
def yX1_becomeJoined : MethodName := ⟨RX1, "becomeJoined", "(ILClassBits$BitVector;LClassBits$BitVector;)V"⟩
abbrev cX1_joinedMask : ByteArray := prog_3_method_11_code
def yX1_joinedMask : MethodName := ⟨RX1, "joinedMask", "(III)I"⟩
abbrev cX1_onesAhead : ByteArray := prog_3_method_12_code
def yX1_onesAhead : MethodName := ⟨RX1, "onesAhead", "(I)I"⟩
abbrev cX1_countOnes : ByteArray := prog_3_method_13_code
def yX1_countOnes : MethodName := ⟨RX1, "countOnes", "()I"⟩
abbrev cX1_blockCount : ByteArray := prog_3_method_14_code
def yX1_blockCount : MethodName := ⟨RX1, "blockCount", "()I"⟩
abbrev cX1_entryCount : ByteArray := prog_3_method_15_code
def yX1_entryCount : MethodName := ⟨RX1, "entryCount", "()I"⟩
abbrev cX1_classOf : ByteArray := prog_3_method_16_code
def yX1_classOf : MethodName := ⟨RX1, "classOf", "(I)I"⟩
abbrev cX1_beginOf : ByteArray := prog_3_method_17_code
def yX1_beginOf : MethodName := ⟨RX1, "beginOf", "(I)I"⟩
abbrev cX1_payloadBits : ByteArray := prog_3_method_18_code
def yX1_payloadBits : MethodName := ⟨RX1, "payloadBits", "()I"⟩
abbrev cX1_payloadWord : ByteArray := prog_3_method_19_code
def yX1_payloadWord : MethodName := ⟨RX1, "payloadWord", "(I)J"⟩
def RX2 : String := "ClassBits$BurstsRun"
def TX2 : u_T := fun k => match k with
  | 0 => ("ClassBits$Run", "number", "I", true)
  | _ => ("ClassBits$Run", "length", "I", true)
def tyX2 : Nat → FieldType := fun k => match k with
  | 0 => .int
  | _ => .int
theorem nmX2 : ∀ a, a < 2 → ∀ b, b < 2 → a ≠ b → (TX2 a).2.1 ≠ (TX2 b).2.1 := by decide +kernel
theorem tyX2_ok : ∀ k, k < 2 → parseFieldDescriptor (TX2 k).2.2.1 = some (tyX2 k) := by decide +kernel
abbrev cX2_init : ByteArray := prog_4_method_1_code
def yX2_init : MethodName := ⟨RX2, "<init>", "(II)V"⟩
abbrev cX2_kindNumber : ByteArray := prog_4_method_2_code
def yX2_kindNumber : MethodName := ⟨RX2, "kindNumber", "()I"⟩
abbrev cX2_bitOf : ByteArray := prog_4_method_3_code
def yX2_bitOf : MethodName := ⟨RX2, "bitOf", "(I)I"⟩
abbrev cX2_tellSize : ByteArray := prog_4_method_4_code
def yX2_tellSize : MethodName := ⟨RX2, "tellSize", "(LClassBits$Trace;)I"⟩
def RX3 : String := "ClassBits$History"
def TX3 : u_T := fun k => match k with
  | 0 => ("ClassBits$History", "before", "[LClassBits$BitVector;", true)
  | 1 => ("ClassBits$History", "changed", "[I", true)
  | 2 => ("ClassBits$History", "oldest", "I", false)
  | _ => ("ClassBits$History", "held", "I", false)
def tyX3 : Nat → FieldType := fun k => match k with
  | 0 => .array (.object "ClassBits$BitVector")
  | 1 => .array .int
  | 2 => .int
  | _ => .int
theorem nmX3 : ∀ a, a < 4 → ∀ b, b < 4 → a ≠ b → (TX3 a).2.1 ≠ (TX3 b).2.1 := by decide +kernel
theorem tyX3_ok : ∀ k, k < 4 → parseFieldDescriptor (TX3 k).2.2.1 = some (tyX3 k) := by decide +kernel
abbrev cX3_init : ByteArray := prog_5_method_1_code
def yX3_init : MethodName := ⟨RX3, "<init>", "()V"⟩
abbrev cX3_keep : ByteArray := prog_5_method_2_code
def yX3_keep : MethodName := ⟨RX3, "keep", "(ILClassBits$BitVector;)V"⟩
abbrev cX3_giveBack : ByteArray := prog_5_method_3_code
def yX3_giveBack : MethodName := ⟨RX3, "giveBack", "([LClassBits$BitVector;)V"⟩
abbrev cX3_forgetAll : ByteArray := prog_5_method_4_code
def yX3_forgetAll : MethodName := ⟨RX3, "forgetAll", "()V"⟩
def RX4 : String := "ClassBits$OnesRun"
def TX4 : u_T := fun k => match k with
  | 0 => ("ClassBits$Run", "number", "I", true)
  | _ => ("ClassBits$Run", "length", "I", true)
def tyX4 : Nat → FieldType := fun k => match k with
  | 0 => .int
  | _ => .int
theorem nmX4 : ∀ a, a < 2 → ∀ b, b < 2 → a ≠ b → (TX4 a).2.1 ≠ (TX4 b).2.1 := by decide +kernel
theorem tyX4_ok : ∀ k, k < 2 → parseFieldDescriptor (TX4 k).2.2.1 = some (tyX4 k) := by decide +kernel
abbrev cX4_init : ByteArray := prog_6_method_1_code
def yX4_init : MethodName := ⟨RX4, "<init>", "(II)V"⟩
abbrev cX4_kindNumber : ByteArray := prog_6_method_2_code
def yX4_kindNumber : MethodName := ⟨RX4, "kindNumber", "()I"⟩
abbrev cX4_bitOf : ByteArray := prog_6_method_3_code
def yX4_bitOf : MethodName := ⟨RX4, "bitOf", "(I)I"⟩
abbrev cX4_tellSize : ByteArray := prog_6_method_4_code
def yX4_tellSize : MethodName := ⟨RX4, "tellSize", "(LClassBits$Trace;)I"⟩
abbrev cX4_tellMark : ByteArray := prog_6_method_5_code
def yX4_tellMark : MethodName := ⟨RX4, "tellMark", "(LClassBits$Trace;)I"⟩
def RX5 : String := "ClassBits$Row"
def TX5 : u_T := fun k => match k with
  | 0 => ("ClassBits$Row", "items", "[I", true)
  | 1 => ("ClassBits$Row", "missing", "Z", false)
  | 2 => ("ClassBits$Row", "lane", "I", false)
  | _ => ("ClassBits$Row", "length", "I", false)
def tyX5 : Nat → FieldType := fun k => match k with
  | 0 => .array .int
  | 1 => .boolean
  | 2 => .int
  | _ => .int
theorem nmX5 : ∀ a, a < 4 → ∀ b, b < 4 → a ≠ b → (TX5 a).2.1 ≠ (TX5 b).2.1 := by decide +kernel
theorem tyX5_ok : ∀ k, k < 4 → parseFieldDescriptor (TX5 k).2.2.1 = some (tyX5 k) := by decide +kernel
abbrev cX5_init : ByteArray := prog_7_method_1_code
def yX5_init : MethodName := ⟨RX5, "<init>", "()V"⟩
abbrev cX5_begin : ByteArray := prog_7_method_2_code
def yX5_begin : MethodName := ⟨RX5, "begin", "(II)V"⟩
abbrev cX5_store : ByteArray := prog_7_method_3_code
def yX5_store : MethodName := ⟨RX5, "store", "(II)V"⟩
abbrev cX5_hasPart : ByteArray := prog_7_method_4_code
def yX5_hasPart : MethodName := ⟨RX5, "hasPart", "(II)Z"⟩
abbrev cX5_tellsPlaces : ByteArray := prog_7_method_5_code
def yX5_tellsPlaces : MethodName := ⟨RX5, "tellsPlaces", "(II)Z"⟩
def RX6 : String := "ClassBits$Run"
def TX6 : u_T := fun k => match k with
  | _ => ("", "", "", false)
def tyX6 : Nat → FieldType := fun k => match k with
  | _ => .int
theorem nmX6 : ∀ a, a < 0 → ∀ b, b < 0 → a ≠ b → (TX6 a).2.1 ≠ (TX6 b).2.1 := by decide +kernel
theorem tyX6_ok : ∀ k, k < 0 → parseFieldDescriptor (TX6 k).2.2.1 = some (tyX6 k) := by decide +kernel
abbrev cX6_init : ByteArray := prog_8_method_1_code
def yX6_init : MethodName := ⟨RX6, "<init>", "(II)V"⟩
abbrev cX6_onesWithin : ByteArray := prog_8_method_4_code
def yX6_onesWithin : MethodName := ⟨RX6, "onesWithin", "()I"⟩
abbrev cX6_tellSize : ByteArray := prog_8_method_5_code
def yX6_tellSize : MethodName := ⟨RX6, "tellSize", "(LClassBits$Trace;)I"⟩
abbrev cX6_tellMark : ByteArray := prog_8_method_6_code
def yX6_tellMark : MethodName := ⟨RX6, "tellMark", "(LClassBits$Trace;)I"⟩
def RX7 : String := "ClassBits$TextReader"
def TX7 : u_T := fun k => match k with
  | 0 => ("ClassBits$TextReader", "tape", "[I", true)
  | 1 => ("ClassBits$TextReader", "kinds", "[I", true)
  | 2 => ("ClassBits$TextReader", "lengths", "[I", true)
  | 3 => ("ClassBits$TextReader", "tapeLength", "I", false)
  | 4 => ("ClassBits$TextReader", "place", "I", false)
  | 5 => ("ClassBits$TextReader", "runCount", "I", false)
  | 6 => ("ClassBits$TextReader", "bitSum", "I", false)
  | 7 => ("ClassBits$TextReader", "currentKind", "I", false)
  | _ => ("ClassBits$TextReader", "currentLength", "I", false)
def tyX7 : Nat → FieldType := fun k => match k with
  | 0 => .array .int
  | 1 => .array .int
  | 2 => .array .int
  | 3 => .int
  | 4 => .int
  | 5 => .int
  | 6 => .int
  | 7 => .int
  | _ => .int
theorem nmX7 : ∀ a, a < 9 → ∀ b, b < 9 → a ≠ b → (TX7 a).2.1 ≠ (TX7 b).2.1 := by decide +kernel
theorem tyX7_ok : ∀ k, k < 9 → parseFieldDescriptor (TX7 k).2.2.1 = some (tyX7 k) := by decide +kernel
abbrev cX7_init : ByteArray := prog_9_method_1_code
def yX7_init : MethodName := ⟨RX7, "<init>", "()V"⟩
abbrev cX7_hasRoom : ByteArray := prog_9_method_2_code
def yX7_hasRoom : MethodName := ⟨RX7, "hasRoom", "()Z"⟩
abbrev cX7_append : ByteArray := prog_9_method_3_code
def yX7_append : MethodName := ⟨RX7, "append", "(I)I"⟩
abbrev cX7_emptyTape : ByteArray := prog_9_method_4_code
def yX7_emptyTape : MethodName := ⟨RX7, "emptyTape", "()V"⟩
abbrev cX7_readTape : ByteArray := prog_9_method_5_code
def yX7_readTape : MethodName := ⟨RX7, "readTape", "()I"⟩
abbrev cX7_readRun : ByteArray := prog_9_method_6_code
def yX7_readRun : MethodName := ⟨RX7, "readRun", "()I"⟩
abbrev cX7_readSort : ByteArray := prog_9_method_7_code
def yX7_readSort : MethodName := ⟨RX7, "readSort", "()I"⟩
abbrev cX7_readNumber : ByteArray := prog_9_method_8_code
def yX7_readNumber : MethodName := ⟨RX7, "readNumber", "()I"⟩
abbrev cX7_readSemicolon : ByteArray := prog_9_method_9_code
def yX7_readSemicolon : MethodName := ⟨RX7, "readSemicolon", "()I"⟩
abbrev cX7_byteAt : ByteArray := prog_9_method_10_code
def yX7_byteAt : MethodName := ⟨RX7, "byteAt", "(I)I"⟩
abbrev cX7_isFigure : ByteArray := prog_9_method_11_code
def yX7_isFigure : MethodName := ⟨RX7, "isFigure", "(I)Z"⟩
abbrev cX7_kindOfLetter : ByteArray := prog_9_method_12_code
def yX7_kindOfLetter : MethodName := ⟨RX7, "kindOfLetter", "(I)I"⟩
def RX8 : String := "ClassBits$ThirdsRun"
def TX8 : u_T := fun k => match k with
  | 0 => ("ClassBits$Run", "number", "I", true)
  | _ => ("ClassBits$Run", "length", "I", true)
def tyX8 : Nat → FieldType := fun k => match k with
  | 0 => .int
  | _ => .int
theorem nmX8 : ∀ a, a < 2 → ∀ b, b < 2 → a ≠ b → (TX8 a).2.1 ≠ (TX8 b).2.1 := by decide +kernel
theorem tyX8_ok : ∀ k, k < 2 → parseFieldDescriptor (TX8 k).2.2.1 = some (tyX8 k) := by decide +kernel
abbrev cX8_init : ByteArray := prog_10_method_1_code
def yX8_init : MethodName := ⟨RX8, "<init>", "(II)V"⟩
abbrev cX8_kindNumber : ByteArray := prog_10_method_2_code
def yX8_kindNumber : MethodName := ⟨RX8, "kindNumber", "()I"⟩
abbrev cX8_bitOf : ByteArray := prog_10_method_3_code
def yX8_bitOf : MethodName := ⟨RX8, "bitOf", "(I)I"⟩
abbrev cX8_tellMark : ByteArray := prog_10_method_4_code
def yX8_tellMark : MethodName := ⟨RX8, "tellMark", "(LClassBits$Trace;)I"⟩
def RX9 : String := "ClassBits$Trace"
def TX9 : u_T := fun k => match k with
  | 0 => ("ClassBits$Trace", "numbers", "[I", true)
  | _ => ("ClassBits$Trace", "held", "I", false)
def tyX9 : Nat → FieldType := fun k => match k with
  | 0 => .array .int
  | _ => .int
theorem nmX9 : ∀ a, a < 2 → ∀ b, b < 2 → a ≠ b → (TX9 a).2.1 ≠ (TX9 b).2.1 := by decide +kernel
theorem tyX9_ok : ∀ k, k < 2 → parseFieldDescriptor (TX9 k).2.2.1 = some (tyX9 k) := by decide +kernel
abbrev cX9_init : ByteArray := prog_11_method_1_code
def yX9_init : MethodName := ⟨RX9, "<init>", "()V"⟩
abbrev cX9_note : ByteArray := prog_11_method_2_code
def yX9_note : MethodName := ⟨RX9, "note", "(I)V"⟩
def RX10 : String := "ClassBits$ZerosRun"
def TX10 : u_T := fun k => match k with
  | 0 => ("ClassBits$Run", "number", "I", true)
  | _ => ("ClassBits$Run", "length", "I", true)
def tyX10 : Nat → FieldType := fun k => match k with
  | 0 => .int
  | _ => .int
theorem nmX10 : ∀ a, a < 2 → ∀ b, b < 2 → a ≠ b → (TX10 a).2.1 ≠ (TX10 b).2.1 := by decide +kernel
theorem tyX10_ok : ∀ k, k < 2 → parseFieldDescriptor (TX10 k).2.2.1 = some (tyX10 k) := by decide +kernel
abbrev cX10_init : ByteArray := prog_12_method_1_code
def yX10_init : MethodName := ⟨RX10, "<init>", "(II)V"⟩
abbrev cX10_kindNumber : ByteArray := prog_12_method_2_code
def yX10_kindNumber : MethodName := ⟨RX10, "kindNumber", "()I"⟩
abbrev cX10_bitOf : ByteArray := prog_12_method_3_code
def yX10_bitOf : MethodName := ⟨RX10, "bitOf", "(I)I"⟩
abbrev cX10_tellSize : ByteArray := prog_12_method_4_code
def yX10_tellSize : MethodName := ⟨RX10, "tellSize", "(LClassBits$Trace;)I"⟩
abbrev cX10_tellMark : ByteArray := prog_12_method_5_code
def yX10_tellMark : MethodName := ⟨RX10, "tellMark", "(LClassBits$Trace;)I"⟩
def RX11 : String := "ClassBits"
def TX11 : u_T := fun k => match k with
  | 0 => ("ClassBits", "rows", "[LClassBits$Row;", true)
  | 1 => ("ClassBits", "vectors", "[LClassBits$BitVector;", true)
  | 2 => ("ClassBits", "images", "[LClassBits$BitVector;", true)
  | 3 => ("ClassBits", "imageKept", "[Z", true)
  | 4 => ("ClassBits", "scratch", "LClassBits$BitVector;", true)
  | 5 => ("ClassBits", "history", "LClassBits$History;", true)
  | 6 => ("ClassBits", "reader", "LClassBits$TextReader;", true)
  | 7 => ("ClassBits", "runs", "[LClassBits$Run;", true)
  | 8 => ("ClassBits", "asked", "LClassBits$Trace;", true)
  | 9 => ("ClassBits", "runCount", "I", false)
  | 10 => ("ClassBits", "latestFault", "I", false)
  | _ => ("ClassBits", "latestFinding", "I", false)
def tyX11 : Nat → FieldType := fun k => match k with
  | 0 => .array (.object "ClassBits$Row")
  | 1 => .array (.object "ClassBits$BitVector")
  | 2 => .array (.object "ClassBits$BitVector")
  | 3 => .array .boolean
  | 4 => .object "ClassBits$BitVector"
  | 5 => .object "ClassBits$History"
  | 6 => .object "ClassBits$TextReader"
  | 7 => .array (.object "ClassBits$Run")
  | 8 => .object "ClassBits$Trace"
  | 9 => .int
  | 10 => .int
  | _ => .int
theorem nmX11 : ∀ a, a < 12 → ∀ b, b < 12 → a ≠ b → (TX11 a).2.1 ≠ (TX11 b).2.1 := by decide +kernel
theorem tyX11_ok : ∀ k, k < 12 → parseFieldDescriptor (TX11 k).2.2.1 = some (tyX11 k) := by decide +kernel
abbrev cX11_init : ByteArray := prog_1_method_1_code
def yX11_init : MethodName := ⟨RX11, "<init>", "()V"⟩
abbrev cX11_row : ByteArray := prog_1_method_2_code
def yX11_row : MethodName := ⟨RX11, "row", "(III)I"⟩
abbrev cX11_set : ByteArray := prog_1_method_3_code
def yX11_set : MethodName := ⟨RX11, "set", "(III)I"⟩
abbrev cX11_copy : ByteArray := prog_1_method_4_code
def yX11_copy : MethodName := ⟨RX11, "copy", "(IIIII)I"⟩
abbrev cX11_drop : ByteArray := prog_1_method_5_code
def yX11_drop : MethodName := ⟨RX11, "drop", "(I)I"⟩
abbrev cX11_feed : ByteArray := prog_1_method_6_code
def yX11_feed : MethodName := ⟨RX11, "feed", "(I)I"⟩
abbrev cX11_load : ByteArray := prog_1_method_7_code
def yX11_load : MethodName := ⟨RX11, "load", "(I)I"⟩
abbrev cX11_fault : ByteArray := prog_1_method_8_code
def yX11_fault : MethodName := ⟨RX11, "fault", "()I"⟩
abbrev cX11_put : ByteArray := prog_1_method_9_code
def yX11_put : MethodName := ⟨RX11, "put", "(III)I"⟩
abbrev cX11_add : ByteArray := prog_1_method_10_code
def yX11_add : MethodName := ⟨RX11, "add", "(III)I"⟩
abbrev cX11_cut : ByteArray := prog_1_method_11_code
def yX11_cut : MethodName := ⟨RX11, "cut", "(II)I"⟩
abbrev cX11_join : ByteArray := prog_1_method_12_code
def yX11_join : MethodName := ⟨RX11, "join", "(IIII)I"⟩
abbrev cX11_turn : ByteArray := prog_1_method_13_code
def yX11_turn : MethodName := ⟨RX11, "turn", "(I)I"⟩
abbrev cX11_take : ByteArray := prog_1_method_14_code
def yX11_take : MethodName := ⟨RX11, "take", "(IIII)I"⟩
abbrev cX11_undo : ByteArray := prog_1_method_15_code
def yX11_undo : MethodName := ⟨RX11, "undo", "()I"⟩
abbrev cX11_bits : ByteArray := prog_1_method_16_code
def yX11_bits : MethodName := ⟨RX11, "bits", "(I)I"⟩
abbrev cX11_get : ByteArray := prog_1_method_17_code
def yX11_get : MethodName := ⟨RX11, "get", "(II)I"⟩
abbrev cX11_ones : ByteArray := prog_1_method_18_code
def yX11_ones : MethodName := ⟨RX11, "ones", "(I)I"⟩
abbrev cX11_block : ByteArray := prog_1_method_19_code
def yX11_block : MethodName := ⟨RX11, "block", "(III)I"⟩
abbrev cX11_entry : ByteArray := prog_1_method_20_code
def yX11_entry : MethodName := ⟨RX11, "entry", "(III)I"⟩
abbrev cX11_size : ByteArray := prog_1_method_21_code
def yX11_size : MethodName := ⟨RX11, "size", "(II)I"⟩
abbrev cX11_payload : ByteArray := prog_1_method_22_code
def yX11_payload : MethodName := ⟨RX11, "payload", "(II)J"⟩
abbrev cX11_choose : ByteArray := prog_1_method_23_code
def yX11_choose : MethodName := ⟨RX11, "choose", "(II)I"⟩
abbrev cX11_offset : ByteArray := prog_1_method_24_code
def yX11_offset : MethodName := ⟨RX11, "offset", "(I)I"⟩
abbrev cX11_mask : ByteArray := prog_1_method_25_code
def yX11_mask : MethodName := ⟨RX11, "mask", "(II)I"⟩
abbrev cX11_rank : ByteArray := prog_1_method_26_code
def yX11_rank : MethodName := ⟨RX11, "rank", "(III)I"⟩
abbrev cX11_select : ByteArray := prog_1_method_27_code
def yX11_select : MethodName := ⟨RX11, "select", "(III)I"⟩
abbrev cX11_next : ByteArray := prog_1_method_28_code
def yX11_next : MethodName := ⟨RX11, "next", "(III)I"⟩
abbrev cX11_last : ByteArray := prog_1_method_29_code
def yX11_last : MethodName := ⟨RX11, "last", "(III)I"⟩
abbrev cX11_stretches : ByteArray := prog_1_method_30_code
def yX11_stretches : MethodName := ⟨RX11, "stretches", "(I)I"⟩
abbrev cX11_longest : ByteArray := prog_1_method_31_code
def yX11_longest : MethodName := ⟨RX11, "longest", "(III)I"⟩
abbrev cX11_alike : ByteArray := prog_1_method_32_code
def yX11_alike : MethodName := ⟨RX11, "alike", "(III)I"⟩
abbrev cX11_weight : ByteArray := prog_1_method_33_code
def yX11_weight : MethodName := ⟨RX11, "weight", "(II)I"⟩
abbrev cX11_tell : ByteArray := prog_1_method_34_code
def yX11_tell : MethodName := ⟨RX11, "tell", "(IIII)I"⟩
abbrev cX11_drawn : ByteArray := prog_1_method_35_code
def yX11_drawn : MethodName := ⟨RX11, "drawn", "(IIII)I"⟩
abbrev cX11_image : ByteArray := prog_1_method_36_code
def yX11_image : MethodName := ⟨RX11, "image", "(I)I"⟩
abbrev cX11_restore : ByteArray := prog_1_method_37_code
def yX11_restore : MethodName := ⟨RX11, "restore", "(I)I"⟩
abbrev cX11_kind : ByteArray := prog_1_method_38_code
def yX11_kind : MethodName := ⟨RX11, "kind", "(I)I"⟩
abbrev cX11_as : ByteArray := prog_1_method_39_code
def yX11_as : MethodName := ⟨RX11, "as", "(II)I"⟩
abbrev cX11_ask : ByteArray := prog_1_method_40_code
def yX11_ask : MethodName := ⟨RX11, "ask", "(II)I"⟩
abbrev cX11_trace : ByteArray := prog_1_method_41_code
def yX11_trace : MethodName := ⟨RX11, "trace", "(I)I"⟩
abbrev cX11_count : ByteArray := prog_1_method_42_code
def yX11_count : MethodName := ⟨RX11, "count", "(I)I"⟩
abbrev cX11_status : ByteArray := prog_1_method_43_code
def yX11_status : MethodName := ⟨RX11, "status", "()I"⟩
abbrev cX11_isRow : ByteArray := prog_1_method_44_code
def yX11_isRow : MethodName := ⟨RX11, "isRow", "(I)Z"⟩
abbrev cX11_isVector : ByteArray := prog_1_method_45_code
def yX11_isVector : MethodName := ⟨RX11, "isVector", "(I)Z"⟩
abbrev cX11_isValue : ByteArray := prog_1_method_46_code
def yX11_isValue : MethodName := ⟨RX11, "isValue", "(I)Z"⟩
abbrev cX11_isInt : ByteArray := prog_1_method_47_code
def yX11_isInt : MethodName := ⟨RX11, "isInt", "(J)Z"⟩
abbrev cX11_isPlaceOrEnd : ByteArray := prog_1_method_48_code
def yX11_isPlaceOrEnd : MethodName := ⟨RX11, "isPlaceOrEnd", "(II)Z"⟩
abbrev cX11_isRun : ByteArray := prog_1_method_49_code
def yX11_isRun : MethodName := ⟨RX11, "isRun", "(I)Z"⟩
abbrev cX11_found : ByteArray := prog_1_method_50_code
def yX11_found : MethodName := ⟨RX11, "found", "(I)I"⟩
abbrev cX11_fine : ByteArray := prog_1_method_51_code
def yX11_fine : MethodName := ⟨RX11, "fine", "(I)I"⟩
abbrev cX11_vectorToChange : ByteArray := prog_1_method_52_code
def yX11_vectorToChange : MethodName := ⟨RX11, "vectorToChange", "(I)LClassBits$BitVector;"⟩
abbrev cX11_takeOverRuns : ByteArray := prog_1_method_53_code
def yX11_takeOverRuns : MethodName := ⟨RX11, "takeOverRuns", "()V"⟩
abbrev cX11_rowsThatAreThere : ByteArray := prog_1_method_54_code
def yX11_rowsThatAreThere : MethodName := ⟨RX11, "rowsThatAreThere", "()I"⟩
abbrev cX11_bitsOfAll : ByteArray := prog_1_method_55_code
def yX11_bitsOfAll : MethodName := ⟨RX11, "bitsOfAll", "()I"⟩
abbrev cX11_onesOfAll : ByteArray := prog_1_method_56_code
def yX11_onesOfAll : MethodName := ⟨RX11, "onesOfAll", "()I"⟩
abbrev cX11_choices : ByteArray := prog_1_method_57_code
def yX11_choices : MethodName := ⟨RX11, "choices", "(II)I"⟩
abbrev cX11_offsetOf : ByteArray := prog_1_method_58_code
def yX11_offsetOf : MethodName := ⟨RX11, "offsetOf", "(I)I"⟩
abbrev cX11_maskOf : ByteArray := prog_1_method_59_code
def yX11_maskOf : MethodName := ⟨RX11, "maskOf", "(II)I"⟩
abbrev cX11_firstPlaces : ByteArray := prog_1_method_60_code
def yX11_firstPlaces : MethodName := ⟨RX11, "firstPlaces", "(I)I"⟩
abbrev cX11_commonDivisor : ByteArray := prog_1_method_61_code
def yX11_commonDivisor : MethodName := ⟨RX11, "commonDivisor", "(II)I"⟩
abbrev cX11_newRun : ByteArray := prog_1_method_62_code
def yX11_newRun : MethodName := ⟨RX11, "newRun", "(III)LClassBits$Run;"⟩
abbrev cX11_isOfKind : ByteArray := prog_1_method_63_code
def yX11_isOfKind : MethodName := ⟨RX11, "isOfKind", "(LClassBits$Run;I)Z"⟩
def RX12 : String := "ClassBitsModel"
def TX12 : u_T := fun k => match k with
  | 0 => ("ClassBitsModel", "lane", "[I", true)
  | 1 => ("ClassBitsModel", "many", "[I", true)
  | 2 => ("ClassBitsModel", "items", "[I", true)
  | 3 => ("ClassBitsModel", "spare", "[I", true)
  | 4 => ("ClassBitsModel", "status", "I", false)
  | 5 => ("ClassBitsModel", "tape", "[I", true)
  | 6 => ("ClassBitsModel", "taped", "I", false)
  | 7 => ("ClassBitsModel", "faultKind", "I", false)
  | 8 => ("ClassBitsModel", "faultPlace", "I", false)
  | 9 => ("ClassBitsModel", "at", "I", false)
  | 10 => ("ClassBitsModel", "start", "I", false)
  | 11 => ("ClassBitsModel", "token", "I", false)
  | 12 => ("ClassBitsModel", "value", "I", false)
  | 13 => ("ClassBitsModel", "now", "[I", true)
  | 14 => ("ClassBitsModel", "tried", "[I", true)
  | 15 => ("ClassBitsModel", "past", "[I", true)
  | 16 => ("ClassBitsModel", "acts", "I", false)
  | 17 => ("ClassBitsModel", "images", "[I", true)
  | 18 => ("ClassBitsModel", "kept", "[Z", true)
  | 19 => ("ClassBitsModel", "runs", "I", false)
  | 20 => ("ClassBitsModel", "kinds", "[I", true)
  | 21 => ("ClassBitsModel", "length", "[I", true)
  | 22 => ("ClassBitsModel", "some", "I", false)
  | 23 => ("ClassBitsModel", "someKinds", "[I", true)
  | 24 => ("ClassBitsModel", "someLength", "[I", true)
  | 25 => ("ClassBitsModel", "chosen", "[I", true)
  | 26 => ("ClassBitsModel", "trace", "[I", true)
  | _ => ("ClassBitsModel", "traced", "I", false)
def tyX12 : Nat → FieldType := fun k => match k with
  | 0 => .array .int
  | 1 => .array .int
  | 2 => .array .int
  | 3 => .array .int
  | 4 => .int
  | 5 => .array .int
  | 6 => .int
  | 7 => .int
  | 8 => .int
  | 9 => .int
  | 10 => .int
  | 11 => .int
  | 12 => .int
  | 13 => .array .int
  | 14 => .array .int
  | 15 => .array .int
  | 16 => .int
  | 17 => .array .int
  | 18 => .array .boolean
  | 19 => .int
  | 20 => .array .int
  | 21 => .array .int
  | 22 => .int
  | 23 => .array .int
  | 24 => .array .int
  | 25 => .array .int
  | 26 => .array .int
  | _ => .int
theorem nmX12 : ∀ a, a < 28 → ∀ b, b < 28 → a ≠ b → (TX12 a).2.1 ≠ (TX12 b).2.1 := by decide +kernel
theorem tyX12_ok : ∀ k, k < 28 → parseFieldDescriptor (TX12 k).2.2.1 = some (tyX12 k) := by decide +kernel
abbrev cX12_init : ByteArray := prog_14_method_1_code
def yX12_init : MethodName := ⟨RX12, "<init>", "()V"⟩
abbrev cX12_in : ByteArray := prog_14_method_3_code
def yX12_in : MethodName := ⟨RX12, "in", "(III)Z"⟩
abbrev cX12_found : ByteArray := prog_14_method_4_code
def yX12_found : MethodName := ⟨RX12, "found", "(I)I"⟩
abbrev cX12_well : ByteArray := prog_14_method_5_code
def yX12_well : MethodName := ⟨RX12, "well", "(I)I"⟩
abbrev cX12_copies : ByteArray := prog_14_method_6_code
def yX12_copies : MethodName := ⟨RX12, "copies", "([II[II)V"⟩
abbrev cX12_isRow : ByteArray := prog_14_method_7_code
def yX12_isRow : MethodName := ⟨RX12, "isRow", "(I)Z"⟩
abbrev cX12_isMissing : ByteArray := prog_14_method_8_code
def yX12_isMissing : MethodName := ⟨RX12, "isMissing", "(I)Z"⟩
abbrev cX12_lowest : ByteArray := prog_14_method_9_code
def yX12_lowest : MethodName := ⟨RX12, "lowest", "(II)I"⟩
abbrev cX12_row : ByteArray := prog_14_method_10_code
def yX12_row : MethodName := ⟨RX12, "row", "(III)I"⟩
abbrev cX12_set : ByteArray := prog_14_method_11_code
def yX12_set : MethodName := ⟨RX12, "set", "(III)I"⟩
abbrev cX12_isPart : ByteArray := prog_14_method_12_code
def yX12_isPart : MethodName := ⟨RX12, "isPart", "(III)Z"⟩
abbrev cX12_copy : ByteArray := prog_14_method_13_code
def yX12_copy : MethodName := ⟨RX12, "copy", "(IIIII)I"⟩
abbrev cX12_drop : ByteArray := prog_14_method_14_code
def yX12_drop : MethodName := ⟨RX12, "drop", "(I)I"⟩
abbrev cX12_feed : ByteArray := prog_14_method_15_code
def yX12_feed : MethodName := ⟨RX12, "feed", "(I)I"⟩
abbrev cX12_byteAt : ByteArray := prog_14_method_16_code
def yX12_byteAt : MethodName := ⟨RX12, "byteAt", "(I)I"⟩
abbrev cX12_advances : ByteArray := prog_14_method_17_code
def yX12_advances : MethodName := ⟨RX12, "advances", "()V"⟩
abbrev cX12_isWell : ByteArray := prog_14_method_18_code
def yX12_isWell : MethodName := ⟨RX12, "isWell", "()Z"⟩
abbrev cX12_takes : ByteArray := prog_14_method_19_code
def yX12_takes : MethodName := ⟨RX12, "takes", "(ZI)I"⟩
abbrev cX12_figure : ByteArray := prog_14_method_20_code
def yX12_figure : MethodName := ⟨RX12, "figure", "(II)I"⟩
abbrev cX12_kindOf : ByteArray := prog_14_method_21_code
def yX12_kindOf : MethodName := ⟨RX12, "kindOf", "(I)I"⟩
abbrev cX12_longer : ByteArray := prog_14_method_22_code
def yX12_longer : MethodName := ⟨RX12, "longer", "(I)I"⟩
abbrev cX12_bitOf : ByteArray := prog_14_method_23_code
def yX12_bitOf : MethodName := ⟨RX12, "bitOf", "(II)I"⟩
abbrev cX12_load : ByteArray := prog_14_method_24_code
def yX12_load : MethodName := ⟨RX12, "load", "(I)I"⟩
abbrev cX12_fault : ByteArray := prog_14_method_25_code
def yX12_fault : MethodName := ⟨RX12, "fault", "()I"⟩
abbrev cX12_isVector : ByteArray := prog_14_method_26_code
def yX12_isVector : MethodName := ⟨RX12, "isVector", "(I)Z"⟩
abbrev cX12_isValue : ByteArray := prog_14_method_27_code
def yX12_isValue : MethodName := ⟨RX12, "isValue", "(I)Z"⟩
abbrev cX12_bitsOf : ByteArray := prog_14_method_28_code
def yX12_bitsOf : MethodName := ⟨RX12, "bitsOf", "(I)I"⟩
abbrev cX12_bit : ByteArray := prog_14_method_29_code
def yX12_bit : MethodName := ⟨RX12, "bit", "([III)I"⟩
abbrev cX12_puts : ByteArray := prog_14_method_30_code
def yX12_puts : MethodName := ⟨RX12, "puts", "([IIII)V"⟩
abbrev cX12_empties : ByteArray := prog_14_method_31_code
def yX12_empties : MethodName := ⟨RX12, "empties", "(II)V"⟩
abbrev cX12_appends : ByteArray := prog_14_method_32_code
def yX12_appends : MethodName := ⟨RX12, "appends", "(II)V"⟩
abbrev cX12_onesAhead : ByteArray := prog_14_method_33_code
def yX12_onesAhead : MethodName := ⟨RX12, "onesAhead", "([III)I"⟩
abbrev cX12_allOnes : ByteArray := prog_14_method_34_code
def yX12_allOnes : MethodName := ⟨RX12, "allOnes", "(I)I"⟩
abbrev cX12_notes : ByteArray := prog_14_method_35_code
def yX12_notes : MethodName := ⟨RX12, "notes", "()V"⟩
abbrev cX12_isBit : ByteArray := prog_14_method_36_code
def yX12_isBit : MethodName := ⟨RX12, "isBit", "(II)Z"⟩
abbrev cX12_put : ByteArray := prog_14_method_37_code
def yX12_put : MethodName := ⟨RX12, "put", "(III)I"⟩
abbrev cX12_add : ByteArray := prog_14_method_38_code
def yX12_add : MethodName := ⟨RX12, "add", "(III)I"⟩
abbrev cX12_cut : ByteArray := prog_14_method_39_code
def yX12_cut : MethodName := ⟨RX12, "cut", "(II)I"⟩
abbrev cX12_join : ByteArray := prog_14_method_40_code
def yX12_join : MethodName := ⟨RX12, "join", "(IIII)I"⟩
abbrev cX12_turn : ByteArray := prog_14_method_41_code
def yX12_turn : MethodName := ⟨RX12, "turn", "(I)I"⟩
abbrev cX12_take : ByteArray := prog_14_method_42_code
def yX12_take : MethodName := ⟨RX12, "take", "(IIII)I"⟩
abbrev cX12_undo : ByteArray := prog_14_method_43_code
def yX12_undo : MethodName := ⟨RX12, "undo", "()I"⟩
abbrev cX12_bits : ByteArray := prog_14_method_44_code
def yX12_bits : MethodName := ⟨RX12, "bits", "(I)I"⟩
abbrev cX12_get : ByteArray := prog_14_method_45_code
def yX12_get : MethodName := ⟨RX12, "get", "(II)I"⟩
abbrev cX12_ones : ByteArray := prog_14_method_46_code
def yX12_ones : MethodName := ⟨RX12, "ones", "(I)I"⟩
abbrev cX12_blocks : ByteArray := prog_14_method_47_code
def yX12_blocks : MethodName := ⟨RX12, "blocks", "([II)I"⟩
abbrev cX12_sortOf : ByteArray := prog_14_method_48_code
def yX12_sortOf : MethodName := ⟨RX12, "sortOf", "(I)I"⟩
abbrev cX12_offsetOf : ByteArray := prog_14_method_49_code
def yX12_offsetOf : MethodName := ⟨RX12, "offsetOf", "(I)I"⟩
abbrev cX12_widthOf : ByteArray := prog_14_method_50_code
def yX12_widthOf : MethodName := ⟨RX12, "widthOf", "(I)I"⟩
abbrev cX12_begins : ByteArray := prog_14_method_51_code
def yX12_begins : MethodName := ⟨RX12, "begins", "([III)I"⟩
abbrev cX12_block : ByteArray := prog_14_method_52_code
def yX12_block : MethodName := ⟨RX12, "block", "(III)I"⟩
abbrev cX12_entry : ByteArray := prog_14_method_53_code
def yX12_entry : MethodName := ⟨RX12, "entry", "(III)I"⟩
abbrev cX12_size : ByteArray := prog_14_method_54_code
def yX12_size : MethodName := ⟨RX12, "size", "(II)I"⟩
abbrev cX12_payload : ByteArray := prog_14_method_55_code
def yX12_payload : MethodName := ⟨RX12, "payload", "(II)J"⟩
abbrev cX12_choose : ByteArray := prog_14_method_56_code
def yX12_choose : MethodName := ⟨RX12, "choose", "(II)I"⟩
abbrev cX12_offset : ByteArray := prog_14_method_57_code
def yX12_offset : MethodName := ⟨RX12, "offset", "(I)I"⟩
abbrev cX12_mask : ByteArray := prog_14_method_58_code
def yX12_mask : MethodName := ⟨RX12, "mask", "(II)I"⟩
abbrev cX12_isPlace : ByteArray := prog_14_method_59_code
def yX12_isPlace : MethodName := ⟨RX12, "isPlace", "(II)Z"⟩
abbrev cX12_rank : ByteArray := prog_14_method_60_code
def yX12_rank : MethodName := ⟨RX12, "rank", "(III)I"⟩
abbrev cX12_select : ByteArray := prog_14_method_61_code
def yX12_select : MethodName := ⟨RX12, "select", "(III)I"⟩
abbrev cX12_next : ByteArray := prog_14_method_62_code
def yX12_next : MethodName := ⟨RX12, "next", "(III)I"⟩
abbrev cX12_last : ByteArray := prog_14_method_63_code
def yX12_last : MethodName := ⟨RX12, "last", "(III)I"⟩
abbrev cX12_stretches : ByteArray := prog_14_method_64_code
def yX12_stretches : MethodName := ⟨RX12, "stretches", "(I)I"⟩
abbrev cX12_longest : ByteArray := prog_14_method_65_code
def yX12_longest : MethodName := ⟨RX12, "longest", "(III)I"⟩
abbrev cX12_alike : ByteArray := prog_14_method_66_code
def yX12_alike : MethodName := ⟨RX12, "alike", "(III)I"⟩
abbrev cX12_isInt : ByteArray := prog_14_method_67_code
def yX12_isInt : MethodName := ⟨RX12, "isInt", "(J)Z"⟩
abbrev cX12_weight : ByteArray := prog_14_method_68_code
def yX12_weight : MethodName := ⟨RX12, "weight", "(II)I"⟩
abbrev cX12_tell : ByteArray := prog_14_method_69_code
def yX12_tell : MethodName := ⟨RX12, "tell", "(IIII)I"⟩
abbrev cX12_drawn : ByteArray := prog_14_method_70_code
def yX12_drawn : MethodName := ⟨RX12, "drawn", "(IIII)I"⟩
abbrev cX12_onesOfAll : ByteArray := prog_14_method_71_code
def yX12_onesOfAll : MethodName := ⟨RX12, "onesOfAll", "()I"⟩
abbrev cX12_image : ByteArray := prog_14_method_72_code
def yX12_image : MethodName := ⟨RX12, "image", "(I)I"⟩
abbrev cX12_restore : ByteArray := prog_14_method_73_code
def yX12_restore : MethodName := ⟨RX12, "restore", "(I)I"⟩
abbrev cX12_isRun : ByteArray := prog_14_method_74_code
def yX12_isRun : MethodName := ⟨RX12, "isRun", "(I)Z"⟩
abbrev cX12_kindIn : ByteArray := prog_14_method_75_code
def yX12_kindIn : MethodName := ⟨RX12, "kindIn", "(I)I"⟩
abbrev cX12_onesOf : ByteArray := prog_14_method_76_code
def yX12_onesOf : MethodName := ⟨RX12, "onesOf", "(I)I"⟩
abbrev cX12_kind : ByteArray := prog_14_method_77_code
def yX12_kind : MethodName := ⟨RX12, "kind", "(I)I"⟩
abbrev cX12_as : ByteArray := prog_14_method_78_code
def yX12_as : MethodName := ⟨RX12, "as", "(II)I"⟩
abbrev cX12_traces : ByteArray := prog_14_method_79_code
def yX12_traces : MethodName := ⟨RX12, "traces", "(I)V"⟩
abbrev cX12_zerosMark : ByteArray := prog_14_method_80_code
def yX12_zerosMark : MethodName := ⟨RX12, "zerosMark", "(I)I"⟩
abbrev cX12_alternateSize : ByteArray := prog_14_method_81_code
def yX12_alternateSize : MethodName := ⟨RX12, "alternateSize", "(I)I"⟩
abbrev cX12_zerosSize : ByteArray := prog_14_method_82_code
def yX12_zerosSize : MethodName := ⟨RX12, "zerosSize", "(I)I"⟩
abbrev cX12_alternateMark : ByteArray := prog_14_method_83_code
def yX12_alternateMark : MethodName := ⟨RX12, "alternateMark", "(I)I"⟩
abbrev cX12_ask : ByteArray := prog_14_method_84_code
def yX12_ask : MethodName := ⟨RX12, "ask", "(II)I"⟩
abbrev cX12_trace : ByteArray := prog_14_method_85_code
def yX12_trace : MethodName := ⟨RX12, "trace", "(I)I"⟩
abbrev cX12_count : ByteArray := prog_14_method_86_code
def yX12_count : MethodName := ⟨RX12, "count", "(I)I"⟩
abbrev cX12_status : ByteArray := prog_14_method_87_code
def yX12_status : MethodName := ⟨RX12, "status", "()I"⟩
def RJ6 : String := "java/lang/Integer"
def TJ6 : u_T := fun k => match k with
  | _ => ("", "", "", false)
def tyJ6 : Nat → FieldType := fun k => match k with
  | _ => .int
theorem nmJ6 : ∀ a, a < 0 → ∀ b, b < 0 → a ≠ b → (TJ6 a).2.1 ≠ (TJ6 b).2.1 := by decide +kernel
theorem tyJ6_ok : ∀ k, k < 0 → parseFieldDescriptor (TJ6 k).2.2.1 = some (tyJ6 k) := by decide +kernel
abbrev cJ6_bitCount_0f7a4 : ByteArray := prog_15_method_49_code
def yJ6_bitCount_0f7a4 : MethodName := ⟨RJ6, "bitCount", "(I)I"⟩
def RJ9 : String := "java/lang/Math"
def TJ9 : u_T := fun k => match k with
  | _ => ("", "", "", false)
def tyJ9 : Nat → FieldType := fun k => match k with
  | _ => .int
theorem nmJ9 : ∀ a, a < 0 → ∀ b, b < 0 → a ≠ b → (TJ9 a).2.1 ≠ (TJ9 b).2.1 := by decide +kernel
theorem tyJ9_ok : ∀ k, k < 0 → parseFieldDescriptor (TJ9 k).2.2.1 = some (tyJ9 k) := by decide +kernel
abbrev cJ9_max_7cf53 : ByteArray := prog_16_method_65_code
def yJ9_max_7cf53 : MethodName := ⟨RJ9, "max", "(II)I"⟩
abbrev cJ9_min_7cf53 : ByteArray := prog_16_method_69_code
def yJ9_min_7cf53 : MethodName := ⟨RJ9, "min", "(II)I"⟩
def RJ10 : String := "java/lang/System"
def TJ10 : u_T := fun k => match k with
  | _ => ("", "", "", false)
def tyJ10 : Nat → FieldType := fun k => match k with
  | _ => .int
theorem nmJ10 : ∀ a, a < 0 → ∀ b, b < 0 → a ≠ b → (TJ10 a).2.1 ≠ (TJ10 b).2.1 := by decide +kernel
theorem tyJ10_ok : ∀ k, k < 0 → parseFieldDescriptor (TJ10 k).2.2.1 = some (tyJ10 k) := by decide +kernel
def RJ7 : String := "java/util/Arrays"
def TJ7 : u_T := fun k => match k with
  | _ => ("", "", "", false)
def tyJ7 : Nat → FieldType := fun k => match k with
  | _ => .int
theorem nmJ7 : ∀ a, a < 0 → ∀ b, b < 0 → a ≠ b → (TJ7 a).2.1 ≠ (TJ7 b).2.1 := by decide +kernel
theorem tyJ7_ok : ∀ k, k < 0 → parseFieldDescriptor (TJ7 k).2.2.1 = some (tyJ7 k) := by decide +kernel
abbrev cJ7_fill_53178 : ByteArray := prog_18_method_103_code
def yJ7_fill_53178 : MethodName := ⟨RJ7, "fill", "([II)V"⟩
def RL : String := "ClassBitsLaw"
abbrev cL_law : ByteArray := code
def yL_law : MethodName := ⟨RL, "law", "([I)Z"⟩
abbrev vwCl : List vw_C := [(RX0, TX0, 2), (RX1, TX1, 2), (RX2, TX2, 2), (RX3, TX3, 4), (RX4, TX4, 2), (RX5, TX5, 4), (RX7, TX7, 9), (RX8, TX8, 2), (RX9, TX9, 2), (RX10, TX10, 2), (RX11, TX11, 12), (RX12, TX12, 28)]
end
section
def lw_gd : List Cond := lw_tbl.filter goodWord
theorem x_gdT {w : Cond} (h : w ∈ lw_gd) : w ∈ lw_tbl := (List.mem_filter.mp h).1
theorem x_gdG {w : Cond} (h : w ∈ lw_gd) : goodWord w = true := (List.mem_filter.mp h).2
theorem x_w {w : Cond} (i : Nat) (h : lw_tbl[i]? = some w) (hg : goodWord w = true) : w ∈ lw_gd := List.mem_filter.mpr ⟨List.mem_of_getElem? h, hg⟩
theorem x_in (ws : List Cond) (ps : List Nat) (hp : ws = ps.filterMap (fun i => lw_tbl[i]?)) (hg : ws.all goodWord = true) : ∀ w ∈ ws, w ∈ lw_gd := by
  intro w hw
  refine List.mem_filter.mpr ⟨?_, List.all_eq_true.mp hg w hw⟩
  rw [hp] at hw
  obtain ⟨i, -, hi⟩ := List.mem_filterMap.mp hw
  exact List.mem_of_getElem? hi
theorem x_good {a : Cond} (ha : a ∈ lw_gd) {b : Cond} : GoodIn (b :: lw_gd) (a :: lw_gd) := by
  intro w hw
  have h : w ∈ lw_gd := by
    rcases List.mem_cons.mp hw with h | h
    · rw [h]; exact ha
    · exact h
  exact ⟨List.mem_cons_of_mem _ h, good_of_word (x_gdG h)⟩
theorem inG0 : ∀ w ∈ u_ws RX0 TX0 2, w ∈ lw_gd := x_in _ [373, 374] (by decide +kernel) (by decide +kernel)
theorem inG1 : ∀ w ∈ u_ws RX1 TX1 2, w ∈ lw_gd := x_in _ [82, 84] (by decide +kernel) (by decide +kernel)
theorem inG2 : ∀ w ∈ u_ws RX2 TX2 2, w ∈ lw_gd := x_in _ [382, 383] (by decide +kernel) (by decide +kernel)
theorem inG3 : ∀ w ∈ u_ws RX3 TX3 4, w ∈ lw_gd := x_in _ [102, 104, 106, 108] (by decide +kernel) (by decide +kernel)
theorem inG4 : ∀ w ∈ u_ws RX4 TX4 2, w ∈ lw_gd := x_in _ [353, 355] (by decide +kernel) (by decide +kernel)
theorem inG5 : ∀ w ∈ u_ws RX5 TX5 4, w ∈ lw_gd := x_in _ [180, 182, 184, 186] (by decide +kernel) (by decide +kernel)
theorem inG7 : ∀ w ∈ u_ws RX7 TX7 9, w ∈ lw_gd := x_in _ [131, 133, 135, 137, 139, 141, 143, 145, 147] (by decide +kernel) (by decide +kernel)
theorem inG8 : ∀ w ∈ u_ws RX8 TX8 2, w ∈ lw_gd := x_in _ [364, 365] (by decide +kernel) (by decide +kernel)
theorem inG9 : ∀ w ∈ u_ws RX9 TX9 2, w ∈ lw_gd := x_in _ [162, 164] (by decide +kernel) (by decide +kernel)
theorem inG10 : ∀ w ∈ u_ws RX10 TX10 2, w ∈ lw_gd := x_in _ [388, 389] (by decide +kernel) (by decide +kernel)
theorem inG11 : ∀ w ∈ u_ws RX11 TX11 12, w ∈ lw_gd := x_in _ [201, 203, 205, 207, 209, 211, 213, 215, 217, 219, 221, 223] (by decide +kernel) (by decide +kernel)
theorem inG12 : ∀ w ∈ u_ws RX12 TX12 28, w ∈ lw_gd := x_in _ [836, 838, 840, 842, 844, 846, 848, 850, 852, 854, 856, 858, 860, 862, 864, 866, 868, 870, 872, 874, 876, 878, 880, 882, 884, 886, 888, 890] (by decide +kernel) (by decide +kernel)
theorem wd_0 : (.selects RX11 yX11_found yX11_found : Cond) ∈ lw_gd := x_w 0 (by decide +kernel) rfl
theorem wd_1 : (.selects RX11 yX11_fine yX11_fine : Cond) ∈ lw_gd := x_w 1 (by decide +kernel) rfl
theorem wd_2 : (.selects RX7 yX7_readRun yX7_readRun : Cond) ∈ lw_gd := x_w 2 (by decide +kernel) rfl
theorem wd_3 : (.selects RX7 yX7_readSort yX7_readSort : Cond) ∈ lw_gd := x_w 3 (by decide +kernel) rfl
theorem wd_4 : (.selects RX7 yX7_byteAt yX7_byteAt : Cond) ∈ lw_gd := x_w 4 (by decide +kernel) rfl
theorem wd_5 : (.selects RX7 yX7_readNumber yX7_readNumber : Cond) ∈ lw_gd := x_w 5 (by decide +kernel) rfl
theorem wd_6 : (.selects RX7 yX7_readSemicolon yX7_readSemicolon : Cond) ∈ lw_gd := x_w 6 (by decide +kernel) rfl
theorem wd_7 : (.selects RX11 yX11_takeOverRuns yX11_takeOverRuns : Cond) ∈ lw_gd := x_w 7 (by decide +kernel) rfl
theorem wd_8 : (.selects RX11 yX11_vectorToChange yX11_vectorToChange : Cond) ∈ lw_gd := x_w 8 (by decide +kernel) rfl
theorem wd_9 : (.selects RX11 yX11_isPlaceOrEnd yX11_isPlaceOrEnd : Cond) ∈ lw_gd := x_w 9 (by decide +kernel) rfl
theorem wd_10 : (.selects RX11 yX11_onesOfAll yX11_onesOfAll : Cond) ∈ lw_gd := x_w 10 (by decide +kernel) rfl
theorem wd_11 : (.selects RX11 yX11_isRun yX11_isRun : Cond) ∈ lw_gd := x_w 11 (by decide +kernel) rfl
theorem wd_12 : (.selects RX11 yX11_rowsThatAreThere yX11_rowsThatAreThere : Cond) ∈ lw_gd := x_w 12 (by decide +kernel) rfl
theorem wd_13 : (.selects RX11 yX11_bitsOfAll yX11_bitsOfAll : Cond) ∈ lw_gd := x_w 13 (by decide +kernel) rfl
theorem wd_14 : (.selects RX12 yX12_found yX12_found : Cond) ∈ lw_gd := x_w 14 (by decide +kernel) rfl
theorem wd_15 : (.selects RX12 yX12_well yX12_well : Cond) ∈ lw_gd := x_w 15 (by decide +kernel) rfl
theorem wd_16 : (.selects RX12 yX12_isMissing yX12_isMissing : Cond) ∈ lw_gd := x_w 16 (by decide +kernel) rfl
theorem wd_17 : (.selects RX12 yX12_isPart yX12_isPart : Cond) ∈ lw_gd := x_w 17 (by decide +kernel) rfl
theorem wd_18 : (.selects RX12 yX12_advances yX12_advances : Cond) ∈ lw_gd := x_w 18 (by decide +kernel) rfl
theorem wd_19 : (.selects RX12 yX12_byteAt yX12_byteAt : Cond) ∈ lw_gd := x_w 19 (by decide +kernel) rfl
theorem wd_20 : (.selects RX12 yX12_takes yX12_takes : Cond) ∈ lw_gd := x_w 20 (by decide +kernel) rfl
theorem wd_21 : (.selects RX12 yX12_isWell yX12_isWell : Cond) ∈ lw_gd := x_w 21 (by decide +kernel) rfl
theorem wd_22 : (.selects RX12 yX12_longer yX12_longer : Cond) ∈ lw_gd := x_w 22 (by decide +kernel) rfl
theorem wd_23 : (.selects RX12 yX12_figure yX12_figure : Cond) ∈ lw_gd := x_w 23 (by decide +kernel) rfl
theorem wd_24 : (.selects RX12 yX12_notes yX12_notes : Cond) ∈ lw_gd := x_w 24 (by decide +kernel) rfl
theorem wd_25 : (.selects RX12 yX12_empties yX12_empties : Cond) ∈ lw_gd := x_w 25 (by decide +kernel) rfl
theorem wd_26 : (.selects RX12 yX12_appends yX12_appends : Cond) ∈ lw_gd := x_w 26 (by decide +kernel) rfl
theorem wd_27 : (.selects RX12 yX12_isBit yX12_isBit : Cond) ∈ lw_gd := x_w 27 (by decide +kernel) rfl
theorem wd_28 : (.selects RX12 yX12_bitsOf yX12_bitsOf : Cond) ∈ lw_gd := x_w 28 (by decide +kernel) rfl
theorem wd_29 : (.selects RX12 yX12_allOnes yX12_allOnes : Cond) ∈ lw_gd := x_w 29 (by decide +kernel) rfl
theorem wd_30 : (.selects RX12 yX12_offsetOf yX12_offsetOf : Cond) ∈ lw_gd := x_w 30 (by decide +kernel) rfl
theorem wd_31 : (.selects RX12 yX12_widthOf yX12_widthOf : Cond) ∈ lw_gd := x_w 31 (by decide +kernel) rfl
theorem wd_32 : (.selects RX12 yX12_begins yX12_begins : Cond) ∈ lw_gd := x_w 32 (by decide +kernel) rfl
theorem wd_33 : (.selects RX12 yX12_isPlace yX12_isPlace : Cond) ∈ lw_gd := x_w 33 (by decide +kernel) rfl
theorem wd_34 : (.selects RX12 yX12_onesOfAll yX12_onesOfAll : Cond) ∈ lw_gd := x_w 34 (by decide +kernel) rfl
theorem wd_35 : (.selects RX12 yX12_isRun yX12_isRun : Cond) ∈ lw_gd := x_w 35 (by decide +kernel) rfl
theorem wd_36 : (.selects RX12 yX12_kindIn yX12_kindIn : Cond) ∈ lw_gd := x_w 36 (by decide +kernel) rfl
theorem wd_37 : (.selects RX12 yX12_alternateSize yX12_alternateSize : Cond) ∈ lw_gd := x_w 37 (by decide +kernel) rfl
theorem wd_38 : (.selects RX12 yX12_traces yX12_traces : Cond) ∈ lw_gd := x_w 38 (by decide +kernel) rfl
theorem wd_39 : (.selects RX12 yX12_zerosSize yX12_zerosSize : Cond) ∈ lw_gd := x_w 39 (by decide +kernel) rfl
theorem wd_40 : (.selects RX12 yX12_zerosMark yX12_zerosMark : Cond) ∈ lw_gd := x_w 40 (by decide +kernel) rfl
theorem wd_41 : (.selects RX12 yX12_onesOf yX12_onesOf : Cond) ∈ lw_gd := x_w 41 (by decide +kernel) rfl
theorem wd_42 : (.selects RX12 yX12_alternateMark yX12_alternateMark : Cond) ∈ lw_gd := x_w 42 (by decide +kernel) rfl
theorem wd_43 : (.initialized RL : Cond) ∈ lw_gd := x_w 43 (by decide +kernel) rfl
theorem wd_44 : (.initialized RX11 : Cond) ∈ lw_gd := x_w 44 (by decide +kernel) rfl
theorem wd_45 : (.initialized RX1 : Cond) ∈ lw_gd := x_w 45 (by decide +kernel) rfl
theorem wd_46 : (.initialized RX3 : Cond) ∈ lw_gd := x_w 46 (by decide +kernel) rfl
theorem wd_47 : (.initialized RX7 : Cond) ∈ lw_gd := x_w 47 (by decide +kernel) rfl
theorem wd_48 : (.initialized RX9 : Cond) ∈ lw_gd := x_w 48 (by decide +kernel) rfl
theorem wd_49 : (.initialized RX5 : Cond) ∈ lw_gd := x_w 49 (by decide +kernel) rfl
theorem wd_50 : (.initialized RX12 : Cond) ∈ lw_gd := x_w 50 (by decide +kernel) rfl
theorem wd_51 : (.initialized RJ7 : Cond) ∈ lw_gd := x_w 51 (by decide +kernel) rfl
theorem wd_52 : (.initialized RJ10 : Cond) ∈ lw_gd := x_w 52 (by decide +kernel) rfl
theorem wd_53 : (.initialized RX6 : Cond) ∈ lw_gd := x_w 53 (by decide +kernel) rfl
theorem wd_54 : (.initialized RX10 : Cond) ∈ lw_gd := x_w 54 (by decide +kernel) rfl
theorem wd_55 : (.initialized RX4 : Cond) ∈ lw_gd := x_w 55 (by decide +kernel) rfl
theorem wd_56 : (.initialized RX8 : Cond) ∈ lw_gd := x_w 56 (by decide +kernel) rfl
theorem wd_57 : (.initialized RX0 : Cond) ∈ lw_gd := x_w 57 (by decide +kernel) rfl
theorem wd_58 : (.initialized RX2 : Cond) ∈ lw_gd := x_w 58 (by decide +kernel) rfl
theorem wd_59 : (.initialized RJ9 : Cond) ∈ lw_gd := x_w 59 (by decide +kernel) rfl
theorem wd_60 : (.initialized RJ6 : Cond) ∈ lw_gd := x_w 60 (by decide +kernel) rfl
theorem wd_61 : (.classLink RL 7 RX11 : Cond) ∈ lw_gd := x_w 61 (by decide +kernel) rfl
theorem wd_62 : (.instantiable RX11 12 : Cond) ∈ lw_gd := x_w 62 (by decide +kernel) rfl
theorem wd_63 : (.methodLink RL 9 yX11_init : Cond) ∈ lw_gd := x_w 63 (by decide +kernel) rfl
theorem wd_64 : (.instanceMethod yX11_init : Cond) ∈ lw_gd := x_w 64 (by decide +kernel) rfl
theorem wd_65 : (.code yX11_init cX11_init 2 none : Cond) ∈ lw_gd := x_w 65 (by decide +kernel) rfl
theorem wd_66 : (.methodLink RX11 1 objectInit : Cond) ∈ lw_gd := x_w 66 (by decide +kernel) rfl
theorem wd_67 : (.instanceMethod objectInit : Cond) ∈ lw_gd := x_w 67 (by decide +kernel) rfl
theorem wd_68 : (.code objectInit ⟨#[0xb1]⟩ 1 none : Cond) ∈ lw_gd := x_w 68 (by decide +kernel) rfl
theorem wd_69 : (.classLink RX11 9 RX5 : Cond) ∈ lw_gd := x_w 69 (by decide +kernel) rfl
theorem wd_71 : (.classLink RX11 15 RX1 : Cond) ∈ lw_gd := x_w 71 (by decide +kernel) rfl
theorem wd_73 : (.instantiable RX1 2 : Cond) ∈ lw_gd := x_w 73 (by decide +kernel) rfl
theorem wd_75 : (.instanceMethod yX1_init : Cond) ∈ lw_gd := x_w 75 (by decide +kernel) rfl
theorem wd_76 : (.code yX1_init cX1_init 1 none : Cond) ∈ lw_gd := x_w 76 (by decide +kernel) rfl
theorem wd_77 : (.methodLink RX1 3 objectInit : Cond) ∈ lw_gd := x_w 77 (by decide +kernel) rfl
theorem wd_78 : (.fieldLink RX1 9 "ClassBits$BitVector" "masks" "[I" : Cond) ∈ lw_gd := x_w 78 (by decide +kernel) rfl
theorem wd_79 : (.fieldLink RX11 190 "ClassBits$BitVector" "masks" "[I" : Cond) ∈ lw_gd := x_w 79 (by decide +kernel) rfl
theorem wd_80 : (.fieldLink RX1 15 "ClassBits$BitVector" "length" "I" : Cond) ∈ lw_gd := x_w 80 (by decide +kernel) rfl
theorem wd_81 : (.fieldLink RX11 148 "ClassBits$BitVector" "length" "I" : Cond) ∈ lw_gd := x_w 81 (by decide +kernel) rfl
theorem wd_86 : (.superclass RX1 "java/lang/Object" : Cond) ∈ lw_gd := x_w 86 (by decide +kernel) rfl
theorem wd_87 : (.arrayClass .boolean : Cond) ∈ lw_gd := x_w 87 (by decide +kernel) rfl
theorem wd_88 : (.arrayClass .int : Cond) ∈ lw_gd := x_w 88 (by decide +kernel) rfl
theorem wd_89 : (.classLink RX11 33 RX3 : Cond) ∈ lw_gd := x_w 89 (by decide +kernel) rfl
theorem wd_90 : (.instantiable RX3 4 : Cond) ∈ lw_gd := x_w 90 (by decide +kernel) rfl
theorem wd_91 : (.methodLink RX11 35 yX3_init : Cond) ∈ lw_gd := x_w 91 (by decide +kernel) rfl
theorem wd_92 : (.instanceMethod yX3_init : Cond) ∈ lw_gd := x_w 92 (by decide +kernel) rfl
theorem wd_93 : (.code yX3_init cX3_init 2 none : Cond) ∈ lw_gd := x_w 93 (by decide +kernel) rfl
theorem wd_94 : (.methodLink RX3 3 objectInit : Cond) ∈ lw_gd := x_w 94 (by decide +kernel) rfl
theorem wd_95 : (.classLink RX3 9 RX1 : Cond) ∈ lw_gd := x_w 95 (by decide +kernel) rfl
theorem wd_97 : (.fieldLink RX3 11 "ClassBits$History" "before" "[LClassBits$BitVector;" : Cond) ∈ lw_gd := x_w 97 (by decide +kernel) rfl
theorem wd_98 : (.fieldLink RX3 17 "ClassBits$History" "changed" "[I" : Cond) ∈ lw_gd := x_w 98 (by decide +kernel) rfl
theorem wd_99 : (.fieldLink RX3 22 "ClassBits$History" "oldest" "I" : Cond) ∈ lw_gd := x_w 99 (by decide +kernel) rfl
theorem wd_100 : (.fieldLink RX3 26 "ClassBits$History" "held" "I" : Cond) ∈ lw_gd := x_w 100 (by decide +kernel) rfl
theorem wd_101 : (.fieldLink RX11 176 "ClassBits$History" "held" "I" : Cond) ∈ lw_gd := x_w 101 (by decide +kernel) rfl
theorem wd_110 : (.superclass RX3 "java/lang/Object" : Cond) ∈ lw_gd := x_w 110 (by decide +kernel) rfl
theorem wd_111 : (.classLink RX11 40 RX7 : Cond) ∈ lw_gd := x_w 111 (by decide +kernel) rfl
theorem wd_112 : (.instantiable RX7 9 : Cond) ∈ lw_gd := x_w 112 (by decide +kernel) rfl
theorem wd_114 : (.instanceMethod yX7_init : Cond) ∈ lw_gd := x_w 114 (by decide +kernel) rfl
theorem wd_115 : (.code yX7_init cX7_init 1 none : Cond) ∈ lw_gd := x_w 115 (by decide +kernel) rfl
theorem wd_116 : (.methodLink RX7 3 objectInit : Cond) ∈ lw_gd := x_w 116 (by decide +kernel) rfl
theorem wd_117 : (.fieldLink RX7 9 "ClassBits$TextReader" "tape" "[I" : Cond) ∈ lw_gd := x_w 117 (by decide +kernel) rfl
theorem wd_118 : (.fieldLink RX7 15 "ClassBits$TextReader" "kinds" "[I" : Cond) ∈ lw_gd := x_w 118 (by decide +kernel) rfl
theorem wd_119 : (.fieldLink RX11 292 "ClassBits$TextReader" "kinds" "[I" : Cond) ∈ lw_gd := x_w 119 (by decide +kernel) rfl
theorem wd_120 : (.fieldLink RX7 18 "ClassBits$TextReader" "lengths" "[I" : Cond) ∈ lw_gd := x_w 120 (by decide +kernel) rfl
theorem wd_121 : (.fieldLink RX11 295 "ClassBits$TextReader" "lengths" "[I" : Cond) ∈ lw_gd := x_w 121 (by decide +kernel) rfl
theorem wd_122 : (.fieldLink RX7 21 "ClassBits$TextReader" "tapeLength" "I" : Cond) ∈ lw_gd := x_w 122 (by decide +kernel) rfl
theorem wd_123 : (.fieldLink RX11 280 "ClassBits$TextReader" "tapeLength" "I" : Cond) ∈ lw_gd := x_w 123 (by decide +kernel) rfl
theorem wd_124 : (.fieldLink RX7 29 "ClassBits$TextReader" "place" "I" : Cond) ∈ lw_gd := x_w 124 (by decide +kernel) rfl
theorem wd_125 : (.fieldLink RX11 127 "ClassBits$TextReader" "place" "I" : Cond) ∈ lw_gd := x_w 125 (by decide +kernel) rfl
theorem wd_126 : (.fieldLink RX7 32 "ClassBits$TextReader" "runCount" "I" : Cond) ∈ lw_gd := x_w 126 (by decide +kernel) rfl
theorem wd_127 : (.fieldLink RX11 291 "ClassBits$TextReader" "runCount" "I" : Cond) ∈ lw_gd := x_w 127 (by decide +kernel) rfl
theorem wd_128 : (.fieldLink RX7 35 "ClassBits$TextReader" "bitSum" "I" : Cond) ∈ lw_gd := x_w 128 (by decide +kernel) rfl
theorem wd_129 : (.fieldLink RX7 58 "ClassBits$TextReader" "currentKind" "I" : Cond) ∈ lw_gd := x_w 129 (by decide +kernel) rfl
theorem wd_130 : (.fieldLink RX7 65 "ClassBits$TextReader" "currentLength" "I" : Cond) ∈ lw_gd := x_w 130 (by decide +kernel) rfl
theorem wd_149 : (.superclass RX7 "java/lang/Object" : Cond) ∈ lw_gd := x_w 149 (by decide +kernel) rfl
theorem wd_150 : (.classLink RX11 47 RX6 : Cond) ∈ lw_gd := x_w 150 (by decide +kernel) rfl
theorem wd_152 : (.classLink RX11 53 RX9 : Cond) ∈ lw_gd := x_w 152 (by decide +kernel) rfl
theorem wd_153 : (.instantiable RX9 2 : Cond) ∈ lw_gd := x_w 153 (by decide +kernel) rfl
theorem wd_155 : (.instanceMethod yX9_init : Cond) ∈ lw_gd := x_w 155 (by decide +kernel) rfl
theorem wd_156 : (.code yX9_init cX9_init 1 none : Cond) ∈ lw_gd := x_w 156 (by decide +kernel) rfl
theorem wd_157 : (.methodLink RX9 3 objectInit : Cond) ∈ lw_gd := x_w 157 (by decide +kernel) rfl
theorem wd_158 : (.fieldLink RX9 9 "ClassBits$Trace" "numbers" "[I" : Cond) ∈ lw_gd := x_w 158 (by decide +kernel) rfl
theorem wd_159 : (.fieldLink RX11 271 "ClassBits$Trace" "numbers" "[I" : Cond) ∈ lw_gd := x_w 159 (by decide +kernel) rfl
theorem wd_160 : (.fieldLink RX9 15 "ClassBits$Trace" "held" "I" : Cond) ∈ lw_gd := x_w 160 (by decide +kernel) rfl
theorem wd_161 : (.fieldLink RX11 263 "ClassBits$Trace" "held" "I" : Cond) ∈ lw_gd := x_w 161 (by decide +kernel) rfl
theorem wd_166 : (.superclass RX9 "java/lang/Object" : Cond) ∈ lw_gd := x_w 166 (by decide +kernel) rfl
theorem wd_167 : (.instantiable RX5 4 : Cond) ∈ lw_gd := x_w 167 (by decide +kernel) rfl
theorem wd_169 : (.instanceMethod yX5_init : Cond) ∈ lw_gd := x_w 169 (by decide +kernel) rfl
theorem wd_170 : (.code yX5_init cX5_init 1 none : Cond) ∈ lw_gd := x_w 170 (by decide +kernel) rfl
theorem wd_171 : (.methodLink RX5 3 objectInit : Cond) ∈ lw_gd := x_w 171 (by decide +kernel) rfl
theorem wd_172 : (.fieldLink RX5 9 "ClassBits$Row" "items" "[I" : Cond) ∈ lw_gd := x_w 172 (by decide +kernel) rfl
theorem wd_173 : (.fieldLink RX11 88 "ClassBits$Row" "items" "[I" : Cond) ∈ lw_gd := x_w 173 (by decide +kernel) rfl
theorem wd_174 : (.fieldLink RX5 15 "ClassBits$Row" "missing" "Z" : Cond) ∈ lw_gd := x_w 174 (by decide +kernel) rfl
theorem wd_175 : (.fieldLink RX11 77 "ClassBits$Row" "missing" "Z" : Cond) ∈ lw_gd := x_w 175 (by decide +kernel) rfl
theorem wd_176 : (.fieldLink RX5 19 "ClassBits$Row" "lane" "I" : Cond) ∈ lw_gd := x_w 176 (by decide +kernel) rfl
theorem wd_177 : (.fieldLink RX11 92 "ClassBits$Row" "lane" "I" : Cond) ∈ lw_gd := x_w 177 (by decide +kernel) rfl
theorem wd_178 : (.fieldLink RX5 23 "ClassBits$Row" "length" "I" : Cond) ∈ lw_gd := x_w 178 (by decide +kernel) rfl
theorem wd_179 : (.fieldLink RX11 81 "ClassBits$Row" "length" "I" : Cond) ∈ lw_gd := x_w 179 (by decide +kernel) rfl
theorem wd_188 : (.superclass RX5 "java/lang/Object" : Cond) ∈ lw_gd := x_w 188 (by decide +kernel) rfl
theorem wd_189 : (.fieldLink RX11 11 "ClassBits" "rows" "[LClassBits$Row;" : Cond) ∈ lw_gd := x_w 189 (by decide +kernel) rfl
theorem wd_190 : (.fieldLink RX11 17 "ClassBits" "vectors" "[LClassBits$BitVector;" : Cond) ∈ lw_gd := x_w 190 (by decide +kernel) rfl
theorem wd_191 : (.fieldLink RX11 21 "ClassBits" "images" "[LClassBits$BitVector;" : Cond) ∈ lw_gd := x_w 191 (by decide +kernel) rfl
theorem wd_192 : (.fieldLink RX11 24 "ClassBits" "imageKept" "[Z" : Cond) ∈ lw_gd := x_w 192 (by decide +kernel) rfl
theorem wd_193 : (.fieldLink RX11 29 "ClassBits" "scratch" "LClassBits$BitVector;" : Cond) ∈ lw_gd := x_w 193 (by decide +kernel) rfl
theorem wd_194 : (.fieldLink RX11 36 "ClassBits" "history" "LClassBits$History;" : Cond) ∈ lw_gd := x_w 194 (by decide +kernel) rfl
theorem wd_195 : (.fieldLink RX11 43 "ClassBits" "reader" "LClassBits$TextReader;" : Cond) ∈ lw_gd := x_w 195 (by decide +kernel) rfl
theorem wd_196 : (.fieldLink RX11 49 "ClassBits" "runs" "[LClassBits$Run;" : Cond) ∈ lw_gd := x_w 196 (by decide +kernel) rfl
theorem wd_197 : (.fieldLink RX11 56 "ClassBits" "asked" "LClassBits$Trace;" : Cond) ∈ lw_gd := x_w 197 (by decide +kernel) rfl
theorem wd_198 : (.fieldLink RX11 141 "ClassBits" "runCount" "I" : Cond) ∈ lw_gd := x_w 198 (by decide +kernel) rfl
theorem wd_199 : (.fieldLink RX11 123 "ClassBits" "latestFault" "I" : Cond) ∈ lw_gd := x_w 199 (by decide +kernel) rfl
theorem wd_200 : (.fieldLink RX11 283 "ClassBits" "latestFinding" "I" : Cond) ∈ lw_gd := x_w 200 (by decide +kernel) rfl
theorem wd_225 : (.superclass RX11 "java/lang/Object" : Cond) ∈ lw_gd := x_w 225 (by decide +kernel) rfl
theorem wd_226 : (.methodLink RL 13 yX11_row : Cond) ∈ lw_gd := x_w 226 (by decide +kernel) rfl
theorem wd_227 : (.instanceMethod yX11_row : Cond) ∈ lw_gd := x_w 227 (by decide +kernel) rfl
theorem wd_228 : (.selects RX11 yX11_row yX11_row : Cond) ∈ lw_gd := x_w 228 (by decide +kernel) rfl
theorem wd_229 : (.code yX11_row cX11_row 4 (some .int) : Cond) ∈ lw_gd := x_w 229 (by decide +kernel) rfl
theorem wd_230 : (.methodLink RX11 61 yX11_isRow : Cond) ∈ lw_gd := x_w 230 (by decide +kernel) rfl
theorem wd_231 : (.static yX11_isRow : Cond) ∈ lw_gd := x_w 231 (by decide +kernel) rfl
theorem wd_232 : (.code yX11_isRow cX11_isRow 1 (some .boolean) : Cond) ∈ lw_gd := x_w 232 (by decide +kernel) rfl
theorem wd_233 : (.constant RX11 65 (-1000001) : Cond) ∈ lw_gd := x_w 233 (by decide +kernel) rfl
theorem wd_234 : (.methodLink RX11 66 yX11_found : Cond) ∈ lw_gd := x_w 234 (by decide +kernel) rfl
theorem wd_236 : (.instanceMethod yX11_found : Cond) ∈ lw_gd := x_w 236 (by decide +kernel) rfl
theorem wd_237 : (.code yX11_found cX11_found 2 (some .int) : Cond) ∈ lw_gd := x_w 237 (by decide +kernel) rfl
theorem wd_238 : (.constant RX11 286 (-1000010) : Cond) ∈ lw_gd := x_w 238 (by decide +kernel) rfl
theorem wd_239 : (.methodLink RX11 70 yX5_begin : Cond) ∈ lw_gd := x_w 239 (by decide +kernel) rfl
theorem wd_240 : (.instanceMethod yX5_begin : Cond) ∈ lw_gd := x_w 240 (by decide +kernel) rfl
theorem wd_241 : (.selects RX5 yX5_begin yX5_begin : Cond) ∈ lw_gd := x_w 241 (by decide +kernel) rfl
theorem wd_242 : (.code yX5_begin cX5_begin 3 none : Cond) ∈ lw_gd := x_w 242 (by decide +kernel) rfl
theorem wd_243 : (.methodLink RX5 26 yJ7_fill_53178 : Cond) ∈ lw_gd := x_w 243 (by decide +kernel) rfl
theorem wd_244 : (.static yJ7_fill_53178 : Cond) ∈ lw_gd := x_w 244 (by decide +kernel) rfl
theorem wd_245 : (.code yJ7_fill_53178 cJ7_fill_53178 4 none : Cond) ∈ lw_gd := x_w 245 (by decide +kernel) rfl
theorem wd_246 : (.methodLink RX11 74 yX11_fine : Cond) ∈ lw_gd := x_w 246 (by decide +kernel) rfl
theorem wd_248 : (.instanceMethod yX11_fine : Cond) ∈ lw_gd := x_w 248 (by decide +kernel) rfl
theorem wd_249 : (.code yX11_fine cX11_fine 2 (some .int) : Cond) ∈ lw_gd := x_w 249 (by decide +kernel) rfl
theorem wd_250 : (.methodLink RL 18 yX11_set : Cond) ∈ lw_gd := x_w 250 (by decide +kernel) rfl
theorem wd_251 : (.instanceMethod yX11_set : Cond) ∈ lw_gd := x_w 251 (by decide +kernel) rfl
theorem wd_252 : (.selects RX11 yX11_set yX11_set : Cond) ∈ lw_gd := x_w 252 (by decide +kernel) rfl
theorem wd_253 : (.code yX11_set cX11_set 5 (some .int) : Cond) ∈ lw_gd := x_w 253 (by decide +kernel) rfl
theorem wd_254 : (.methodLink RX11 85 yX5_store : Cond) ∈ lw_gd := x_w 254 (by decide +kernel) rfl
theorem wd_255 : (.instanceMethod yX5_store : Cond) ∈ lw_gd := x_w 255 (by decide +kernel) rfl
theorem wd_256 : (.selects RX5 yX5_store yX5_store : Cond) ∈ lw_gd := x_w 256 (by decide +kernel) rfl
theorem wd_257 : (.code yX5_store cX5_store 3 none : Cond) ∈ lw_gd := x_w 257 (by decide +kernel) rfl
theorem wd_258 : (.methodLink RL 22 yX11_copy : Cond) ∈ lw_gd := x_w 258 (by decide +kernel) rfl
theorem wd_259 : (.instanceMethod yX11_copy : Cond) ∈ lw_gd := x_w 259 (by decide +kernel) rfl
theorem wd_260 : (.selects RX11 yX11_copy yX11_copy : Cond) ∈ lw_gd := x_w 260 (by decide +kernel) rfl
theorem wd_261 : (.code yX11_copy cX11_copy 8 (some .int) : Cond) ∈ lw_gd := x_w 261 (by decide +kernel) rfl
theorem wd_262 : (.methodLink RX11 95 yX5_hasPart : Cond) ∈ lw_gd := x_w 262 (by decide +kernel) rfl
theorem wd_263 : (.instanceMethod yX5_hasPart : Cond) ∈ lw_gd := x_w 263 (by decide +kernel) rfl
theorem wd_264 : (.selects RX5 yX5_hasPart yX5_hasPart : Cond) ∈ lw_gd := x_w 264 (by decide +kernel) rfl
theorem wd_265 : (.code yX5_hasPart cX5_hasPart 3 (some .boolean) : Cond) ∈ lw_gd := x_w 265 (by decide +kernel) rfl
theorem wd_266 : (.methodLink RX11 99 ⟨"java/lang/System", "arraycopy", "(Ljava/lang/Object;ILjava/lang/Object;II)V"⟩ : Cond) ∈ lw_gd := x_w 266 (by decide +kernel) rfl
theorem wd_267 : (.static ⟨"java/lang/System", "arraycopy", "(Ljava/lang/Object;ILjava/lang/Object;II)V"⟩ : Cond) ∈ lw_gd := x_w 267 (by decide +kernel) rfl
theorem wd_268 : (.native ⟨"java/lang/System", "arraycopy", "(Ljava/lang/Object;ILjava/lang/Object;II)V"⟩ : Cond) ∈ lw_gd := x_w 268 (by decide +kernel) rfl
theorem wd_269 : (.methodLink RL 27 yX11_drop : Cond) ∈ lw_gd := x_w 269 (by decide +kernel) rfl
theorem wd_270 : (.instanceMethod yX11_drop : Cond) ∈ lw_gd := x_w 270 (by decide +kernel) rfl
theorem wd_271 : (.selects RX11 yX11_drop yX11_drop : Cond) ∈ lw_gd := x_w 271 (by decide +kernel) rfl
theorem wd_272 : (.code yX11_drop cX11_drop 2 (some .int) : Cond) ∈ lw_gd := x_w 272 (by decide +kernel) rfl
theorem wd_273 : (.methodLink RL 32 yX11_feed : Cond) ∈ lw_gd := x_w 273 (by decide +kernel) rfl
theorem wd_274 : (.instanceMethod yX11_feed : Cond) ∈ lw_gd := x_w 274 (by decide +kernel) rfl
theorem wd_275 : (.selects RX11 yX11_feed yX11_feed : Cond) ∈ lw_gd := x_w 275 (by decide +kernel) rfl
theorem wd_276 : (.code yX11_feed cX11_feed 2 (some .int) : Cond) ∈ lw_gd := x_w 276 (by decide +kernel) rfl
theorem wd_277 : (.methodLink RX11 105 yX7_hasRoom : Cond) ∈ lw_gd := x_w 277 (by decide +kernel) rfl
theorem wd_278 : (.instanceMethod yX7_hasRoom : Cond) ∈ lw_gd := x_w 278 (by decide +kernel) rfl
theorem wd_279 : (.selects RX7 yX7_hasRoom yX7_hasRoom : Cond) ∈ lw_gd := x_w 279 (by decide +kernel) rfl
theorem wd_280 : (.code yX7_hasRoom cX7_hasRoom 1 (some .boolean) : Cond) ∈ lw_gd := x_w 280 (by decide +kernel) rfl
theorem wd_281 : (.constant RX11 109 (-1000003) : Cond) ∈ lw_gd := x_w 281 (by decide +kernel) rfl
theorem wd_282 : (.methodLink RX11 110 yX7_append : Cond) ∈ lw_gd := x_w 282 (by decide +kernel) rfl
theorem wd_283 : (.instanceMethod yX7_append : Cond) ∈ lw_gd := x_w 283 (by decide +kernel) rfl
theorem wd_284 : (.selects RX7 yX7_append yX7_append : Cond) ∈ lw_gd := x_w 284 (by decide +kernel) rfl
theorem wd_285 : (.code yX7_append cX7_append 2 (some .int) : Cond) ∈ lw_gd := x_w 285 (by decide +kernel) rfl
theorem wd_286 : (.methodLink RX7 25 yX7_hasRoom : Cond) ∈ lw_gd := x_w 286 (by decide +kernel) rfl
theorem wd_287 : (.methodLink RL 36 yX11_load : Cond) ∈ lw_gd := x_w 287 (by decide +kernel) rfl
theorem wd_288 : (.instanceMethod yX11_load : Cond) ∈ lw_gd := x_w 288 (by decide +kernel) rfl
theorem wd_289 : (.selects RX11 yX11_load yX11_load : Cond) ∈ lw_gd := x_w 289 (by decide +kernel) rfl
theorem wd_290 : (.code yX11_load cX11_load 5 (some .int) : Cond) ∈ lw_gd := x_w 290 (by decide +kernel) rfl
theorem wd_291 : (.methodLink RX11 113 yX11_isVector : Cond) ∈ lw_gd := x_w 291 (by decide +kernel) rfl
theorem wd_292 : (.static yX11_isVector : Cond) ∈ lw_gd := x_w 292 (by decide +kernel) rfl
theorem wd_293 : (.code yX11_isVector cX11_isVector 1 (some .boolean) : Cond) ∈ lw_gd := x_w 293 (by decide +kernel) rfl
theorem wd_294 : (.methodLink RX11 116 yX7_readTape : Cond) ∈ lw_gd := x_w 294 (by decide +kernel) rfl
theorem wd_295 : (.instanceMethod yX7_readTape : Cond) ∈ lw_gd := x_w 295 (by decide +kernel) rfl
theorem wd_296 : (.selects RX7 yX7_readTape yX7_readTape : Cond) ∈ lw_gd := x_w 296 (by decide +kernel) rfl
theorem wd_297 : (.code yX7_readTape cX7_readTape 3 (some .int) : Cond) ∈ lw_gd := x_w 297 (by decide +kernel) rfl
theorem wd_298 : (.methodLink RX7 38 yX7_readRun : Cond) ∈ lw_gd := x_w 298 (by decide +kernel) rfl
theorem wd_300 : (.instanceMethod yX7_readRun : Cond) ∈ lw_gd := x_w 300 (by decide +kernel) rfl
theorem wd_301 : (.code yX7_readRun cX7_readRun 2 (some .int) : Cond) ∈ lw_gd := x_w 301 (by decide +kernel) rfl
theorem wd_302 : (.methodLink RX7 42 yX7_readSort : Cond) ∈ lw_gd := x_w 302 (by decide +kernel) rfl
theorem wd_304 : (.instanceMethod yX7_readSort : Cond) ∈ lw_gd := x_w 304 (by decide +kernel) rfl
theorem wd_305 : (.code yX7_readSort cX7_readSort 1 (some .int) : Cond) ∈ lw_gd := x_w 305 (by decide +kernel) rfl
theorem wd_306 : (.methodLink RX7 51 yX7_byteAt : Cond) ∈ lw_gd := x_w 306 (by decide +kernel) rfl
theorem wd_308 : (.instanceMethod yX7_byteAt : Cond) ∈ lw_gd := x_w 308 (by decide +kernel) rfl
theorem wd_309 : (.code yX7_byteAt cX7_byteAt 2 (some .int) : Cond) ∈ lw_gd := x_w 309 (by decide +kernel) rfl
theorem wd_310 : (.constant RX7 68 (-1000000) : Cond) ∈ lw_gd := x_w 310 (by decide +kernel) rfl
theorem wd_311 : (.methodLink RX7 55 yX7_kindOfLetter : Cond) ∈ lw_gd := x_w 311 (by decide +kernel) rfl
theorem wd_312 : (.static yX7_kindOfLetter : Cond) ∈ lw_gd := x_w 312 (by decide +kernel) rfl
theorem wd_313 : (.code yX7_kindOfLetter cX7_kindOfLetter 1 (some .int) : Cond) ∈ lw_gd := x_w 313 (by decide +kernel) rfl
theorem wd_314 : (.methodLink RX7 45 yX7_readNumber : Cond) ∈ lw_gd := x_w 314 (by decide +kernel) rfl
theorem wd_316 : (.instanceMethod yX7_readNumber : Cond) ∈ lw_gd := x_w 316 (by decide +kernel) rfl
theorem wd_317 : (.code yX7_readNumber cX7_readNumber 4 (some .int) : Cond) ∈ lw_gd := x_w 317 (by decide +kernel) rfl
theorem wd_318 : (.methodLink RX7 61 yX7_isFigure : Cond) ∈ lw_gd := x_w 318 (by decide +kernel) rfl
theorem wd_319 : (.static yX7_isFigure : Cond) ∈ lw_gd := x_w 319 (by decide +kernel) rfl
theorem wd_320 : (.code yX7_isFigure cX7_isFigure 1 (some .boolean) : Cond) ∈ lw_gd := x_w 320 (by decide +kernel) rfl
theorem wd_321 : (.methodLink RX7 48 yX7_readSemicolon : Cond) ∈ lw_gd := x_w 321 (by decide +kernel) rfl
theorem wd_323 : (.instanceMethod yX7_readSemicolon : Cond) ∈ lw_gd := x_w 323 (by decide +kernel) rfl
theorem wd_324 : (.code yX7_readSemicolon cX7_readSemicolon 1 (some .int) : Cond) ∈ lw_gd := x_w 324 (by decide +kernel) rfl
theorem wd_325 : (.methodLink RX11 120 yX7_emptyTape : Cond) ∈ lw_gd := x_w 325 (by decide +kernel) rfl
theorem wd_326 : (.instanceMethod yX7_emptyTape : Cond) ∈ lw_gd := x_w 326 (by decide +kernel) rfl
theorem wd_327 : (.selects RX7 yX7_emptyTape yX7_emptyTape : Cond) ∈ lw_gd := x_w 327 (by decide +kernel) rfl
theorem wd_328 : (.code yX7_emptyTape cX7_emptyTape 1 none : Cond) ∈ lw_gd := x_w 328 (by decide +kernel) rfl
theorem wd_329 : (.constant RX11 126 (-1000100) : Cond) ∈ lw_gd := x_w 329 (by decide +kernel) rfl
theorem wd_330 : (.methodLink RX11 130 yX11_takeOverRuns : Cond) ∈ lw_gd := x_w 330 (by decide +kernel) rfl
theorem wd_332 : (.instanceMethod yX11_takeOverRuns : Cond) ∈ lw_gd := x_w 332 (by decide +kernel) rfl
theorem wd_333 : (.code yX11_takeOverRuns cX11_takeOverRuns 2 none : Cond) ∈ lw_gd := x_w 333 (by decide +kernel) rfl
theorem wd_334 : (.methodLink RX11 298 yX11_newRun : Cond) ∈ lw_gd := x_w 334 (by decide +kernel) rfl
theorem wd_335 : (.static yX11_newRun : Cond) ∈ lw_gd := x_w 335 (by decide +kernel) rfl
theorem wd_336 : (.code yX11_newRun cX11_newRun 3 (some (.object "ClassBits$Run")) : Cond) ∈ lw_gd := x_w 336 (by decide +kernel) rfl
theorem wd_337 : (.classLink RX11 313 RX4 : Cond) ∈ lw_gd := x_w 337 (by decide +kernel) rfl
theorem wd_338 : (.instantiable RX4 2 : Cond) ∈ lw_gd := x_w 338 (by decide +kernel) rfl
theorem wd_339 : (.methodLink RX11 315 yX4_init : Cond) ∈ lw_gd := x_w 339 (by decide +kernel) rfl
theorem wd_340 : (.instanceMethod yX4_init : Cond) ∈ lw_gd := x_w 340 (by decide +kernel) rfl
theorem wd_341 : (.code yX4_init cX4_init 3 none : Cond) ∈ lw_gd := x_w 341 (by decide +kernel) rfl
theorem wd_342 : (.methodLink RX4 3 yX10_init : Cond) ∈ lw_gd := x_w 342 (by decide +kernel) rfl
theorem wd_343 : (.instanceMethod yX10_init : Cond) ∈ lw_gd := x_w 343 (by decide +kernel) rfl
theorem wd_344 : (.code yX10_init cX10_init 3 none : Cond) ∈ lw_gd := x_w 344 (by decide +kernel) rfl
theorem wd_345 : (.methodLink RX10 3 yX6_init : Cond) ∈ lw_gd := x_w 345 (by decide +kernel) rfl
theorem wd_346 : (.instanceMethod yX6_init : Cond) ∈ lw_gd := x_w 346 (by decide +kernel) rfl
theorem wd_347 : (.code yX6_init cX6_init 3 none : Cond) ∈ lw_gd := x_w 347 (by decide +kernel) rfl
theorem wd_348 : (.methodLink RX6 1 objectInit : Cond) ∈ lw_gd := x_w 348 (by decide +kernel) rfl
theorem wd_349 : (.fieldLink RX6 7 "ClassBits$Run" "number" "I" : Cond) ∈ lw_gd := x_w 349 (by decide +kernel) rfl
theorem wd_350 : (.fieldLink RX11 260 "ClassBits$Run" "number" "I" : Cond) ∈ lw_gd := x_w 350 (by decide +kernel) rfl
theorem wd_351 : (.fieldLink RX6 13 "ClassBits$Run" "length" "I" : Cond) ∈ lw_gd := x_w 351 (by decide +kernel) rfl
theorem wd_352 : (.fieldLink RX1 23 "ClassBits$Run" "length" "I" : Cond) ∈ lw_gd := x_w 352 (by decide +kernel) rfl
theorem wd_357 : (.superclass RX4 RX10 : Cond) ∈ lw_gd := x_w 357 (by decide +kernel) rfl
theorem wd_358 : (.classLink RX11 317 RX8 : Cond) ∈ lw_gd := x_w 358 (by decide +kernel) rfl
theorem wd_359 : (.instantiable RX8 2 : Cond) ∈ lw_gd := x_w 359 (by decide +kernel) rfl
theorem wd_360 : (.methodLink RX11 319 yX8_init : Cond) ∈ lw_gd := x_w 360 (by decide +kernel) rfl
theorem wd_361 : (.instanceMethod yX8_init : Cond) ∈ lw_gd := x_w 361 (by decide +kernel) rfl
theorem wd_362 : (.code yX8_init cX8_init 3 none : Cond) ∈ lw_gd := x_w 362 (by decide +kernel) rfl
theorem wd_363 : (.methodLink RX8 3 yX10_init : Cond) ∈ lw_gd := x_w 363 (by decide +kernel) rfl
theorem wd_366 : (.superclass RX8 RX10 : Cond) ∈ lw_gd := x_w 366 (by decide +kernel) rfl
theorem wd_367 : (.classLink RX11 320 RX0 : Cond) ∈ lw_gd := x_w 367 (by decide +kernel) rfl
theorem wd_368 : (.instantiable RX0 2 : Cond) ∈ lw_gd := x_w 368 (by decide +kernel) rfl
theorem wd_369 : (.methodLink RX11 322 yX0_init : Cond) ∈ lw_gd := x_w 369 (by decide +kernel) rfl
theorem wd_370 : (.instanceMethod yX0_init : Cond) ∈ lw_gd := x_w 370 (by decide +kernel) rfl
theorem wd_371 : (.code yX0_init cX0_init 3 none : Cond) ∈ lw_gd := x_w 371 (by decide +kernel) rfl
theorem wd_372 : (.methodLink RX0 3 yX6_init : Cond) ∈ lw_gd := x_w 372 (by decide +kernel) rfl
theorem wd_375 : (.superclass RX0 RX6 : Cond) ∈ lw_gd := x_w 375 (by decide +kernel) rfl
theorem wd_376 : (.classLink RX11 323 RX2 : Cond) ∈ lw_gd := x_w 376 (by decide +kernel) rfl
theorem wd_377 : (.instantiable RX2 2 : Cond) ∈ lw_gd := x_w 377 (by decide +kernel) rfl
theorem wd_378 : (.methodLink RX11 325 yX2_init : Cond) ∈ lw_gd := x_w 378 (by decide +kernel) rfl
theorem wd_379 : (.instanceMethod yX2_init : Cond) ∈ lw_gd := x_w 379 (by decide +kernel) rfl
theorem wd_380 : (.code yX2_init cX2_init 3 none : Cond) ∈ lw_gd := x_w 380 (by decide +kernel) rfl
theorem wd_381 : (.methodLink RX2 3 yX0_init : Cond) ∈ lw_gd := x_w 381 (by decide +kernel) rfl
theorem wd_384 : (.superclass RX2 RX0 : Cond) ∈ lw_gd := x_w 384 (by decide +kernel) rfl
theorem wd_385 : (.classLink RX11 326 RX10 : Cond) ∈ lw_gd := x_w 385 (by decide +kernel) rfl
theorem wd_386 : (.instantiable RX10 2 : Cond) ∈ lw_gd := x_w 386 (by decide +kernel) rfl
theorem wd_387 : (.methodLink RX11 328 yX10_init : Cond) ∈ lw_gd := x_w 387 (by decide +kernel) rfl
theorem wd_390 : (.superclass RX10 RX6 : Cond) ∈ lw_gd := x_w 390 (by decide +kernel) rfl
theorem wd_391 : (.methodLink RX11 133 yX11_vectorToChange : Cond) ∈ lw_gd := x_w 391 (by decide +kernel) rfl
theorem wd_393 : (.instanceMethod yX11_vectorToChange : Cond) ∈ lw_gd := x_w 393 (by decide +kernel) rfl
theorem wd_394 : (.code yX11_vectorToChange cX11_vectorToChange 2 (some (.object "ClassBits$BitVector")) : Cond) ∈ lw_gd := x_w 394 (by decide +kernel) rfl
theorem wd_395 : (.methodLink RX11 287 yX3_keep : Cond) ∈ lw_gd := x_w 395 (by decide +kernel) rfl
theorem wd_396 : (.instanceMethod yX3_keep : Cond) ∈ lw_gd := x_w 396 (by decide +kernel) rfl
theorem wd_397 : (.selects RX3 yX3_keep yX3_keep : Cond) ∈ lw_gd := x_w 397 (by decide +kernel) rfl
theorem wd_398 : (.code yX3_keep cX3_keep 4 none : Cond) ∈ lw_gd := x_w 398 (by decide +kernel) rfl
theorem wd_399 : (.methodLink RX3 29 yX1_copyFrom : Cond) ∈ lw_gd := x_w 399 (by decide +kernel) rfl
theorem wd_400 : (.instanceMethod yX1_copyFrom : Cond) ∈ lw_gd := x_w 400 (by decide +kernel) rfl
theorem wd_401 : (.selects RX1 yX1_copyFrom yX1_copyFrom : Cond) ∈ lw_gd := x_w 401 (by decide +kernel) rfl
theorem wd_402 : (.code yX1_copyFrom cX1_copyFrom 2 none : Cond) ∈ lw_gd := x_w 402 (by decide +kernel) rfl
theorem wd_403 : (.methodLink RX1 43 ⟨"java/lang/System", "arraycopy", "(Ljava/lang/Object;ILjava/lang/Object;II)V"⟩ : Cond) ∈ lw_gd := x_w 403 (by decide +kernel) rfl
theorem wd_404 : (.methodLink RX11 137 yX1_clearTo : Cond) ∈ lw_gd := x_w 404 (by decide +kernel) rfl
theorem wd_405 : (.instanceMethod yX1_clearTo : Cond) ∈ lw_gd := x_w 405 (by decide +kernel) rfl
theorem wd_406 : (.selects RX1 yX1_clearTo yX1_clearTo : Cond) ∈ lw_gd := x_w 406 (by decide +kernel) rfl
theorem wd_407 : (.code yX1_clearTo cX1_clearTo 2 none : Cond) ∈ lw_gd := x_w 407 (by decide +kernel) rfl
theorem wd_408 : (.methodLink RX1 34 yJ7_fill_53178 : Cond) ∈ lw_gd := x_w 408 (by decide +kernel) rfl
theorem wd_409 : (.methodLink RX11 144 yX1_appendRun : Cond) ∈ lw_gd := x_w 409 (by decide +kernel) rfl
theorem wd_410 : (.instanceMethod yX1_appendRun : Cond) ∈ lw_gd := x_w 410 (by decide +kernel) rfl
theorem wd_411 : (.selects RX1 yX1_appendRun yX1_appendRun : Cond) ∈ lw_gd := x_w 411 (by decide +kernel) rfl
theorem wd_412 : (.code yX1_appendRun cX1_appendRun 3 none : Cond) ∈ lw_gd := x_w 412 (by decide +kernel) rfl
theorem wd_413 : (.methodLink RX1 26 ⟨"ClassBits$Run", "bitOf", "(I)I"⟩ : Cond) ∈ lw_gd := x_w 413 (by decide +kernel) rfl
theorem wd_415 : (.sameMethod RX6 RX6 "bitOf" "(I)I" : Cond) ∈ lw_gd := x_w 415 (by decide +kernel) rfl
theorem wd_416 : (.selects RX0 ⟨"ClassBits$Run", "bitOf", "(I)I"⟩ yX0_bitOf : Cond) ∈ lw_gd := x_w 416 (by decide +kernel) rfl
theorem wd_417 : (.instanceMethod yX0_bitOf : Cond) ∈ lw_gd := x_w 417 (by decide +kernel) rfl
theorem wd_418 : (.code yX0_bitOf cX0_bitOf 2 (some .int) : Cond) ∈ lw_gd := x_w 418 (by decide +kernel) rfl
theorem wd_419 : (.selects RX2 ⟨"ClassBits$Run", "bitOf", "(I)I"⟩ yX2_bitOf : Cond) ∈ lw_gd := x_w 419 (by decide +kernel) rfl
theorem wd_420 : (.instanceMethod yX2_bitOf : Cond) ∈ lw_gd := x_w 420 (by decide +kernel) rfl
theorem wd_421 : (.code yX2_bitOf cX2_bitOf 2 (some .int) : Cond) ∈ lw_gd := x_w 421 (by decide +kernel) rfl
theorem wd_422 : (.methodLink RX2 9 yX0_bitOf : Cond) ∈ lw_gd := x_w 422 (by decide +kernel) rfl
theorem wd_423 : (.selects RX4 ⟨"ClassBits$Run", "bitOf", "(I)I"⟩ yX4_bitOf : Cond) ∈ lw_gd := x_w 423 (by decide +kernel) rfl
theorem wd_424 : (.instanceMethod yX4_bitOf : Cond) ∈ lw_gd := x_w 424 (by decide +kernel) rfl
theorem wd_425 : (.code yX4_bitOf cX4_bitOf 2 (some .int) : Cond) ∈ lw_gd := x_w 425 (by decide +kernel) rfl
theorem wd_426 : (.selects RX8 ⟨"ClassBits$Run", "bitOf", "(I)I"⟩ yX8_bitOf : Cond) ∈ lw_gd := x_w 426 (by decide +kernel) rfl
theorem wd_427 : (.instanceMethod yX8_bitOf : Cond) ∈ lw_gd := x_w 427 (by decide +kernel) rfl
theorem wd_428 : (.code yX8_bitOf cX8_bitOf 2 (some .int) : Cond) ∈ lw_gd := x_w 428 (by decide +kernel) rfl
theorem wd_429 : (.selects RX10 ⟨"ClassBits$Run", "bitOf", "(I)I"⟩ yX10_bitOf : Cond) ∈ lw_gd := x_w 429 (by decide +kernel) rfl
theorem wd_430 : (.instanceMethod yX10_bitOf : Cond) ∈ lw_gd := x_w 430 (by decide +kernel) rfl
theorem wd_431 : (.code yX10_bitOf cX10_bitOf 2 (some .int) : Cond) ∈ lw_gd := x_w 431 (by decide +kernel) rfl
theorem wd_432 : (.methodLink RX1 30 yX1_append : Cond) ∈ lw_gd := x_w 432 (by decide +kernel) rfl
theorem wd_433 : (.instanceMethod yX1_append : Cond) ∈ lw_gd := x_w 433 (by decide +kernel) rfl
theorem wd_434 : (.selects RX1 yX1_append yX1_append : Cond) ∈ lw_gd := x_w 434 (by decide +kernel) rfl
theorem wd_435 : (.code yX1_append cX1_append 2 none : Cond) ∈ lw_gd := x_w 435 (by decide +kernel) rfl
theorem wd_436 : (.methodLink RX1 19 yX1_write : Cond) ∈ lw_gd := x_w 436 (by decide +kernel) rfl
theorem wd_437 : (.instanceMethod yX1_write : Cond) ∈ lw_gd := x_w 437 (by decide +kernel) rfl
theorem wd_438 : (.selects RX1 yX1_write yX1_write : Cond) ∈ lw_gd := x_w 438 (by decide +kernel) rfl
theorem wd_439 : (.code yX1_write cX1_write 5 none : Cond) ∈ lw_gd := x_w 439 (by decide +kernel) rfl
theorem wd_440 : (.methodLink RL 40 yX11_fault : Cond) ∈ lw_gd := x_w 440 (by decide +kernel) rfl
theorem wd_441 : (.instanceMethod yX11_fault : Cond) ∈ lw_gd := x_w 441 (by decide +kernel) rfl
theorem wd_442 : (.selects RX11 yX11_fault yX11_fault : Cond) ∈ lw_gd := x_w 442 (by decide +kernel) rfl
theorem wd_443 : (.code yX11_fault cX11_fault 1 (some .int) : Cond) ∈ lw_gd := x_w 443 (by decide +kernel) rfl
theorem wd_444 : (.methodLink RL 45 yX11_put : Cond) ∈ lw_gd := x_w 444 (by decide +kernel) rfl
theorem wd_445 : (.instanceMethod yX11_put : Cond) ∈ lw_gd := x_w 445 (by decide +kernel) rfl
theorem wd_446 : (.selects RX11 yX11_put yX11_put : Cond) ∈ lw_gd := x_w 446 (by decide +kernel) rfl
theorem wd_447 : (.code yX11_put cX11_put 6 (some .int) : Cond) ∈ lw_gd := x_w 447 (by decide +kernel) rfl
theorem wd_448 : (.methodLink RX11 149 yX11_isValue : Cond) ∈ lw_gd := x_w 448 (by decide +kernel) rfl
theorem wd_449 : (.static yX11_isValue : Cond) ∈ lw_gd := x_w 449 (by decide +kernel) rfl
theorem wd_450 : (.code yX11_isValue cX11_isValue 1 (some .boolean) : Cond) ∈ lw_gd := x_w 450 (by decide +kernel) rfl
theorem wd_451 : (.methodLink RX11 152 yX1_bitAt : Cond) ∈ lw_gd := x_w 451 (by decide +kernel) rfl
theorem wd_452 : (.instanceMethod yX1_bitAt : Cond) ∈ lw_gd := x_w 452 (by decide +kernel) rfl
theorem wd_453 : (.selects RX1 yX1_bitAt yX1_bitAt : Cond) ∈ lw_gd := x_w 453 (by decide +kernel) rfl
theorem wd_454 : (.code yX1_bitAt cX1_bitAt 2 (some .int) : Cond) ∈ lw_gd := x_w 454 (by decide +kernel) rfl
theorem wd_455 : (.methodLink RX11 155 yX1_write : Cond) ∈ lw_gd := x_w 455 (by decide +kernel) rfl
theorem wd_456 : (.methodLink RL 49 yX11_add : Cond) ∈ lw_gd := x_w 456 (by decide +kernel) rfl
theorem wd_457 : (.instanceMethod yX11_add : Cond) ∈ lw_gd := x_w 457 (by decide +kernel) rfl
theorem wd_458 : (.selects RX11 yX11_add yX11_add : Cond) ∈ lw_gd := x_w 458 (by decide +kernel) rfl
theorem wd_459 : (.code yX11_add cX11_add 6 (some .int) : Cond) ∈ lw_gd := x_w 459 (by decide +kernel) rfl
theorem wd_460 : (.methodLink RX11 158 yX1_append : Cond) ∈ lw_gd := x_w 460 (by decide +kernel) rfl
theorem wd_461 : (.methodLink RL 53 yX11_cut : Cond) ∈ lw_gd := x_w 461 (by decide +kernel) rfl
theorem wd_462 : (.instanceMethod yX11_cut : Cond) ∈ lw_gd := x_w 462 (by decide +kernel) rfl
theorem wd_463 : (.selects RX11 yX11_cut yX11_cut : Cond) ∈ lw_gd := x_w 463 (by decide +kernel) rfl
theorem wd_464 : (.code yX11_cut cX11_cut 5 (some .int) : Cond) ∈ lw_gd := x_w 464 (by decide +kernel) rfl
theorem wd_465 : (.methodLink RX11 160 yX1_shorten : Cond) ∈ lw_gd := x_w 465 (by decide +kernel) rfl
theorem wd_466 : (.instanceMethod yX1_shorten : Cond) ∈ lw_gd := x_w 466 (by decide +kernel) rfl
theorem wd_467 : (.selects RX1 yX1_shorten yX1_shorten : Cond) ∈ lw_gd := x_w 467 (by decide +kernel) rfl
theorem wd_468 : (.code yX1_shorten cX1_shorten 3 none : Cond) ∈ lw_gd := x_w 468 (by decide +kernel) rfl
theorem wd_470 : (.static yX11_firstPlaces : Cond) ∈ lw_gd := x_w 470 (by decide +kernel) rfl
theorem wd_471 : (.code yX11_firstPlaces cX11_firstPlaces 1 (some .int) : Cond) ∈ lw_gd := x_w 471 (by decide +kernel) rfl
theorem wd_472 : (.methodLink RX11 305 yJ9_min_7cf53 : Cond) ∈ lw_gd := x_w 472 (by decide +kernel) rfl
theorem wd_473 : (.static yJ9_min_7cf53 : Cond) ∈ lw_gd := x_w 473 (by decide +kernel) rfl
theorem wd_474 : (.code yJ9_min_7cf53 cJ9_min_7cf53 2 (some .int) : Cond) ∈ lw_gd := x_w 474 (by decide +kernel) rfl
theorem wd_475 : (.methodLink RX11 310 yJ9_max_7cf53 : Cond) ∈ lw_gd := x_w 475 (by decide +kernel) rfl
theorem wd_476 : (.static yJ9_max_7cf53 : Cond) ∈ lw_gd := x_w 476 (by decide +kernel) rfl
theorem wd_477 : (.code yJ9_max_7cf53 cJ9_max_7cf53 2 (some .int) : Cond) ∈ lw_gd := x_w 477 (by decide +kernel) rfl
theorem wd_478 : (.methodLink RL 58 yX11_join : Cond) ∈ lw_gd := x_w 478 (by decide +kernel) rfl
theorem wd_479 : (.instanceMethod yX11_join : Cond) ∈ lw_gd := x_w 479 (by decide +kernel) rfl
theorem wd_480 : (.selects RX11 yX11_join yX11_join : Cond) ∈ lw_gd := x_w 480 (by decide +kernel) rfl
theorem wd_481 : (.code yX11_join cX11_join 6 (some .int) : Cond) ∈ lw_gd := x_w 481 (by decide +kernel) rfl
theorem wd_482 : (.methodLink RX11 163 yX1_becomeJoined : Cond) ∈ lw_gd := x_w 482 (by decide +kernel) rfl
theorem wd_483 : (.instanceMethod yX1_becomeJoined : Cond) ∈ lw_gd := x_w 483 (by decide +kernel) rfl
theorem wd_484 : (.selects RX1 yX1_becomeJoined yX1_becomeJoined : Cond) ∈ lw_gd := x_w 484 (by decide +kernel) rfl
theorem wd_485 : (.code yX1_becomeJoined cX1_becomeJoined 5 none : Cond) ∈ lw_gd := x_w 485 (by decide +kernel) rfl
theorem wd_486 : (.methodLink RX1 49 yJ9_max_7cf53 : Cond) ∈ lw_gd := x_w 486 (by decide +kernel) rfl
theorem wd_487 : (.methodLink RX1 55 yX1_joinedMask : Cond) ∈ lw_gd := x_w 487 (by decide +kernel) rfl
theorem wd_488 : (.static yX1_joinedMask : Cond) ∈ lw_gd := x_w 488 (by decide +kernel) rfl
theorem wd_489 : (.code yX1_joinedMask cX1_joinedMask 3 (some .int) : Cond) ∈ lw_gd := x_w 489 (by decide +kernel) rfl
theorem wd_490 : (.methodLink RX11 167 yX1_countOnes : Cond) ∈ lw_gd := x_w 490 (by decide +kernel) rfl
theorem wd_491 : (.instanceMethod yX1_countOnes : Cond) ∈ lw_gd := x_w 491 (by decide +kernel) rfl
theorem wd_492 : (.selects RX1 yX1_countOnes yX1_countOnes : Cond) ∈ lw_gd := x_w 492 (by decide +kernel) rfl
theorem wd_493 : (.code yX1_countOnes cX1_countOnes 1 (some .int) : Cond) ∈ lw_gd := x_w 493 (by decide +kernel) rfl
theorem wd_494 : (.methodLink RX1 64 yX1_onesAhead : Cond) ∈ lw_gd := x_w 494 (by decide +kernel) rfl
theorem wd_495 : (.instanceMethod yX1_onesAhead : Cond) ∈ lw_gd := x_w 495 (by decide +kernel) rfl
theorem wd_496 : (.selects RX1 yX1_onesAhead yX1_onesAhead : Cond) ∈ lw_gd := x_w 496 (by decide +kernel) rfl
theorem wd_497 : (.code yX1_onesAhead cX1_onesAhead 4 (some .int) : Cond) ∈ lw_gd := x_w 497 (by decide +kernel) rfl
theorem wd_498 : (.methodLink RX1 59 yJ6_bitCount_0f7a4 : Cond) ∈ lw_gd := x_w 498 (by decide +kernel) rfl
theorem wd_499 : (.static yJ6_bitCount_0f7a4 : Cond) ∈ lw_gd := x_w 499 (by decide +kernel) rfl
theorem wd_500 : (.code yJ6_bitCount_0f7a4 cJ6_bitCount_0f7a4 1 (some .int) : Cond) ∈ lw_gd := x_w 500 (by decide +kernel) rfl
theorem wd_501 : (.constant RJ6 265 1431655765 : Cond) ∈ lw_gd := x_w 501 (by decide +kernel) rfl
theorem wd_502 : (.constant RJ6 266 858993459 : Cond) ∈ lw_gd := x_w 502 (by decide +kernel) rfl
theorem wd_503 : (.constant RJ6 267 252645135 : Cond) ∈ lw_gd := x_w 503 (by decide +kernel) rfl
theorem wd_504 : (.methodLink RL 63 yX11_turn : Cond) ∈ lw_gd := x_w 504 (by decide +kernel) rfl
theorem wd_505 : (.instanceMethod yX11_turn : Cond) ∈ lw_gd := x_w 505 (by decide +kernel) rfl
theorem wd_506 : (.selects RX11 yX11_turn yX11_turn : Cond) ∈ lw_gd := x_w 506 (by decide +kernel) rfl
theorem wd_507 : (.code yX11_turn cX11_turn 3 (some .int) : Cond) ∈ lw_gd := x_w 507 (by decide +kernel) rfl
theorem wd_508 : (.methodLink RX11 170 yX1_invert : Cond) ∈ lw_gd := x_w 508 (by decide +kernel) rfl
theorem wd_509 : (.instanceMethod yX1_invert : Cond) ∈ lw_gd := x_w 509 (by decide +kernel) rfl
theorem wd_510 : (.selects RX1 yX1_invert yX1_invert : Cond) ∈ lw_gd := x_w 510 (by decide +kernel) rfl
theorem wd_511 : (.code yX1_invert cX1_invert 2 none : Cond) ∈ lw_gd := x_w 511 (by decide +kernel) rfl
theorem wd_512 : (.methodLink RL 67 yX11_take : Cond) ∈ lw_gd := x_w 512 (by decide +kernel) rfl
theorem wd_513 : (.instanceMethod yX11_take : Cond) ∈ lw_gd := x_w 513 (by decide +kernel) rfl
theorem wd_514 : (.selects RX11 yX11_take yX11_take : Cond) ∈ lw_gd := x_w 514 (by decide +kernel) rfl
theorem wd_515 : (.code yX11_take cX11_take 8 (some .int) : Cond) ∈ lw_gd := x_w 515 (by decide +kernel) rfl
theorem wd_516 : (.methodLink RX11 173 yX5_tellsPlaces : Cond) ∈ lw_gd := x_w 516 (by decide +kernel) rfl
theorem wd_517 : (.instanceMethod yX5_tellsPlaces : Cond) ∈ lw_gd := x_w 517 (by decide +kernel) rfl
theorem wd_518 : (.selects RX5 yX5_tellsPlaces yX5_tellsPlaces : Cond) ∈ lw_gd := x_w 518 (by decide +kernel) rfl
theorem wd_519 : (.code yX5_tellsPlaces cX5_tellsPlaces 4 (some .boolean) : Cond) ∈ lw_gd := x_w 519 (by decide +kernel) rfl
theorem wd_520 : (.methodLink RL 71 yX11_undo : Cond) ∈ lw_gd := x_w 520 (by decide +kernel) rfl
theorem wd_521 : (.instanceMethod yX11_undo : Cond) ∈ lw_gd := x_w 521 (by decide +kernel) rfl
theorem wd_522 : (.selects RX11 yX11_undo yX11_undo : Cond) ∈ lw_gd := x_w 522 (by decide +kernel) rfl
theorem wd_523 : (.code yX11_undo cX11_undo 1 (some .int) : Cond) ∈ lw_gd := x_w 523 (by decide +kernel) rfl
theorem wd_524 : (.constant RX11 179 (-1000002) : Cond) ∈ lw_gd := x_w 524 (by decide +kernel) rfl
theorem wd_525 : (.methodLink RX11 180 yX3_giveBack : Cond) ∈ lw_gd := x_w 525 (by decide +kernel) rfl
theorem wd_526 : (.instanceMethod yX3_giveBack : Cond) ∈ lw_gd := x_w 526 (by decide +kernel) rfl
theorem wd_527 : (.selects RX3 yX3_giveBack yX3_giveBack : Cond) ∈ lw_gd := x_w 527 (by decide +kernel) rfl
theorem wd_528 : (.code yX3_giveBack cX3_giveBack 3 none : Cond) ∈ lw_gd := x_w 528 (by decide +kernel) rfl
theorem wd_529 : (.methodLink RL 75 yX11_bits : Cond) ∈ lw_gd := x_w 529 (by decide +kernel) rfl
theorem wd_530 : (.instanceMethod yX11_bits : Cond) ∈ lw_gd := x_w 530 (by decide +kernel) rfl
theorem wd_531 : (.selects RX11 yX11_bits yX11_bits : Cond) ∈ lw_gd := x_w 531 (by decide +kernel) rfl
theorem wd_532 : (.code yX11_bits cX11_bits 2 (some .int) : Cond) ∈ lw_gd := x_w 532 (by decide +kernel) rfl
theorem wd_533 : (.methodLink RL 79 yX11_get : Cond) ∈ lw_gd := x_w 533 (by decide +kernel) rfl
theorem wd_534 : (.instanceMethod yX11_get : Cond) ∈ lw_gd := x_w 534 (by decide +kernel) rfl
theorem wd_535 : (.selects RX11 yX11_get yX11_get : Cond) ∈ lw_gd := x_w 535 (by decide +kernel) rfl
theorem wd_536 : (.code yX11_get cX11_get 3 (some .int) : Cond) ∈ lw_gd := x_w 536 (by decide +kernel) rfl
theorem wd_537 : (.methodLink RL 83 yX11_ones : Cond) ∈ lw_gd := x_w 537 (by decide +kernel) rfl
theorem wd_538 : (.instanceMethod yX11_ones : Cond) ∈ lw_gd := x_w 538 (by decide +kernel) rfl
theorem wd_539 : (.selects RX11 yX11_ones yX11_ones : Cond) ∈ lw_gd := x_w 539 (by decide +kernel) rfl
theorem wd_540 : (.code yX11_ones cX11_ones 2 (some .int) : Cond) ∈ lw_gd := x_w 540 (by decide +kernel) rfl
theorem wd_541 : (.methodLink RL 87 yX11_block : Cond) ∈ lw_gd := x_w 541 (by decide +kernel) rfl
theorem wd_542 : (.instanceMethod yX11_block : Cond) ∈ lw_gd := x_w 542 (by decide +kernel) rfl
theorem wd_543 : (.selects RX11 yX11_block yX11_block : Cond) ∈ lw_gd := x_w 543 (by decide +kernel) rfl
theorem wd_544 : (.code yX11_block cX11_block 5 (some .int) : Cond) ∈ lw_gd := x_w 544 (by decide +kernel) rfl
theorem wd_545 : (.methodLink RX11 184 yX1_blockCount : Cond) ∈ lw_gd := x_w 545 (by decide +kernel) rfl
theorem wd_546 : (.instanceMethod yX1_blockCount : Cond) ∈ lw_gd := x_w 546 (by decide +kernel) rfl
theorem wd_547 : (.selects RX1 yX1_blockCount yX1_blockCount : Cond) ∈ lw_gd := x_w 547 (by decide +kernel) rfl
theorem wd_548 : (.code yX1_blockCount cX1_blockCount 1 (some .int) : Cond) ∈ lw_gd := x_w 548 (by decide +kernel) rfl
theorem wd_549 : (.methodLink RX11 187 yX1_classOf : Cond) ∈ lw_gd := x_w 549 (by decide +kernel) rfl
theorem wd_550 : (.instanceMethod yX1_classOf : Cond) ∈ lw_gd := x_w 550 (by decide +kernel) rfl
theorem wd_551 : (.selects RX1 yX1_classOf yX1_classOf : Cond) ∈ lw_gd := x_w 551 (by decide +kernel) rfl
theorem wd_552 : (.code yX1_classOf cX1_classOf 2 (some .int) : Cond) ∈ lw_gd := x_w 552 (by decide +kernel) rfl
theorem wd_553 : (.methodLink RX11 193 yX11_offsetOf : Cond) ∈ lw_gd := x_w 553 (by decide +kernel) rfl
theorem wd_554 : (.static yX11_offsetOf : Cond) ∈ lw_gd := x_w 554 (by decide +kernel) rfl
theorem wd_555 : (.code yX11_offsetOf cX11_offsetOf 4 (some .int) : Cond) ∈ lw_gd := x_w 555 (by decide +kernel) rfl
theorem wd_556 : (.methodLink RX11 217 yX11_choices : Cond) ∈ lw_gd := x_w 556 (by decide +kernel) rfl
theorem wd_557 : (.static yX11_choices : Cond) ∈ lw_gd := x_w 557 (by decide +kernel) rfl
theorem wd_558 : (.code yX11_choices cX11_choices 2 (some .int) : Cond) ∈ lw_gd := x_w 558 (by decide +kernel) rfl
theorem wd_559 : (.fieldLink RX11 302 "ClassBits" "CHOICES" "[I" : Cond) ∈ lw_gd := x_w 559 (by decide +kernel) rfl
theorem wd_561 : (.fieldLink RX11 196 "ClassBits" "WIDTHS" "[I" : Cond) ∈ lw_gd := x_w 561 (by decide +kernel) rfl
theorem wd_563 : (.methodLink RX11 199 yX1_beginOf : Cond) ∈ lw_gd := x_w 563 (by decide +kernel) rfl
theorem wd_564 : (.instanceMethod yX1_beginOf : Cond) ∈ lw_gd := x_w 564 (by decide +kernel) rfl
theorem wd_565 : (.selects RX1 yX1_beginOf yX1_beginOf : Cond) ∈ lw_gd := x_w 565 (by decide +kernel) rfl
theorem wd_566 : (.code yX1_beginOf cX1_beginOf 4 (some .int) : Cond) ∈ lw_gd := x_w 566 (by decide +kernel) rfl
theorem wd_568 : (.methodLink RX1 74 yX1_classOf : Cond) ∈ lw_gd := x_w 568 (by decide +kernel) rfl
theorem wd_569 : (.methodLink RL 91 yX11_entry : Cond) ∈ lw_gd := x_w 569 (by decide +kernel) rfl
theorem wd_570 : (.instanceMethod yX11_entry : Cond) ∈ lw_gd := x_w 570 (by decide +kernel) rfl
theorem wd_571 : (.selects RX11 yX11_entry yX11_entry : Cond) ∈ lw_gd := x_w 571 (by decide +kernel) rfl
theorem wd_572 : (.code yX11_entry cX11_entry 5 (some .int) : Cond) ∈ lw_gd := x_w 572 (by decide +kernel) rfl
theorem wd_573 : (.methodLink RX11 202 yX1_entryCount : Cond) ∈ lw_gd := x_w 573 (by decide +kernel) rfl
theorem wd_574 : (.instanceMethod yX1_entryCount : Cond) ∈ lw_gd := x_w 574 (by decide +kernel) rfl
theorem wd_575 : (.selects RX1 yX1_entryCount yX1_entryCount : Cond) ∈ lw_gd := x_w 575 (by decide +kernel) rfl
theorem wd_576 : (.code yX1_entryCount cX1_entryCount 1 (some .int) : Cond) ∈ lw_gd := x_w 576 (by decide +kernel) rfl
theorem wd_577 : (.methodLink RX1 67 yX1_blockCount : Cond) ∈ lw_gd := x_w 577 (by decide +kernel) rfl
theorem wd_578 : (.methodLink RX11 205 yX1_onesAhead : Cond) ∈ lw_gd := x_w 578 (by decide +kernel) rfl
theorem wd_579 : (.methodLink RL 95 yX11_size : Cond) ∈ lw_gd := x_w 579 (by decide +kernel) rfl
theorem wd_580 : (.instanceMethod yX11_size : Cond) ∈ lw_gd := x_w 580 (by decide +kernel) rfl
theorem wd_581 : (.selects RX11 yX11_size yX11_size : Cond) ∈ lw_gd := x_w 581 (by decide +kernel) rfl
theorem wd_582 : (.code yX11_size cX11_size 6 (some .int) : Cond) ∈ lw_gd := x_w 582 (by decide +kernel) rfl
theorem wd_583 : (.methodLink RX11 208 yX1_payloadBits : Cond) ∈ lw_gd := x_w 583 (by decide +kernel) rfl
theorem wd_584 : (.instanceMethod yX1_payloadBits : Cond) ∈ lw_gd := x_w 584 (by decide +kernel) rfl
theorem wd_585 : (.selects RX1 yX1_payloadBits yX1_payloadBits : Cond) ∈ lw_gd := x_w 585 (by decide +kernel) rfl
theorem wd_586 : (.code yX1_payloadBits cX1_payloadBits 1 (some .int) : Cond) ∈ lw_gd := x_w 586 (by decide +kernel) rfl
theorem wd_587 : (.methodLink RX1 77 yX1_beginOf : Cond) ∈ lw_gd := x_w 587 (by decide +kernel) rfl
theorem wd_588 : (.methodLink RL 99 yX11_payload : Cond) ∈ lw_gd := x_w 588 (by decide +kernel) rfl
theorem wd_589 : (.instanceMethod yX11_payload : Cond) ∈ lw_gd := x_w 589 (by decide +kernel) rfl
theorem wd_590 : (.selects RX11 yX11_payload yX11_payload : Cond) ∈ lw_gd := x_w 590 (by decide +kernel) rfl
theorem wd_591 : (.code yX11_payload cX11_payload 3 (some .long) : Cond) ∈ lw_gd := x_w 591 (by decide +kernel) rfl
theorem wd_592 : (.constantLong RX11 211 (-1000001) : Cond) ∈ lw_gd := x_w 592 (by decide +kernel) rfl
theorem wd_593 : (.methodLink RX11 213 yX1_payloadWord : Cond) ∈ lw_gd := x_w 593 (by decide +kernel) rfl
theorem wd_594 : (.instanceMethod yX1_payloadWord : Cond) ∈ lw_gd := x_w 594 (by decide +kernel) rfl
theorem wd_595 : (.selects RX1 yX1_payloadWord yX1_payloadWord : Cond) ∈ lw_gd := x_w 595 (by decide +kernel) rfl
theorem wd_596 : (.code yX1_payloadWord cX1_payloadWord 9 (some .long) : Cond) ∈ lw_gd := x_w 596 (by decide +kernel) rfl
theorem wd_598 : (.methodLink RL 104 yX11_choose : Cond) ∈ lw_gd := x_w 598 (by decide +kernel) rfl
theorem wd_599 : (.instanceMethod yX11_choose : Cond) ∈ lw_gd := x_w 599 (by decide +kernel) rfl
theorem wd_600 : (.selects RX11 yX11_choose yX11_choose : Cond) ∈ lw_gd := x_w 600 (by decide +kernel) rfl
theorem wd_601 : (.code yX11_choose cX11_choose 3 (some .int) : Cond) ∈ lw_gd := x_w 601 (by decide +kernel) rfl
theorem wd_602 : (.methodLink RL 108 yX11_offset : Cond) ∈ lw_gd := x_w 602 (by decide +kernel) rfl
theorem wd_603 : (.instanceMethod yX11_offset : Cond) ∈ lw_gd := x_w 603 (by decide +kernel) rfl
theorem wd_604 : (.selects RX11 yX11_offset yX11_offset : Cond) ∈ lw_gd := x_w 604 (by decide +kernel) rfl
theorem wd_605 : (.code yX11_offset cX11_offset 2 (some .int) : Cond) ∈ lw_gd := x_w 605 (by decide +kernel) rfl
theorem wd_606 : (.methodLink RL 112 yX11_mask : Cond) ∈ lw_gd := x_w 606 (by decide +kernel) rfl
theorem wd_607 : (.instanceMethod yX11_mask : Cond) ∈ lw_gd := x_w 607 (by decide +kernel) rfl
theorem wd_608 : (.selects RX11 yX11_mask yX11_mask : Cond) ∈ lw_gd := x_w 608 (by decide +kernel) rfl
theorem wd_609 : (.code yX11_mask cX11_mask 3 (some .int) : Cond) ∈ lw_gd := x_w 609 (by decide +kernel) rfl
theorem wd_610 : (.methodLink RX11 221 yX11_maskOf : Cond) ∈ lw_gd := x_w 610 (by decide +kernel) rfl
theorem wd_611 : (.static yX11_maskOf : Cond) ∈ lw_gd := x_w 611 (by decide +kernel) rfl
theorem wd_612 : (.code yX11_maskOf cX11_maskOf 6 (some .int) : Cond) ∈ lw_gd := x_w 612 (by decide +kernel) rfl
theorem wd_613 : (.methodLink RL 116 yX11_rank : Cond) ∈ lw_gd := x_w 613 (by decide +kernel) rfl
theorem wd_614 : (.instanceMethod yX11_rank : Cond) ∈ lw_gd := x_w 614 (by decide +kernel) rfl
theorem wd_615 : (.selects RX11 yX11_rank yX11_rank : Cond) ∈ lw_gd := x_w 615 (by decide +kernel) rfl
theorem wd_616 : (.code yX11_rank cX11_rank 5 (some .int) : Cond) ∈ lw_gd := x_w 616 (by decide +kernel) rfl
theorem wd_617 : (.methodLink RX11 224 yX11_isPlaceOrEnd : Cond) ∈ lw_gd := x_w 617 (by decide +kernel) rfl
theorem wd_619 : (.instanceMethod yX11_isPlaceOrEnd : Cond) ∈ lw_gd := x_w 619 (by decide +kernel) rfl
theorem wd_620 : (.code yX11_isPlaceOrEnd cX11_isPlaceOrEnd 3 (some .boolean) : Cond) ∈ lw_gd := x_w 620 (by decide +kernel) rfl
theorem wd_621 : (.methodLink RL 120 yX11_select : Cond) ∈ lw_gd := x_w 621 (by decide +kernel) rfl
theorem wd_622 : (.instanceMethod yX11_select : Cond) ∈ lw_gd := x_w 622 (by decide +kernel) rfl
theorem wd_623 : (.selects RX11 yX11_select yX11_select : Cond) ∈ lw_gd := x_w 623 (by decide +kernel) rfl
theorem wd_624 : (.code yX11_select cX11_select 7 (some .int) : Cond) ∈ lw_gd := x_w 624 (by decide +kernel) rfl
theorem wd_625 : (.constant RX11 227 (-1000000) : Cond) ∈ lw_gd := x_w 625 (by decide +kernel) rfl
theorem wd_626 : (.methodLink RL 124 yX11_next : Cond) ∈ lw_gd := x_w 626 (by decide +kernel) rfl
theorem wd_627 : (.instanceMethod yX11_next : Cond) ∈ lw_gd := x_w 627 (by decide +kernel) rfl
theorem wd_628 : (.selects RX11 yX11_next yX11_next : Cond) ∈ lw_gd := x_w 628 (by decide +kernel) rfl
theorem wd_629 : (.code yX11_next cX11_next 6 (some .int) : Cond) ∈ lw_gd := x_w 629 (by decide +kernel) rfl
theorem wd_630 : (.methodLink RL 128 yX11_last : Cond) ∈ lw_gd := x_w 630 (by decide +kernel) rfl
theorem wd_631 : (.instanceMethod yX11_last : Cond) ∈ lw_gd := x_w 631 (by decide +kernel) rfl
theorem wd_632 : (.selects RX11 yX11_last yX11_last : Cond) ∈ lw_gd := x_w 632 (by decide +kernel) rfl
theorem wd_633 : (.code yX11_last cX11_last 6 (some .int) : Cond) ∈ lw_gd := x_w 633 (by decide +kernel) rfl
theorem wd_634 : (.methodLink RL 132 yX11_stretches : Cond) ∈ lw_gd := x_w 634 (by decide +kernel) rfl
theorem wd_635 : (.instanceMethod yX11_stretches : Cond) ∈ lw_gd := x_w 635 (by decide +kernel) rfl
theorem wd_636 : (.selects RX11 yX11_stretches yX11_stretches : Cond) ∈ lw_gd := x_w 636 (by decide +kernel) rfl
theorem wd_637 : (.code yX11_stretches cX11_stretches 5 (some .int) : Cond) ∈ lw_gd := x_w 637 (by decide +kernel) rfl
theorem wd_638 : (.methodLink RL 136 yX11_longest : Cond) ∈ lw_gd := x_w 638 (by decide +kernel) rfl
theorem wd_639 : (.instanceMethod yX11_longest : Cond) ∈ lw_gd := x_w 639 (by decide +kernel) rfl
theorem wd_640 : (.selects RX11 yX11_longest yX11_longest : Cond) ∈ lw_gd := x_w 640 (by decide +kernel) rfl
theorem wd_641 : (.code yX11_longest cX11_longest 9 (some .int) : Cond) ∈ lw_gd := x_w 641 (by decide +kernel) rfl
theorem wd_642 : (.methodLink RL 140 yX11_alike : Cond) ∈ lw_gd := x_w 642 (by decide +kernel) rfl
theorem wd_643 : (.instanceMethod yX11_alike : Cond) ∈ lw_gd := x_w 643 (by decide +kernel) rfl
theorem wd_644 : (.selects RX11 yX11_alike yX11_alike : Cond) ∈ lw_gd := x_w 644 (by decide +kernel) rfl
theorem wd_645 : (.code yX11_alike cX11_alike 7 (some .int) : Cond) ∈ lw_gd := x_w 645 (by decide +kernel) rfl
theorem wd_646 : (.methodLink RX11 228 yX11_commonDivisor : Cond) ∈ lw_gd := x_w 646 (by decide +kernel) rfl
theorem wd_647 : (.static yX11_commonDivisor : Cond) ∈ lw_gd := x_w 647 (by decide +kernel) rfl
theorem wd_648 : (.code yX11_commonDivisor cX11_commonDivisor 6 (some .int) : Cond) ∈ lw_gd := x_w 648 (by decide +kernel) rfl
theorem wd_649 : (.methodLink RL 144 yX11_weight : Cond) ∈ lw_gd := x_w 649 (by decide +kernel) rfl
theorem wd_650 : (.instanceMethod yX11_weight : Cond) ∈ lw_gd := x_w 650 (by decide +kernel) rfl
theorem wd_651 : (.selects RX11 yX11_weight yX11_weight : Cond) ∈ lw_gd := x_w 651 (by decide +kernel) rfl
theorem wd_652 : (.code yX11_weight cX11_weight 9 (some .int) : Cond) ∈ lw_gd := x_w 652 (by decide +kernel) rfl
theorem wd_653 : (.methodLink RX11 231 yX11_isInt : Cond) ∈ lw_gd := x_w 653 (by decide +kernel) rfl
theorem wd_654 : (.static yX11_isInt : Cond) ∈ lw_gd := x_w 654 (by decide +kernel) rfl
theorem wd_655 : (.code yX11_isInt cX11_isInt 2 (some .boolean) : Cond) ∈ lw_gd := x_w 655 (by decide +kernel) rfl
theorem wd_656 : (.methodLink RL 148 yX11_tell : Cond) ∈ lw_gd := x_w 656 (by decide +kernel) rfl
theorem wd_657 : (.instanceMethod yX11_tell : Cond) ∈ lw_gd := x_w 657 (by decide +kernel) rfl
theorem wd_658 : (.selects RX11 yX11_tell yX11_tell : Cond) ∈ lw_gd := x_w 658 (by decide +kernel) rfl
theorem wd_659 : (.code yX11_tell cX11_tell 10 (some .int) : Cond) ∈ lw_gd := x_w 659 (by decide +kernel) rfl
theorem wd_660 : (.methodLink RL 152 yX11_drawn : Cond) ∈ lw_gd := x_w 660 (by decide +kernel) rfl
theorem wd_661 : (.instanceMethod yX11_drawn : Cond) ∈ lw_gd := x_w 661 (by decide +kernel) rfl
theorem wd_662 : (.selects RX11 yX11_drawn yX11_drawn : Cond) ∈ lw_gd := x_w 662 (by decide +kernel) rfl
theorem wd_663 : (.code yX11_drawn cX11_drawn 9 (some .int) : Cond) ∈ lw_gd := x_w 663 (by decide +kernel) rfl
theorem wd_664 : (.constant RX11 235 999999 : Cond) ∈ lw_gd := x_w 664 (by decide +kernel) rfl
theorem wd_665 : (.methodLink RX11 236 yX1_copyFrom : Cond) ∈ lw_gd := x_w 665 (by decide +kernel) rfl
theorem wd_666 : (.constantLong RX11 240 16807 : Cond) ∈ lw_gd := x_w 666 (by decide +kernel) rfl
theorem wd_667 : (.constantLong RX11 242 2147483647 : Cond) ∈ lw_gd := x_w 667 (by decide +kernel) rfl
theorem wd_668 : (.methodLink RL 156 yX11_image : Cond) ∈ lw_gd := x_w 668 (by decide +kernel) rfl
theorem wd_669 : (.instanceMethod yX11_image : Cond) ∈ lw_gd := x_w 669 (by decide +kernel) rfl
theorem wd_670 : (.selects RX11 yX11_image yX11_image : Cond) ∈ lw_gd := x_w 670 (by decide +kernel) rfl
theorem wd_671 : (.code yX11_image cX11_image 3 (some .int) : Cond) ∈ lw_gd := x_w 671 (by decide +kernel) rfl
theorem wd_672 : (.methodLink RX11 244 yX11_onesOfAll : Cond) ∈ lw_gd := x_w 672 (by decide +kernel) rfl
theorem wd_674 : (.instanceMethod yX11_onesOfAll : Cond) ∈ lw_gd := x_w 674 (by decide +kernel) rfl
theorem wd_675 : (.code yX11_onesOfAll cX11_onesOfAll 3 (some .int) : Cond) ∈ lw_gd := x_w 675 (by decide +kernel) rfl
theorem wd_676 : (.methodLink RL 160 yX11_restore : Cond) ∈ lw_gd := x_w 676 (by decide +kernel) rfl
theorem wd_677 : (.instanceMethod yX11_restore : Cond) ∈ lw_gd := x_w 677 (by decide +kernel) rfl
theorem wd_678 : (.selects RX11 yX11_restore yX11_restore : Cond) ∈ lw_gd := x_w 678 (by decide +kernel) rfl
theorem wd_679 : (.code yX11_restore cX11_restore 3 (some .int) : Cond) ∈ lw_gd := x_w 679 (by decide +kernel) rfl
theorem wd_680 : (.methodLink RX11 247 yX3_forgetAll : Cond) ∈ lw_gd := x_w 680 (by decide +kernel) rfl
theorem wd_681 : (.instanceMethod yX3_forgetAll : Cond) ∈ lw_gd := x_w 681 (by decide +kernel) rfl
theorem wd_682 : (.selects RX3 yX3_forgetAll yX3_forgetAll : Cond) ∈ lw_gd := x_w 682 (by decide +kernel) rfl
theorem wd_683 : (.code yX3_forgetAll cX3_forgetAll 1 none : Cond) ∈ lw_gd := x_w 683 (by decide +kernel) rfl
theorem wd_684 : (.methodLink RL 164 yX11_kind : Cond) ∈ lw_gd := x_w 684 (by decide +kernel) rfl
theorem wd_685 : (.instanceMethod yX11_kind : Cond) ∈ lw_gd := x_w 685 (by decide +kernel) rfl
theorem wd_686 : (.selects RX11 yX11_kind yX11_kind : Cond) ∈ lw_gd := x_w 686 (by decide +kernel) rfl
theorem wd_687 : (.code yX11_kind cX11_kind 2 (some .int) : Cond) ∈ lw_gd := x_w 687 (by decide +kernel) rfl
theorem wd_688 : (.methodLink RX11 250 yX11_isRun : Cond) ∈ lw_gd := x_w 688 (by decide +kernel) rfl
theorem wd_690 : (.instanceMethod yX11_isRun : Cond) ∈ lw_gd := x_w 690 (by decide +kernel) rfl
theorem wd_691 : (.code yX11_isRun cX11_isRun 2 (some .boolean) : Cond) ∈ lw_gd := x_w 691 (by decide +kernel) rfl
theorem wd_692 : (.methodLink RX11 253 ⟨"ClassBits$Run", "kindNumber", "()I"⟩ : Cond) ∈ lw_gd := x_w 692 (by decide +kernel) rfl
theorem wd_694 : (.sameMethod RX6 RX6 "kindNumber" "()I" : Cond) ∈ lw_gd := x_w 694 (by decide +kernel) rfl
theorem wd_695 : (.selects RX0 ⟨"ClassBits$Run", "kindNumber", "()I"⟩ yX0_kindNumber : Cond) ∈ lw_gd := x_w 695 (by decide +kernel) rfl
theorem wd_696 : (.instanceMethod yX0_kindNumber : Cond) ∈ lw_gd := x_w 696 (by decide +kernel) rfl
theorem wd_697 : (.code yX0_kindNumber cX0_kindNumber 1 (some .int) : Cond) ∈ lw_gd := x_w 697 (by decide +kernel) rfl
theorem wd_698 : (.selects RX2 ⟨"ClassBits$Run", "kindNumber", "()I"⟩ yX2_kindNumber : Cond) ∈ lw_gd := x_w 698 (by decide +kernel) rfl
theorem wd_699 : (.instanceMethod yX2_kindNumber : Cond) ∈ lw_gd := x_w 699 (by decide +kernel) rfl
theorem wd_700 : (.code yX2_kindNumber cX2_kindNumber 1 (some .int) : Cond) ∈ lw_gd := x_w 700 (by decide +kernel) rfl
theorem wd_701 : (.selects RX4 ⟨"ClassBits$Run", "kindNumber", "()I"⟩ yX4_kindNumber : Cond) ∈ lw_gd := x_w 701 (by decide +kernel) rfl
theorem wd_702 : (.instanceMethod yX4_kindNumber : Cond) ∈ lw_gd := x_w 702 (by decide +kernel) rfl
theorem wd_703 : (.code yX4_kindNumber cX4_kindNumber 1 (some .int) : Cond) ∈ lw_gd := x_w 703 (by decide +kernel) rfl
theorem wd_704 : (.selects RX8 ⟨"ClassBits$Run", "kindNumber", "()I"⟩ yX8_kindNumber : Cond) ∈ lw_gd := x_w 704 (by decide +kernel) rfl
theorem wd_705 : (.instanceMethod yX8_kindNumber : Cond) ∈ lw_gd := x_w 705 (by decide +kernel) rfl
theorem wd_706 : (.code yX8_kindNumber cX8_kindNumber 1 (some .int) : Cond) ∈ lw_gd := x_w 706 (by decide +kernel) rfl
theorem wd_707 : (.selects RX10 ⟨"ClassBits$Run", "kindNumber", "()I"⟩ yX10_kindNumber : Cond) ∈ lw_gd := x_w 707 (by decide +kernel) rfl
theorem wd_708 : (.instanceMethod yX10_kindNumber : Cond) ∈ lw_gd := x_w 708 (by decide +kernel) rfl
theorem wd_709 : (.code yX10_kindNumber cX10_kindNumber 1 (some .int) : Cond) ∈ lw_gd := x_w 709 (by decide +kernel) rfl
theorem wd_710 : (.methodLink RL 168 yX11_as : Cond) ∈ lw_gd := x_w 710 (by decide +kernel) rfl
theorem wd_711 : (.instanceMethod yX11_as : Cond) ∈ lw_gd := x_w 711 (by decide +kernel) rfl
theorem wd_712 : (.selects RX11 yX11_as yX11_as : Cond) ∈ lw_gd := x_w 712 (by decide +kernel) rfl
theorem wd_713 : (.code yX11_as cX11_as 3 (some .int) : Cond) ∈ lw_gd := x_w 713 (by decide +kernel) rfl
theorem wd_714 : (.methodLink RX11 256 yX11_isOfKind : Cond) ∈ lw_gd := x_w 714 (by decide +kernel) rfl
theorem wd_715 : (.static yX11_isOfKind : Cond) ∈ lw_gd := x_w 715 (by decide +kernel) rfl
theorem wd_716 : (.code yX11_isOfKind cX11_isOfKind 2 (some .boolean) : Cond) ∈ lw_gd := x_w 716 (by decide +kernel) rfl
theorem wd_717 : (.methodLink RL 172 yX11_ask : Cond) ∈ lw_gd := x_w 717 (by decide +kernel) rfl
theorem wd_718 : (.instanceMethod yX11_ask : Cond) ∈ lw_gd := x_w 718 (by decide +kernel) rfl
theorem wd_719 : (.selects RX11 yX11_ask yX11_ask : Cond) ∈ lw_gd := x_w 719 (by decide +kernel) rfl
theorem wd_720 : (.code yX11_ask cX11_ask 3 (some .int) : Cond) ∈ lw_gd := x_w 720 (by decide +kernel) rfl
theorem wd_721 : (.methodLink RX11 264 yX6_tellSize : Cond) ∈ lw_gd := x_w 721 (by decide +kernel) rfl
theorem wd_722 : (.instanceMethod yX6_tellSize : Cond) ∈ lw_gd := x_w 722 (by decide +kernel) rfl
theorem wd_723 : (.sameMethod RX6 RX6 "tellSize" "(LClassBits$Trace;)I" : Cond) ∈ lw_gd := x_w 723 (by decide +kernel) rfl
theorem wd_724 : (.selects RX0 yX6_tellSize yX0_tellSize : Cond) ∈ lw_gd := x_w 724 (by decide +kernel) rfl
theorem wd_725 : (.instanceMethod yX0_tellSize : Cond) ∈ lw_gd := x_w 725 (by decide +kernel) rfl
theorem wd_726 : (.code yX0_tellSize cX0_tellSize 2 (some .int) : Cond) ∈ lw_gd := x_w 726 (by decide +kernel) rfl
theorem wd_727 : (.methodLink RX0 9 yX9_note : Cond) ∈ lw_gd := x_w 727 (by decide +kernel) rfl
theorem wd_728 : (.instanceMethod yX9_note : Cond) ∈ lw_gd := x_w 728 (by decide +kernel) rfl
theorem wd_729 : (.selects RX9 yX9_note yX9_note : Cond) ∈ lw_gd := x_w 729 (by decide +kernel) rfl
theorem wd_730 : (.code yX9_note cX9_note 2 none : Cond) ∈ lw_gd := x_w 730 (by decide +kernel) rfl
theorem wd_731 : (.methodLink RX0 15 yX6_tellSize : Cond) ∈ lw_gd := x_w 731 (by decide +kernel) rfl
theorem wd_732 : (.selects RX2 yX6_tellSize yX2_tellSize : Cond) ∈ lw_gd := x_w 732 (by decide +kernel) rfl
theorem wd_733 : (.instanceMethod yX2_tellSize : Cond) ∈ lw_gd := x_w 733 (by decide +kernel) rfl
theorem wd_734 : (.code yX2_tellSize cX2_tellSize 2 (some .int) : Cond) ∈ lw_gd := x_w 734 (by decide +kernel) rfl
theorem wd_735 : (.methodLink RX2 13 yX9_note : Cond) ∈ lw_gd := x_w 735 (by decide +kernel) rfl
theorem wd_736 : (.methodLink RX2 19 yX0_tellSize : Cond) ∈ lw_gd := x_w 736 (by decide +kernel) rfl
theorem wd_737 : (.selects RX4 yX6_tellSize yX4_tellSize : Cond) ∈ lw_gd := x_w 737 (by decide +kernel) rfl
theorem wd_738 : (.instanceMethod yX4_tellSize : Cond) ∈ lw_gd := x_w 738 (by decide +kernel) rfl
theorem wd_739 : (.code yX4_tellSize cX4_tellSize 2 (some .int) : Cond) ∈ lw_gd := x_w 739 (by decide +kernel) rfl
theorem wd_740 : (.methodLink RX4 9 yX9_note : Cond) ∈ lw_gd := x_w 740 (by decide +kernel) rfl
theorem wd_741 : (.methodLink RX4 15 yX10_tellSize : Cond) ∈ lw_gd := x_w 741 (by decide +kernel) rfl
theorem wd_742 : (.instanceMethod yX10_tellSize : Cond) ∈ lw_gd := x_w 742 (by decide +kernel) rfl
theorem wd_743 : (.code yX10_tellSize cX10_tellSize 3 (some .int) : Cond) ∈ lw_gd := x_w 743 (by decide +kernel) rfl
theorem wd_744 : (.methodLink RX10 9 yX9_note : Cond) ∈ lw_gd := x_w 744 (by decide +kernel) rfl
theorem wd_745 : (.methodLink RX10 15 yX6_tellSize : Cond) ∈ lw_gd := x_w 745 (by decide +kernel) rfl
theorem wd_746 : (.methodLink RX10 19 yX10_tellMark : Cond) ∈ lw_gd := x_w 746 (by decide +kernel) rfl
theorem wd_747 : (.instanceMethod yX10_tellMark : Cond) ∈ lw_gd := x_w 747 (by decide +kernel) rfl
theorem wd_748 : (.selects RX10 yX10_tellMark yX10_tellMark : Cond) ∈ lw_gd := x_w 748 (by decide +kernel) rfl
theorem wd_749 : (.sameMethod RX10 RX10 "tellMark" "(LClassBits$Trace;)I" : Cond) ∈ lw_gd := x_w 749 (by decide +kernel) rfl
theorem wd_750 : (.selects RX4 yX10_tellMark yX4_tellMark : Cond) ∈ lw_gd := x_w 750 (by decide +kernel) rfl
theorem wd_751 : (.instanceMethod yX4_tellMark : Cond) ∈ lw_gd := x_w 751 (by decide +kernel) rfl
theorem wd_752 : (.code yX4_tellMark cX4_tellMark 2 (some .int) : Cond) ∈ lw_gd := x_w 752 (by decide +kernel) rfl
theorem wd_753 : (.methodLink RX4 19 yX10_tellMark : Cond) ∈ lw_gd := x_w 753 (by decide +kernel) rfl
theorem wd_754 : (.selects RX8 yX10_tellMark yX8_tellMark : Cond) ∈ lw_gd := x_w 754 (by decide +kernel) rfl
theorem wd_755 : (.instanceMethod yX8_tellMark : Cond) ∈ lw_gd := x_w 755 (by decide +kernel) rfl
theorem wd_756 : (.code yX8_tellMark cX8_tellMark 2 (some .int) : Cond) ∈ lw_gd := x_w 756 (by decide +kernel) rfl
theorem wd_757 : (.methodLink RX8 9 yX9_note : Cond) ∈ lw_gd := x_w 757 (by decide +kernel) rfl
theorem wd_758 : (.methodLink RX8 15 yX10_tellMark : Cond) ∈ lw_gd := x_w 758 (by decide +kernel) rfl
theorem wd_759 : (.code yX10_tellMark cX10_tellMark 2 (some .int) : Cond) ∈ lw_gd := x_w 759 (by decide +kernel) rfl
theorem wd_760 : (.methodLink RX10 24 yX6_tellMark : Cond) ∈ lw_gd := x_w 760 (by decide +kernel) rfl
theorem wd_761 : (.instanceMethod yX6_tellMark : Cond) ∈ lw_gd := x_w 761 (by decide +kernel) rfl
theorem wd_762 : (.code yX6_tellMark cX6_tellMark 2 (some .int) : Cond) ∈ lw_gd := x_w 762 (by decide +kernel) rfl
theorem wd_763 : (.methodLink RX6 20 yX9_note : Cond) ∈ lw_gd := x_w 763 (by decide +kernel) rfl
theorem wd_764 : (.methodLink RX10 25 ⟨"ClassBits$ZerosRun", "onesWithin", "()I"⟩ : Cond) ∈ lw_gd := x_w 764 (by decide +kernel) rfl
theorem wd_765 : (.sameMethod RX10 RX6 "onesWithin" "()I" : Cond) ∈ lw_gd := x_w 765 (by decide +kernel) rfl
theorem wd_767 : (.selects RX4 ⟨"ClassBits$ZerosRun", "onesWithin", "()I"⟩ yX6_onesWithin : Cond) ∈ lw_gd := x_w 767 (by decide +kernel) rfl
theorem wd_768 : (.selects RX8 ⟨"ClassBits$ZerosRun", "onesWithin", "()I"⟩ yX6_onesWithin : Cond) ∈ lw_gd := x_w 768 (by decide +kernel) rfl
theorem wd_769 : (.selects RX10 ⟨"ClassBits$ZerosRun", "onesWithin", "()I"⟩ yX6_onesWithin : Cond) ∈ lw_gd := x_w 769 (by decide +kernel) rfl
theorem wd_770 : (.instanceMethod yX6_onesWithin : Cond) ∈ lw_gd := x_w 770 (by decide +kernel) rfl
theorem wd_771 : (.code yX6_onesWithin cX6_onesWithin 3 (some .int) : Cond) ∈ lw_gd := x_w 771 (by decide +kernel) rfl
theorem wd_772 : (.methodLink RX6 16 ⟨"ClassBits$Run", "bitOf", "(I)I"⟩ : Cond) ∈ lw_gd := x_w 772 (by decide +kernel) rfl
theorem wd_773 : (.selects RX8 yX6_tellSize yX10_tellSize : Cond) ∈ lw_gd := x_w 773 (by decide +kernel) rfl
theorem wd_774 : (.selects RX10 yX6_tellSize yX10_tellSize : Cond) ∈ lw_gd := x_w 774 (by decide +kernel) rfl
theorem wd_775 : (.code yX6_tellSize cX6_tellSize 2 (some .int) : Cond) ∈ lw_gd := x_w 775 (by decide +kernel) rfl
theorem wd_776 : (.methodLink RX11 268 yX6_tellMark : Cond) ∈ lw_gd := x_w 776 (by decide +kernel) rfl
theorem wd_777 : (.instanceMethod yX0_tellMark : Cond) ∈ lw_gd := x_w 777 (by decide +kernel) rfl
theorem wd_778 : (.code yX0_tellMark cX0_tellMark 3 (some .int) : Cond) ∈ lw_gd := x_w 778 (by decide +kernel) rfl
theorem wd_779 : (.methodLink RX0 19 yX6_tellMark : Cond) ∈ lw_gd := x_w 779 (by decide +kernel) rfl
theorem wd_780 : (.methodLink RX0 22 yX0_tellSize : Cond) ∈ lw_gd := x_w 780 (by decide +kernel) rfl
theorem wd_781 : (.methodLink RL 176 yX11_trace : Cond) ∈ lw_gd := x_w 781 (by decide +kernel) rfl
theorem wd_782 : (.instanceMethod yX11_trace : Cond) ∈ lw_gd := x_w 782 (by decide +kernel) rfl
theorem wd_783 : (.selects RX11 yX11_trace yX11_trace : Cond) ∈ lw_gd := x_w 783 (by decide +kernel) rfl
theorem wd_784 : (.code yX11_trace cX11_trace 2 (some .int) : Cond) ∈ lw_gd := x_w 784 (by decide +kernel) rfl
theorem wd_785 : (.methodLink RL 180 yX11_count : Cond) ∈ lw_gd := x_w 785 (by decide +kernel) rfl
theorem wd_786 : (.instanceMethod yX11_count : Cond) ∈ lw_gd := x_w 786 (by decide +kernel) rfl
theorem wd_787 : (.selects RX11 yX11_count yX11_count : Cond) ∈ lw_gd := x_w 787 (by decide +kernel) rfl
theorem wd_788 : (.code yX11_count cX11_count 2 (some .int) : Cond) ∈ lw_gd := x_w 788 (by decide +kernel) rfl
theorem wd_789 : (.methodLink RX11 274 yX11_rowsThatAreThere : Cond) ∈ lw_gd := x_w 789 (by decide +kernel) rfl
theorem wd_791 : (.instanceMethod yX11_rowsThatAreThere : Cond) ∈ lw_gd := x_w 791 (by decide +kernel) rfl
theorem wd_792 : (.code yX11_rowsThatAreThere cX11_rowsThatAreThere 3 (some .int) : Cond) ∈ lw_gd := x_w 792 (by decide +kernel) rfl
theorem wd_793 : (.methodLink RX11 277 yX11_bitsOfAll : Cond) ∈ lw_gd := x_w 793 (by decide +kernel) rfl
theorem wd_795 : (.instanceMethod yX11_bitsOfAll : Cond) ∈ lw_gd := x_w 795 (by decide +kernel) rfl
theorem wd_796 : (.code yX11_bitsOfAll cX11_bitsOfAll 3 (some .int) : Cond) ∈ lw_gd := x_w 796 (by decide +kernel) rfl
theorem wd_797 : (.methodLink RL 184 yX11_status : Cond) ∈ lw_gd := x_w 797 (by decide +kernel) rfl
theorem wd_798 : (.instanceMethod yX11_status : Cond) ∈ lw_gd := x_w 798 (by decide +kernel) rfl
theorem wd_799 : (.selects RX11 yX11_status yX11_status : Cond) ∈ lw_gd := x_w 799 (by decide +kernel) rfl
theorem wd_800 : (.code yX11_status cX11_status 1 (some .int) : Cond) ∈ lw_gd := x_w 800 (by decide +kernel) rfl
theorem wd_801 : (.classLink RL 10 RX12 : Cond) ∈ lw_gd := x_w 801 (by decide +kernel) rfl
theorem wd_802 : (.instantiable RX12 28 : Cond) ∈ lw_gd := x_w 802 (by decide +kernel) rfl
theorem wd_803 : (.methodLink RL 12 yX12_init : Cond) ∈ lw_gd := x_w 803 (by decide +kernel) rfl
theorem wd_804 : (.instanceMethod yX12_init : Cond) ∈ lw_gd := x_w 804 (by decide +kernel) rfl
theorem wd_805 : (.code yX12_init cX12_init 3 none : Cond) ∈ lw_gd := x_w 805 (by decide +kernel) rfl
theorem wd_806 : (.methodLink RX12 1 objectInit : Cond) ∈ lw_gd := x_w 806 (by decide +kernel) rfl
theorem wd_807 : (.constant RX12 59 (-1000000) : Cond) ∈ lw_gd := x_w 807 (by decide +kernel) rfl
theorem wd_808 : (.fieldLink RX12 7 "ClassBitsModel" "lane" "[I" : Cond) ∈ lw_gd := x_w 808 (by decide +kernel) rfl
theorem wd_809 : (.fieldLink RX12 13 "ClassBitsModel" "many" "[I" : Cond) ∈ lw_gd := x_w 809 (by decide +kernel) rfl
theorem wd_810 : (.fieldLink RX12 16 "ClassBitsModel" "items" "[I" : Cond) ∈ lw_gd := x_w 810 (by decide +kernel) rfl
theorem wd_811 : (.fieldLink RX12 19 "ClassBitsModel" "spare" "[I" : Cond) ∈ lw_gd := x_w 811 (by decide +kernel) rfl
theorem wd_812 : (.fieldLink RX12 60 "ClassBitsModel" "status" "I" : Cond) ∈ lw_gd := x_w 812 (by decide +kernel) rfl
theorem wd_813 : (.fieldLink RX12 22 "ClassBitsModel" "tape" "[I" : Cond) ∈ lw_gd := x_w 813 (by decide +kernel) rfl
theorem wd_814 : (.fieldLink RX12 91 "ClassBitsModel" "taped" "I" : Cond) ∈ lw_gd := x_w 814 (by decide +kernel) rfl
theorem wd_815 : (.fieldLink RX12 117 "ClassBitsModel" "faultKind" "I" : Cond) ∈ lw_gd := x_w 815 (by decide +kernel) rfl
theorem wd_816 : (.fieldLink RX12 110 "ClassBitsModel" "faultPlace" "I" : Cond) ∈ lw_gd := x_w 816 (by decide +kernel) rfl
theorem wd_817 : (.fieldLink RX12 95 "ClassBitsModel" "at" "I" : Cond) ∈ lw_gd := x_w 817 (by decide +kernel) rfl
theorem wd_818 : (.fieldLink RX12 98 "ClassBitsModel" "start" "I" : Cond) ∈ lw_gd := x_w 818 (by decide +kernel) rfl
theorem wd_819 : (.fieldLink RX12 107 "ClassBitsModel" "token" "I" : Cond) ∈ lw_gd := x_w 819 (by decide +kernel) rfl
theorem wd_820 : (.fieldLink RX12 104 "ClassBitsModel" "value" "I" : Cond) ∈ lw_gd := x_w 820 (by decide +kernel) rfl
theorem wd_821 : (.fieldLink RX12 25 "ClassBitsModel" "now" "[I" : Cond) ∈ lw_gd := x_w 821 (by decide +kernel) rfl
theorem wd_822 : (.fieldLink RX12 28 "ClassBitsModel" "tried" "[I" : Cond) ∈ lw_gd := x_w 822 (by decide +kernel) rfl
theorem wd_823 : (.fieldLink RX12 31 "ClassBitsModel" "past" "[I" : Cond) ∈ lw_gd := x_w 823 (by decide +kernel) rfl
theorem wd_824 : (.fieldLink RX12 173 "ClassBitsModel" "acts" "I" : Cond) ∈ lw_gd := x_w 824 (by decide +kernel) rfl
theorem wd_825 : (.fieldLink RX12 34 "ClassBitsModel" "images" "[I" : Cond) ∈ lw_gd := x_w 825 (by decide +kernel) rfl
theorem wd_826 : (.fieldLink RX12 37 "ClassBitsModel" "kept" "[Z" : Cond) ∈ lw_gd := x_w 826 (by decide +kernel) rfl
theorem wd_827 : (.fieldLink RX12 150 "ClassBitsModel" "runs" "I" : Cond) ∈ lw_gd := x_w 827 (by decide +kernel) rfl
theorem wd_828 : (.fieldLink RX12 41 "ClassBitsModel" "kinds" "[I" : Cond) ∈ lw_gd := x_w 828 (by decide +kernel) rfl
theorem wd_829 : (.fieldLink RX12 44 "ClassBitsModel" "length" "[I" : Cond) ∈ lw_gd := x_w 829 (by decide +kernel) rfl
theorem wd_830 : (.fieldLink RX12 133 "ClassBitsModel" "some" "I" : Cond) ∈ lw_gd := x_w 830 (by decide +kernel) rfl
theorem wd_831 : (.fieldLink RX12 47 "ClassBitsModel" "someKinds" "[I" : Cond) ∈ lw_gd := x_w 831 (by decide +kernel) rfl
theorem wd_832 : (.fieldLink RX12 50 "ClassBitsModel" "someLength" "[I" : Cond) ∈ lw_gd := x_w 832 (by decide +kernel) rfl
theorem wd_833 : (.fieldLink RX12 53 "ClassBitsModel" "chosen" "[I" : Cond) ∈ lw_gd := x_w 833 (by decide +kernel) rfl
theorem wd_834 : (.fieldLink RX12 56 "ClassBitsModel" "trace" "[I" : Cond) ∈ lw_gd := x_w 834 (by decide +kernel) rfl
theorem wd_835 : (.fieldLink RX12 233 "ClassBitsModel" "traced" "I" : Cond) ∈ lw_gd := x_w 835 (by decide +kernel) rfl
theorem wd_892 : (.superclass RX12 "java/lang/Object" : Cond) ∈ lw_gd := x_w 892 (by decide +kernel) rfl
theorem wd_893 : (.methodLink RL 17 yX12_row : Cond) ∈ lw_gd := x_w 893 (by decide +kernel) rfl
theorem wd_894 : (.instanceMethod yX12_row : Cond) ∈ lw_gd := x_w 894 (by decide +kernel) rfl
theorem wd_895 : (.selects RX12 yX12_row yX12_row : Cond) ∈ lw_gd := x_w 895 (by decide +kernel) rfl
theorem wd_896 : (.code yX12_row cX12_row 5 (some .int) : Cond) ∈ lw_gd := x_w 896 (by decide +kernel) rfl
theorem wd_897 : (.methodLink RX12 69 yX12_isRow : Cond) ∈ lw_gd := x_w 897 (by decide +kernel) rfl
theorem wd_898 : (.static yX12_isRow : Cond) ∈ lw_gd := x_w 898 (by decide +kernel) rfl
theorem wd_899 : (.code yX12_isRow cX12_isRow 1 (some .boolean) : Cond) ∈ lw_gd := x_w 899 (by decide +kernel) rfl
theorem wd_900 : (.methodLink RX12 65 yX12_in : Cond) ∈ lw_gd := x_w 900 (by decide +kernel) rfl
theorem wd_901 : (.static yX12_in : Cond) ∈ lw_gd := x_w 901 (by decide +kernel) rfl
theorem wd_902 : (.code yX12_in cX12_in 3 (some .boolean) : Cond) ∈ lw_gd := x_w 902 (by decide +kernel) rfl
theorem wd_903 : (.constant RX12 73 (-1000001) : Cond) ∈ lw_gd := x_w 903 (by decide +kernel) rfl
theorem wd_904 : (.methodLink RX12 74 yX12_found : Cond) ∈ lw_gd := x_w 904 (by decide +kernel) rfl
theorem wd_906 : (.instanceMethod yX12_found : Cond) ∈ lw_gd := x_w 906 (by decide +kernel) rfl
theorem wd_907 : (.code yX12_found cX12_found 2 (some .int) : Cond) ∈ lw_gd := x_w 907 (by decide +kernel) rfl
theorem wd_908 : (.constant RX12 64 (-1000010) : Cond) ∈ lw_gd := x_w 908 (by decide +kernel) rfl
theorem wd_909 : (.methodLink RX12 78 yX12_well : Cond) ∈ lw_gd := x_w 909 (by decide +kernel) rfl
theorem wd_911 : (.instanceMethod yX12_well : Cond) ∈ lw_gd := x_w 911 (by decide +kernel) rfl
theorem wd_912 : (.code yX12_well cX12_well 2 (some .int) : Cond) ∈ lw_gd := x_w 912 (by decide +kernel) rfl
theorem wd_913 : (.methodLink RL 21 yX12_set : Cond) ∈ lw_gd := x_w 913 (by decide +kernel) rfl
theorem wd_914 : (.instanceMethod yX12_set : Cond) ∈ lw_gd := x_w 914 (by decide +kernel) rfl
theorem wd_915 : (.selects RX12 yX12_set yX12_set : Cond) ∈ lw_gd := x_w 915 (by decide +kernel) rfl
theorem wd_916 : (.code yX12_set cX12_set 4 (some .int) : Cond) ∈ lw_gd := x_w 916 (by decide +kernel) rfl
theorem wd_917 : (.methodLink RX12 81 yX12_isMissing : Cond) ∈ lw_gd := x_w 917 (by decide +kernel) rfl
theorem wd_919 : (.instanceMethod yX12_isMissing : Cond) ∈ lw_gd := x_w 919 (by decide +kernel) rfl
theorem wd_920 : (.code yX12_isMissing cX12_isMissing 2 (some .boolean) : Cond) ∈ lw_gd := x_w 920 (by decide +kernel) rfl
theorem wd_921 : (.methodLink RX12 84 yX12_lowest : Cond) ∈ lw_gd := x_w 921 (by decide +kernel) rfl
theorem wd_922 : (.static yX12_lowest : Cond) ∈ lw_gd := x_w 922 (by decide +kernel) rfl
theorem wd_923 : (.code yX12_lowest cX12_lowest 2 (some .int) : Cond) ∈ lw_gd := x_w 923 (by decide +kernel) rfl
theorem wd_924 : (.methodLink RL 26 yX12_copy : Cond) ∈ lw_gd := x_w 924 (by decide +kernel) rfl
theorem wd_925 : (.instanceMethod yX12_copy : Cond) ∈ lw_gd := x_w 925 (by decide +kernel) rfl
theorem wd_926 : (.selects RX12 yX12_copy yX12_copy : Cond) ∈ lw_gd := x_w 926 (by decide +kernel) rfl
theorem wd_927 : (.code yX12_copy cX12_copy 7 (some .int) : Cond) ∈ lw_gd := x_w 927 (by decide +kernel) rfl
theorem wd_928 : (.methodLink RX12 88 yX12_isPart : Cond) ∈ lw_gd := x_w 928 (by decide +kernel) rfl
theorem wd_930 : (.instanceMethod yX12_isPart : Cond) ∈ lw_gd := x_w 930 (by decide +kernel) rfl
theorem wd_931 : (.code yX12_isPart cX12_isPart 4 (some .boolean) : Cond) ∈ lw_gd := x_w 931 (by decide +kernel) rfl
theorem wd_932 : (.methodLink RL 31 yX12_drop : Cond) ∈ lw_gd := x_w 932 (by decide +kernel) rfl
theorem wd_933 : (.instanceMethod yX12_drop : Cond) ∈ lw_gd := x_w 933 (by decide +kernel) rfl
theorem wd_934 : (.selects RX12 yX12_drop yX12_drop : Cond) ∈ lw_gd := x_w 934 (by decide +kernel) rfl
theorem wd_935 : (.code yX12_drop cX12_drop 2 (some .int) : Cond) ∈ lw_gd := x_w 935 (by decide +kernel) rfl
theorem wd_936 : (.methodLink RL 35 yX12_feed : Cond) ∈ lw_gd := x_w 936 (by decide +kernel) rfl
theorem wd_937 : (.instanceMethod yX12_feed : Cond) ∈ lw_gd := x_w 937 (by decide +kernel) rfl
theorem wd_938 : (.selects RX12 yX12_feed yX12_feed : Cond) ∈ lw_gd := x_w 938 (by decide +kernel) rfl
theorem wd_939 : (.code yX12_feed cX12_feed 2 (some .int) : Cond) ∈ lw_gd := x_w 939 (by decide +kernel) rfl
theorem wd_940 : (.constant RX12 94 (-1000003) : Cond) ∈ lw_gd := x_w 940 (by decide +kernel) rfl
theorem wd_941 : (.methodLink RL 39 yX12_load : Cond) ∈ lw_gd := x_w 941 (by decide +kernel) rfl
theorem wd_942 : (.instanceMethod yX12_load : Cond) ∈ lw_gd := x_w 942 (by decide +kernel) rfl
theorem wd_943 : (.selects RX12 yX12_load yX12_load : Cond) ∈ lw_gd := x_w 943 (by decide +kernel) rfl
theorem wd_944 : (.code yX12_load cX12_load 5 (some .int) : Cond) ∈ lw_gd := x_w 944 (by decide +kernel) rfl
theorem wd_945 : (.methodLink RX12 130 yX12_isVector : Cond) ∈ lw_gd := x_w 945 (by decide +kernel) rfl
theorem wd_946 : (.static yX12_isVector : Cond) ∈ lw_gd := x_w 946 (by decide +kernel) rfl
theorem wd_947 : (.code yX12_isVector cX12_isVector 1 (some .boolean) : Cond) ∈ lw_gd := x_w 947 (by decide +kernel) rfl
theorem wd_948 : (.methodLink RX12 120 yX12_advances : Cond) ∈ lw_gd := x_w 948 (by decide +kernel) rfl
theorem wd_950 : (.instanceMethod yX12_advances : Cond) ∈ lw_gd := x_w 950 (by decide +kernel) rfl
theorem wd_951 : (.code yX12_advances cX12_advances 2 none : Cond) ∈ lw_gd := x_w 951 (by decide +kernel) rfl
theorem wd_952 : (.methodLink RX12 101 yX12_byteAt : Cond) ∈ lw_gd := x_w 952 (by decide +kernel) rfl
theorem wd_954 : (.instanceMethod yX12_byteAt : Cond) ∈ lw_gd := x_w 954 (by decide +kernel) rfl
theorem wd_955 : (.code yX12_byteAt cX12_byteAt 2 (some .int) : Cond) ∈ lw_gd := x_w 955 (by decide +kernel) rfl
theorem wd_956 : (.methodLink RX12 136 yX12_kindOf : Cond) ∈ lw_gd := x_w 956 (by decide +kernel) rfl
theorem wd_957 : (.static yX12_kindOf : Cond) ∈ lw_gd := x_w 957 (by decide +kernel) rfl
theorem wd_958 : (.code yX12_kindOf cX12_kindOf 1 (some .int) : Cond) ∈ lw_gd := x_w 958 (by decide +kernel) rfl
theorem wd_959 : (.methodLink RX12 123 yX12_takes : Cond) ∈ lw_gd := x_w 959 (by decide +kernel) rfl
theorem wd_961 : (.instanceMethod yX12_takes : Cond) ∈ lw_gd := x_w 961 (by decide +kernel) rfl
theorem wd_962 : (.code yX12_takes cX12_takes 4 (some .int) : Cond) ∈ lw_gd := x_w 962 (by decide +kernel) rfl
theorem wd_963 : (.methodLink RX12 113 yX12_isWell : Cond) ∈ lw_gd := x_w 963 (by decide +kernel) rfl
theorem wd_965 : (.instanceMethod yX12_isWell : Cond) ∈ lw_gd := x_w 965 (by decide +kernel) rfl
theorem wd_966 : (.code yX12_isWell cX12_isWell 1 (some .boolean) : Cond) ∈ lw_gd := x_w 966 (by decide +kernel) rfl
theorem wd_967 : (.methodLink RX12 139 yX12_longer : Cond) ∈ lw_gd := x_w 967 (by decide +kernel) rfl
theorem wd_969 : (.instanceMethod yX12_longer : Cond) ∈ lw_gd := x_w 969 (by decide +kernel) rfl
theorem wd_970 : (.code yX12_longer cX12_longer 2 (some .int) : Cond) ∈ lw_gd := x_w 970 (by decide +kernel) rfl
theorem wd_971 : (.methodLink RX12 127 yX12_figure : Cond) ∈ lw_gd := x_w 971 (by decide +kernel) rfl
theorem wd_973 : (.instanceMethod yX12_figure : Cond) ∈ lw_gd := x_w 973 (by decide +kernel) rfl
theorem wd_974 : (.code yX12_figure cX12_figure 3 (some .int) : Cond) ∈ lw_gd := x_w 974 (by decide +kernel) rfl
theorem wd_975 : (.constant RX12 142 (-1000100) : Cond) ∈ lw_gd := x_w 975 (by decide +kernel) rfl
theorem wd_976 : (.methodLink RX12 143 yX12_notes : Cond) ∈ lw_gd := x_w 976 (by decide +kernel) rfl
theorem wd_978 : (.instanceMethod yX12_notes : Cond) ∈ lw_gd := x_w 978 (by decide +kernel) rfl
theorem wd_979 : (.code yX12_notes cX12_notes 2 none : Cond) ∈ lw_gd := x_w 979 (by decide +kernel) rfl
theorem wd_980 : (.methodLink RX12 176 yX12_copies : Cond) ∈ lw_gd := x_w 980 (by decide +kernel) rfl
theorem wd_981 : (.static yX12_copies : Cond) ∈ lw_gd := x_w 981 (by decide +kernel) rfl
theorem wd_982 : (.code yX12_copies cX12_copies 5 none : Cond) ∈ lw_gd := x_w 982 (by decide +kernel) rfl
theorem wd_983 : (.methodLink RX12 146 yX12_empties : Cond) ∈ lw_gd := x_w 983 (by decide +kernel) rfl
theorem wd_985 : (.instanceMethod yX12_empties : Cond) ∈ lw_gd := x_w 985 (by decide +kernel) rfl
theorem wd_986 : (.code yX12_empties cX12_empties 4 none : Cond) ∈ lw_gd := x_w 986 (by decide +kernel) rfl
theorem wd_987 : (.methodLink RX12 153 yX12_bitOf : Cond) ∈ lw_gd := x_w 987 (by decide +kernel) rfl
theorem wd_988 : (.static yX12_bitOf : Cond) ∈ lw_gd := x_w 988 (by decide +kernel) rfl
theorem wd_989 : (.code yX12_bitOf cX12_bitOf 2 (some .int) : Cond) ∈ lw_gd := x_w 989 (by decide +kernel) rfl
theorem wd_990 : (.methodLink RX12 156 yX12_appends : Cond) ∈ lw_gd := x_w 990 (by decide +kernel) rfl
theorem wd_992 : (.instanceMethod yX12_appends : Cond) ∈ lw_gd := x_w 992 (by decide +kernel) rfl
theorem wd_993 : (.code yX12_appends cX12_appends 3 none : Cond) ∈ lw_gd := x_w 993 (by decide +kernel) rfl
theorem wd_994 : (.methodLink RX12 159 yX12_puts : Cond) ∈ lw_gd := x_w 994 (by decide +kernel) rfl
theorem wd_995 : (.static yX12_puts : Cond) ∈ lw_gd := x_w 995 (by decide +kernel) rfl
theorem wd_996 : (.code yX12_puts cX12_puts 5 none : Cond) ∈ lw_gd := x_w 996 (by decide +kernel) rfl
theorem wd_997 : (.methodLink RL 44 yX12_fault : Cond) ∈ lw_gd := x_w 997 (by decide +kernel) rfl
theorem wd_998 : (.instanceMethod yX12_fault : Cond) ∈ lw_gd := x_w 998 (by decide +kernel) rfl
theorem wd_999 : (.selects RX12 yX12_fault yX12_fault : Cond) ∈ lw_gd := x_w 999 (by decide +kernel) rfl
theorem wd_1000 : (.code yX12_fault cX12_fault 1 (some .int) : Cond) ∈ lw_gd := x_w 1000 (by decide +kernel) rfl
theorem wd_1001 : (.methodLink RL 48 yX12_put : Cond) ∈ lw_gd := x_w 1001 (by decide +kernel) rfl
theorem wd_1002 : (.instanceMethod yX12_put : Cond) ∈ lw_gd := x_w 1002 (by decide +kernel) rfl
theorem wd_1003 : (.selects RX12 yX12_put yX12_put : Cond) ∈ lw_gd := x_w 1003 (by decide +kernel) rfl
theorem wd_1004 : (.code yX12_put cX12_put 5 (some .int) : Cond) ∈ lw_gd := x_w 1004 (by decide +kernel) rfl
theorem wd_1005 : (.methodLink RX12 180 yX12_isBit : Cond) ∈ lw_gd := x_w 1005 (by decide +kernel) rfl
theorem wd_1007 : (.instanceMethod yX12_isBit : Cond) ∈ lw_gd := x_w 1007 (by decide +kernel) rfl
theorem wd_1008 : (.code yX12_isBit cX12_isBit 3 (some .boolean) : Cond) ∈ lw_gd := x_w 1008 (by decide +kernel) rfl
theorem wd_1009 : (.methodLink RX12 167 yX12_bitsOf : Cond) ∈ lw_gd := x_w 1009 (by decide +kernel) rfl
theorem wd_1011 : (.instanceMethod yX12_bitsOf : Cond) ∈ lw_gd := x_w 1011 (by decide +kernel) rfl
theorem wd_1012 : (.code yX12_bitsOf cX12_bitsOf 2 (some .int) : Cond) ∈ lw_gd := x_w 1012 (by decide +kernel) rfl
theorem wd_1013 : (.methodLink RX12 184 yX12_isValue : Cond) ∈ lw_gd := x_w 1013 (by decide +kernel) rfl
theorem wd_1014 : (.static yX12_isValue : Cond) ∈ lw_gd := x_w 1014 (by decide +kernel) rfl
theorem wd_1015 : (.code yX12_isValue cX12_isValue 1 (some .boolean) : Cond) ∈ lw_gd := x_w 1015 (by decide +kernel) rfl
theorem wd_1016 : (.methodLink RX12 163 yX12_bit : Cond) ∈ lw_gd := x_w 1016 (by decide +kernel) rfl
theorem wd_1017 : (.static yX12_bit : Cond) ∈ lw_gd := x_w 1017 (by decide +kernel) rfl
theorem wd_1018 : (.code yX12_bit cX12_bit 3 (some .int) : Cond) ∈ lw_gd := x_w 1018 (by decide +kernel) rfl
theorem wd_1019 : (.methodLink RL 52 yX12_add : Cond) ∈ lw_gd := x_w 1019 (by decide +kernel) rfl
theorem wd_1020 : (.instanceMethod yX12_add : Cond) ∈ lw_gd := x_w 1020 (by decide +kernel) rfl
theorem wd_1021 : (.selects RX12 yX12_add yX12_add : Cond) ∈ lw_gd := x_w 1021 (by decide +kernel) rfl
theorem wd_1022 : (.code yX12_add cX12_add 5 (some .int) : Cond) ∈ lw_gd := x_w 1022 (by decide +kernel) rfl
theorem wd_1023 : (.methodLink RL 57 yX12_cut : Cond) ∈ lw_gd := x_w 1023 (by decide +kernel) rfl
theorem wd_1024 : (.instanceMethod yX12_cut : Cond) ∈ lw_gd := x_w 1024 (by decide +kernel) rfl
theorem wd_1025 : (.selects RX12 yX12_cut yX12_cut : Cond) ∈ lw_gd := x_w 1025 (by decide +kernel) rfl
theorem wd_1026 : (.code yX12_cut cX12_cut 5 (some .int) : Cond) ∈ lw_gd := x_w 1026 (by decide +kernel) rfl
theorem wd_1027 : (.methodLink RL 62 yX12_join : Cond) ∈ lw_gd := x_w 1027 (by decide +kernel) rfl
theorem wd_1028 : (.instanceMethod yX12_join : Cond) ∈ lw_gd := x_w 1028 (by decide +kernel) rfl
theorem wd_1029 : (.selects RX12 yX12_join yX12_join : Cond) ∈ lw_gd := x_w 1029 (by decide +kernel) rfl
theorem wd_1030 : (.code yX12_join cX12_join 9 (some .int) : Cond) ∈ lw_gd := x_w 1030 (by decide +kernel) rfl
theorem wd_1031 : (.methodLink RX12 187 yX12_allOnes : Cond) ∈ lw_gd := x_w 1031 (by decide +kernel) rfl
theorem wd_1033 : (.instanceMethod yX12_allOnes : Cond) ∈ lw_gd := x_w 1033 (by decide +kernel) rfl
theorem wd_1034 : (.code yX12_allOnes cX12_allOnes 2 (some .int) : Cond) ∈ lw_gd := x_w 1034 (by decide +kernel) rfl
theorem wd_1035 : (.methodLink RX12 170 yX12_onesAhead : Cond) ∈ lw_gd := x_w 1035 (by decide +kernel) rfl
theorem wd_1036 : (.static yX12_onesAhead : Cond) ∈ lw_gd := x_w 1036 (by decide +kernel) rfl
theorem wd_1037 : (.code yX12_onesAhead cX12_onesAhead 5 (some .int) : Cond) ∈ lw_gd := x_w 1037 (by decide +kernel) rfl
theorem wd_1038 : (.methodLink RL 66 yX12_turn : Cond) ∈ lw_gd := x_w 1038 (by decide +kernel) rfl
theorem wd_1039 : (.instanceMethod yX12_turn : Cond) ∈ lw_gd := x_w 1039 (by decide +kernel) rfl
theorem wd_1040 : (.selects RX12 yX12_turn yX12_turn : Cond) ∈ lw_gd := x_w 1040 (by decide +kernel) rfl
theorem wd_1041 : (.code yX12_turn cX12_turn 3 (some .int) : Cond) ∈ lw_gd := x_w 1041 (by decide +kernel) rfl
theorem wd_1042 : (.methodLink RL 70 yX12_take : Cond) ∈ lw_gd := x_w 1042 (by decide +kernel) rfl
theorem wd_1043 : (.instanceMethod yX12_take : Cond) ∈ lw_gd := x_w 1043 (by decide +kernel) rfl
theorem wd_1044 : (.selects RX12 yX12_take yX12_take : Cond) ∈ lw_gd := x_w 1044 (by decide +kernel) rfl
theorem wd_1045 : (.code yX12_take cX12_take 6 (some .int) : Cond) ∈ lw_gd := x_w 1045 (by decide +kernel) rfl
theorem wd_1046 : (.methodLink RL 74 yX12_undo : Cond) ∈ lw_gd := x_w 1046 (by decide +kernel) rfl
theorem wd_1047 : (.instanceMethod yX12_undo : Cond) ∈ lw_gd := x_w 1047 (by decide +kernel) rfl
theorem wd_1048 : (.selects RX12 yX12_undo yX12_undo : Cond) ∈ lw_gd := x_w 1048 (by decide +kernel) rfl
theorem wd_1049 : (.code yX12_undo cX12_undo 1 (some .int) : Cond) ∈ lw_gd := x_w 1049 (by decide +kernel) rfl
theorem wd_1050 : (.constant RX12 190 (-1000002) : Cond) ∈ lw_gd := x_w 1050 (by decide +kernel) rfl
theorem wd_1051 : (.methodLink RL 78 yX12_bits : Cond) ∈ lw_gd := x_w 1051 (by decide +kernel) rfl
theorem wd_1052 : (.instanceMethod yX12_bits : Cond) ∈ lw_gd := x_w 1052 (by decide +kernel) rfl
theorem wd_1053 : (.selects RX12 yX12_bits yX12_bits : Cond) ∈ lw_gd := x_w 1053 (by decide +kernel) rfl
theorem wd_1054 : (.code yX12_bits cX12_bits 2 (some .int) : Cond) ∈ lw_gd := x_w 1054 (by decide +kernel) rfl
theorem wd_1055 : (.methodLink RL 82 yX12_get : Cond) ∈ lw_gd := x_w 1055 (by decide +kernel) rfl
theorem wd_1056 : (.instanceMethod yX12_get : Cond) ∈ lw_gd := x_w 1056 (by decide +kernel) rfl
theorem wd_1057 : (.selects RX12 yX12_get yX12_get : Cond) ∈ lw_gd := x_w 1057 (by decide +kernel) rfl
theorem wd_1058 : (.code yX12_get cX12_get 3 (some .int) : Cond) ∈ lw_gd := x_w 1058 (by decide +kernel) rfl
theorem wd_1059 : (.methodLink RL 86 yX12_ones : Cond) ∈ lw_gd := x_w 1059 (by decide +kernel) rfl
theorem wd_1060 : (.instanceMethod yX12_ones : Cond) ∈ lw_gd := x_w 1060 (by decide +kernel) rfl
theorem wd_1061 : (.selects RX12 yX12_ones yX12_ones : Cond) ∈ lw_gd := x_w 1061 (by decide +kernel) rfl
theorem wd_1062 : (.code yX12_ones cX12_ones 2 (some .int) : Cond) ∈ lw_gd := x_w 1062 (by decide +kernel) rfl
theorem wd_1063 : (.methodLink RL 90 yX12_block : Cond) ∈ lw_gd := x_w 1063 (by decide +kernel) rfl
theorem wd_1064 : (.instanceMethod yX12_block : Cond) ∈ lw_gd := x_w 1064 (by decide +kernel) rfl
theorem wd_1065 : (.selects RX12 yX12_block yX12_block : Cond) ∈ lw_gd := x_w 1065 (by decide +kernel) rfl
theorem wd_1066 : (.code yX12_block cX12_block 5 (some .int) : Cond) ∈ lw_gd := x_w 1066 (by decide +kernel) rfl
theorem wd_1067 : (.methodLink RX12 197 yX12_blocks : Cond) ∈ lw_gd := x_w 1067 (by decide +kernel) rfl
theorem wd_1068 : (.static yX12_blocks : Cond) ∈ lw_gd := x_w 1068 (by decide +kernel) rfl
theorem wd_1069 : (.code yX12_blocks cX12_blocks 2 (some .int) : Cond) ∈ lw_gd := x_w 1069 (by decide +kernel) rfl
theorem wd_1070 : (.methodLink RX12 191 yX12_sortOf : Cond) ∈ lw_gd := x_w 1070 (by decide +kernel) rfl
theorem wd_1071 : (.static yX12_sortOf : Cond) ∈ lw_gd := x_w 1071 (by decide +kernel) rfl
theorem wd_1072 : (.code yX12_sortOf cX12_sortOf 3 (some .int) : Cond) ∈ lw_gd := x_w 1072 (by decide +kernel) rfl
theorem wd_1073 : (.methodLink RX12 201 yX12_offsetOf : Cond) ∈ lw_gd := x_w 1073 (by decide +kernel) rfl
theorem wd_1075 : (.instanceMethod yX12_offsetOf : Cond) ∈ lw_gd := x_w 1075 (by decide +kernel) rfl
theorem wd_1076 : (.code yX12_offsetOf cX12_offsetOf 5 (some .int) : Cond) ∈ lw_gd := x_w 1076 (by decide +kernel) rfl
theorem wd_1077 : (.methodLink RX12 194 yX12_widthOf : Cond) ∈ lw_gd := x_w 1077 (by decide +kernel) rfl
theorem wd_1079 : (.instanceMethod yX12_widthOf : Cond) ∈ lw_gd := x_w 1079 (by decide +kernel) rfl
theorem wd_1080 : (.code yX12_widthOf cX12_widthOf 3 (some .int) : Cond) ∈ lw_gd := x_w 1080 (by decide +kernel) rfl
theorem wd_1081 : (.methodLink RX12 204 yX12_begins : Cond) ∈ lw_gd := x_w 1081 (by decide +kernel) rfl
theorem wd_1083 : (.instanceMethod yX12_begins : Cond) ∈ lw_gd := x_w 1083 (by decide +kernel) rfl
theorem wd_1084 : (.code yX12_begins cX12_begins 6 (some .int) : Cond) ∈ lw_gd := x_w 1084 (by decide +kernel) rfl
theorem wd_1085 : (.methodLink RL 94 yX12_entry : Cond) ∈ lw_gd := x_w 1085 (by decide +kernel) rfl
theorem wd_1086 : (.instanceMethod yX12_entry : Cond) ∈ lw_gd := x_w 1086 (by decide +kernel) rfl
theorem wd_1087 : (.selects RX12 yX12_entry yX12_entry : Cond) ∈ lw_gd := x_w 1087 (by decide +kernel) rfl
theorem wd_1088 : (.code yX12_entry cX12_entry 4 (some .int) : Cond) ∈ lw_gd := x_w 1088 (by decide +kernel) rfl
theorem wd_1089 : (.methodLink RL 98 yX12_size : Cond) ∈ lw_gd := x_w 1089 (by decide +kernel) rfl
theorem wd_1090 : (.instanceMethod yX12_size : Cond) ∈ lw_gd := x_w 1090 (by decide +kernel) rfl
theorem wd_1091 : (.selects RX12 yX12_size yX12_size : Cond) ∈ lw_gd := x_w 1091 (by decide +kernel) rfl
theorem wd_1092 : (.code yX12_size cX12_size 6 (some .int) : Cond) ∈ lw_gd := x_w 1092 (by decide +kernel) rfl
theorem wd_1093 : (.methodLink RL 103 yX12_payload : Cond) ∈ lw_gd := x_w 1093 (by decide +kernel) rfl
theorem wd_1094 : (.instanceMethod yX12_payload : Cond) ∈ lw_gd := x_w 1094 (by decide +kernel) rfl
theorem wd_1095 : (.selects RX12 yX12_payload yX12_payload : Cond) ∈ lw_gd := x_w 1095 (by decide +kernel) rfl
theorem wd_1096 : (.code yX12_payload cX12_payload 12 (some .long) : Cond) ∈ lw_gd := x_w 1096 (by decide +kernel) rfl
theorem wd_1097 : (.constantLong RX12 207 (-1000001) : Cond) ∈ lw_gd := x_w 1097 (by decide +kernel) rfl
theorem wd_1098 : (.methodLink RL 107 yX12_choose : Cond) ∈ lw_gd := x_w 1098 (by decide +kernel) rfl
theorem wd_1099 : (.instanceMethod yX12_choose : Cond) ∈ lw_gd := x_w 1099 (by decide +kernel) rfl
theorem wd_1100 : (.selects RX12 yX12_choose yX12_choose : Cond) ∈ lw_gd := x_w 1100 (by decide +kernel) rfl
theorem wd_1101 : (.code yX12_choose cX12_choose 3 (some .int) : Cond) ∈ lw_gd := x_w 1101 (by decide +kernel) rfl
theorem wd_1102 : (.methodLink RL 111 yX12_offset : Cond) ∈ lw_gd := x_w 1102 (by decide +kernel) rfl
theorem wd_1103 : (.instanceMethod yX12_offset : Cond) ∈ lw_gd := x_w 1103 (by decide +kernel) rfl
theorem wd_1104 : (.selects RX12 yX12_offset yX12_offset : Cond) ∈ lw_gd := x_w 1104 (by decide +kernel) rfl
theorem wd_1105 : (.code yX12_offset cX12_offset 2 (some .int) : Cond) ∈ lw_gd := x_w 1105 (by decide +kernel) rfl
theorem wd_1106 : (.methodLink RL 115 yX12_mask : Cond) ∈ lw_gd := x_w 1106 (by decide +kernel) rfl
theorem wd_1107 : (.instanceMethod yX12_mask : Cond) ∈ lw_gd := x_w 1107 (by decide +kernel) rfl
theorem wd_1108 : (.selects RX12 yX12_mask yX12_mask : Cond) ∈ lw_gd := x_w 1108 (by decide +kernel) rfl
theorem wd_1109 : (.code yX12_mask cX12_mask 8 (some .int) : Cond) ∈ lw_gd := x_w 1109 (by decide +kernel) rfl
theorem wd_1110 : (.methodLink RL 119 yX12_rank : Cond) ∈ lw_gd := x_w 1110 (by decide +kernel) rfl
theorem wd_1111 : (.instanceMethod yX12_rank : Cond) ∈ lw_gd := x_w 1111 (by decide +kernel) rfl
theorem wd_1112 : (.selects RX12 yX12_rank yX12_rank : Cond) ∈ lw_gd := x_w 1112 (by decide +kernel) rfl
theorem wd_1113 : (.code yX12_rank cX12_rank 5 (some .int) : Cond) ∈ lw_gd := x_w 1113 (by decide +kernel) rfl
theorem wd_1114 : (.methodLink RX12 209 yX12_isPlace : Cond) ∈ lw_gd := x_w 1114 (by decide +kernel) rfl
theorem wd_1116 : (.instanceMethod yX12_isPlace : Cond) ∈ lw_gd := x_w 1116 (by decide +kernel) rfl
theorem wd_1117 : (.code yX12_isPlace cX12_isPlace 3 (some .boolean) : Cond) ∈ lw_gd := x_w 1117 (by decide +kernel) rfl
theorem wd_1118 : (.methodLink RL 123 yX12_select : Cond) ∈ lw_gd := x_w 1118 (by decide +kernel) rfl
theorem wd_1119 : (.instanceMethod yX12_select : Cond) ∈ lw_gd := x_w 1119 (by decide +kernel) rfl
theorem wd_1120 : (.selects RX12 yX12_select yX12_select : Cond) ∈ lw_gd := x_w 1120 (by decide +kernel) rfl
theorem wd_1121 : (.code yX12_select cX12_select 6 (some .int) : Cond) ∈ lw_gd := x_w 1121 (by decide +kernel) rfl
theorem wd_1122 : (.methodLink RL 127 yX12_next : Cond) ∈ lw_gd := x_w 1122 (by decide +kernel) rfl
theorem wd_1123 : (.instanceMethod yX12_next : Cond) ∈ lw_gd := x_w 1123 (by decide +kernel) rfl
theorem wd_1124 : (.selects RX12 yX12_next yX12_next : Cond) ∈ lw_gd := x_w 1124 (by decide +kernel) rfl
theorem wd_1125 : (.code yX12_next cX12_next 5 (some .int) : Cond) ∈ lw_gd := x_w 1125 (by decide +kernel) rfl
theorem wd_1126 : (.methodLink RL 131 yX12_last : Cond) ∈ lw_gd := x_w 1126 (by decide +kernel) rfl
theorem wd_1127 : (.instanceMethod yX12_last : Cond) ∈ lw_gd := x_w 1127 (by decide +kernel) rfl
theorem wd_1128 : (.selects RX12 yX12_last yX12_last : Cond) ∈ lw_gd := x_w 1128 (by decide +kernel) rfl
theorem wd_1129 : (.code yX12_last cX12_last 5 (some .int) : Cond) ∈ lw_gd := x_w 1129 (by decide +kernel) rfl
theorem wd_1130 : (.methodLink RL 135 yX12_stretches : Cond) ∈ lw_gd := x_w 1130 (by decide +kernel) rfl
theorem wd_1131 : (.instanceMethod yX12_stretches : Cond) ∈ lw_gd := x_w 1131 (by decide +kernel) rfl
theorem wd_1132 : (.selects RX12 yX12_stretches yX12_stretches : Cond) ∈ lw_gd := x_w 1132 (by decide +kernel) rfl
theorem wd_1133 : (.code yX12_stretches cX12_stretches 4 (some .int) : Cond) ∈ lw_gd := x_w 1133 (by decide +kernel) rfl
theorem wd_1134 : (.methodLink RL 139 yX12_longest : Cond) ∈ lw_gd := x_w 1134 (by decide +kernel) rfl
theorem wd_1135 : (.instanceMethod yX12_longest : Cond) ∈ lw_gd := x_w 1135 (by decide +kernel) rfl
theorem wd_1136 : (.selects RX12 yX12_longest yX12_longest : Cond) ∈ lw_gd := x_w 1136 (by decide +kernel) rfl
theorem wd_1137 : (.code yX12_longest cX12_longest 8 (some .int) : Cond) ∈ lw_gd := x_w 1137 (by decide +kernel) rfl
theorem wd_1138 : (.methodLink RL 143 yX12_alike : Cond) ∈ lw_gd := x_w 1138 (by decide +kernel) rfl
theorem wd_1139 : (.instanceMethod yX12_alike : Cond) ∈ lw_gd := x_w 1139 (by decide +kernel) rfl
theorem wd_1140 : (.selects RX12 yX12_alike yX12_alike : Cond) ∈ lw_gd := x_w 1140 (by decide +kernel) rfl
theorem wd_1141 : (.code yX12_alike cX12_alike 9 (some .int) : Cond) ∈ lw_gd := x_w 1141 (by decide +kernel) rfl
theorem wd_1142 : (.methodLink RL 147 yX12_weight : Cond) ∈ lw_gd := x_w 1142 (by decide +kernel) rfl
theorem wd_1143 : (.instanceMethod yX12_weight : Cond) ∈ lw_gd := x_w 1143 (by decide +kernel) rfl
theorem wd_1144 : (.selects RX12 yX12_weight yX12_weight : Cond) ∈ lw_gd := x_w 1144 (by decide +kernel) rfl
theorem wd_1145 : (.code yX12_weight cX12_weight 8 (some .int) : Cond) ∈ lw_gd := x_w 1145 (by decide +kernel) rfl
theorem wd_1146 : (.methodLink RX12 216 yX12_isInt : Cond) ∈ lw_gd := x_w 1146 (by decide +kernel) rfl
theorem wd_1147 : (.static yX12_isInt : Cond) ∈ lw_gd := x_w 1147 (by decide +kernel) rfl
theorem wd_1148 : (.code yX12_isInt cX12_isInt 2 (some .boolean) : Cond) ∈ lw_gd := x_w 1148 (by decide +kernel) rfl
theorem wd_1149 : (.constantLong RX12 212 (-2147483648) : Cond) ∈ lw_gd := x_w 1149 (by decide +kernel) rfl
theorem wd_1150 : (.constantLong RX12 214 2147483647 : Cond) ∈ lw_gd := x_w 1150 (by decide +kernel) rfl
theorem wd_1151 : (.methodLink RL 151 yX12_tell : Cond) ∈ lw_gd := x_w 1151 (by decide +kernel) rfl
theorem wd_1152 : (.instanceMethod yX12_tell : Cond) ∈ lw_gd := x_w 1152 (by decide +kernel) rfl
theorem wd_1153 : (.selects RX12 yX12_tell yX12_tell : Cond) ∈ lw_gd := x_w 1153 (by decide +kernel) rfl
theorem wd_1154 : (.code yX12_tell cX12_tell 8 (some .int) : Cond) ∈ lw_gd := x_w 1154 (by decide +kernel) rfl
theorem wd_1155 : (.methodLink RL 155 yX12_drawn : Cond) ∈ lw_gd := x_w 1155 (by decide +kernel) rfl
theorem wd_1156 : (.instanceMethod yX12_drawn : Cond) ∈ lw_gd := x_w 1156 (by decide +kernel) rfl
theorem wd_1157 : (.selects RX12 yX12_drawn yX12_drawn : Cond) ∈ lw_gd := x_w 1157 (by decide +kernel) rfl
theorem wd_1158 : (.code yX12_drawn cX12_drawn 10 (some .int) : Cond) ∈ lw_gd := x_w 1158 (by decide +kernel) rfl
theorem wd_1159 : (.constant RX12 220 999999 : Cond) ∈ lw_gd := x_w 1159 (by decide +kernel) rfl
theorem wd_1160 : (.constantLong RX12 221 16807 : Cond) ∈ lw_gd := x_w 1160 (by decide +kernel) rfl
theorem wd_1161 : (.methodLink RL 159 yX12_image : Cond) ∈ lw_gd := x_w 1161 (by decide +kernel) rfl
theorem wd_1162 : (.instanceMethod yX12_image : Cond) ∈ lw_gd := x_w 1162 (by decide +kernel) rfl
theorem wd_1163 : (.selects RX12 yX12_image yX12_image : Cond) ∈ lw_gd := x_w 1163 (by decide +kernel) rfl
theorem wd_1164 : (.code yX12_image cX12_image 2 (some .int) : Cond) ∈ lw_gd := x_w 1164 (by decide +kernel) rfl
theorem wd_1165 : (.methodLink RX12 223 yX12_onesOfAll : Cond) ∈ lw_gd := x_w 1165 (by decide +kernel) rfl
theorem wd_1167 : (.instanceMethod yX12_onesOfAll : Cond) ∈ lw_gd := x_w 1167 (by decide +kernel) rfl
theorem wd_1168 : (.code yX12_onesOfAll cX12_onesOfAll 1 (some .int) : Cond) ∈ lw_gd := x_w 1168 (by decide +kernel) rfl
theorem wd_1169 : (.methodLink RL 163 yX12_restore : Cond) ∈ lw_gd := x_w 1169 (by decide +kernel) rfl
theorem wd_1170 : (.instanceMethod yX12_restore : Cond) ∈ lw_gd := x_w 1170 (by decide +kernel) rfl
theorem wd_1171 : (.selects RX12 yX12_restore yX12_restore : Cond) ∈ lw_gd := x_w 1171 (by decide +kernel) rfl
theorem wd_1172 : (.code yX12_restore cX12_restore 2 (some .int) : Cond) ∈ lw_gd := x_w 1172 (by decide +kernel) rfl
theorem wd_1173 : (.methodLink RL 167 yX12_kind : Cond) ∈ lw_gd := x_w 1173 (by decide +kernel) rfl
theorem wd_1174 : (.instanceMethod yX12_kind : Cond) ∈ lw_gd := x_w 1174 (by decide +kernel) rfl
theorem wd_1175 : (.selects RX12 yX12_kind yX12_kind : Cond) ∈ lw_gd := x_w 1175 (by decide +kernel) rfl
theorem wd_1176 : (.code yX12_kind cX12_kind 2 (some .int) : Cond) ∈ lw_gd := x_w 1176 (by decide +kernel) rfl
theorem wd_1177 : (.methodLink RX12 227 yX12_isRun : Cond) ∈ lw_gd := x_w 1177 (by decide +kernel) rfl
theorem wd_1179 : (.instanceMethod yX12_isRun : Cond) ∈ lw_gd := x_w 1179 (by decide +kernel) rfl
theorem wd_1180 : (.code yX12_isRun cX12_isRun 2 (some .boolean) : Cond) ∈ lw_gd := x_w 1180 (by decide +kernel) rfl
theorem wd_1181 : (.methodLink RX12 230 yX12_kindIn : Cond) ∈ lw_gd := x_w 1181 (by decide +kernel) rfl
theorem wd_1183 : (.instanceMethod yX12_kindIn : Cond) ∈ lw_gd := x_w 1183 (by decide +kernel) rfl
theorem wd_1184 : (.code yX12_kindIn cX12_kindIn 2 (some .int) : Cond) ∈ lw_gd := x_w 1184 (by decide +kernel) rfl
theorem wd_1185 : (.methodLink RL 171 yX12_as : Cond) ∈ lw_gd := x_w 1185 (by decide +kernel) rfl
theorem wd_1186 : (.instanceMethod yX12_as : Cond) ∈ lw_gd := x_w 1186 (by decide +kernel) rfl
theorem wd_1187 : (.selects RX12 yX12_as yX12_as : Cond) ∈ lw_gd := x_w 1187 (by decide +kernel) rfl
theorem wd_1188 : (.code yX12_as cX12_as 5 (some .int) : Cond) ∈ lw_gd := x_w 1188 (by decide +kernel) rfl
theorem wd_1189 : (.methodLink RL 175 yX12_ask : Cond) ∈ lw_gd := x_w 1189 (by decide +kernel) rfl
theorem wd_1190 : (.instanceMethod yX12_ask : Cond) ∈ lw_gd := x_w 1190 (by decide +kernel) rfl
theorem wd_1191 : (.selects RX12 yX12_ask yX12_ask : Cond) ∈ lw_gd := x_w 1191 (by decide +kernel) rfl
theorem wd_1192 : (.code yX12_ask cX12_ask 4 (some .int) : Cond) ∈ lw_gd := x_w 1192 (by decide +kernel) rfl
theorem wd_1193 : (.methodLink RX12 246 yX12_alternateSize : Cond) ∈ lw_gd := x_w 1193 (by decide +kernel) rfl
theorem wd_1195 : (.instanceMethod yX12_alternateSize : Cond) ∈ lw_gd := x_w 1195 (by decide +kernel) rfl
theorem wd_1196 : (.code yX12_alternateSize cX12_alternateSize 4 (some .int) : Cond) ∈ lw_gd := x_w 1196 (by decide +kernel) rfl
theorem wd_1197 : (.methodLink RX12 236 yX12_traces : Cond) ∈ lw_gd := x_w 1197 (by decide +kernel) rfl
theorem wd_1199 : (.instanceMethod yX12_traces : Cond) ∈ lw_gd := x_w 1199 (by decide +kernel) rfl
theorem wd_1200 : (.code yX12_traces cX12_traces 2 none : Cond) ∈ lw_gd := x_w 1200 (by decide +kernel) rfl
theorem wd_1201 : (.methodLink RX12 249 yX12_zerosSize : Cond) ∈ lw_gd := x_w 1201 (by decide +kernel) rfl
theorem wd_1203 : (.instanceMethod yX12_zerosSize : Cond) ∈ lw_gd := x_w 1203 (by decide +kernel) rfl
theorem wd_1204 : (.code yX12_zerosSize cX12_zerosSize 4 (some .int) : Cond) ∈ lw_gd := x_w 1204 (by decide +kernel) rfl
theorem wd_1205 : (.methodLink RX12 243 yX12_zerosMark : Cond) ∈ lw_gd := x_w 1205 (by decide +kernel) rfl
theorem wd_1207 : (.instanceMethod yX12_zerosMark : Cond) ∈ lw_gd := x_w 1207 (by decide +kernel) rfl
theorem wd_1208 : (.code yX12_zerosMark cX12_zerosMark 4 (some .int) : Cond) ∈ lw_gd := x_w 1208 (by decide +kernel) rfl
theorem wd_1209 : (.methodLink RX12 240 yX12_onesOf : Cond) ∈ lw_gd := x_w 1209 (by decide +kernel) rfl
theorem wd_1211 : (.instanceMethod yX12_onesOf : Cond) ∈ lw_gd := x_w 1211 (by decide +kernel) rfl
theorem wd_1212 : (.code yX12_onesOf cX12_onesOf 4 (some .int) : Cond) ∈ lw_gd := x_w 1212 (by decide +kernel) rfl
theorem wd_1213 : (.methodLink RX12 252 yX12_alternateMark : Cond) ∈ lw_gd := x_w 1213 (by decide +kernel) rfl
theorem wd_1215 : (.instanceMethod yX12_alternateMark : Cond) ∈ lw_gd := x_w 1215 (by decide +kernel) rfl
theorem wd_1216 : (.code yX12_alternateMark cX12_alternateMark 2 (some .int) : Cond) ∈ lw_gd := x_w 1216 (by decide +kernel) rfl
theorem wd_1217 : (.methodLink RL 179 yX12_trace : Cond) ∈ lw_gd := x_w 1217 (by decide +kernel) rfl
theorem wd_1218 : (.instanceMethod yX12_trace : Cond) ∈ lw_gd := x_w 1218 (by decide +kernel) rfl
theorem wd_1219 : (.selects RX12 yX12_trace yX12_trace : Cond) ∈ lw_gd := x_w 1219 (by decide +kernel) rfl
theorem wd_1220 : (.code yX12_trace cX12_trace 2 (some .int) : Cond) ∈ lw_gd := x_w 1220 (by decide +kernel) rfl
theorem wd_1221 : (.methodLink RL 183 yX12_count : Cond) ∈ lw_gd := x_w 1221 (by decide +kernel) rfl
theorem wd_1222 : (.instanceMethod yX12_count : Cond) ∈ lw_gd := x_w 1222 (by decide +kernel) rfl
theorem wd_1223 : (.selects RX12 yX12_count yX12_count : Cond) ∈ lw_gd := x_w 1223 (by decide +kernel) rfl
theorem wd_1224 : (.code yX12_count cX12_count 4 (some .int) : Cond) ∈ lw_gd := x_w 1224 (by decide +kernel) rfl
theorem wd_1225 : (.methodLink RL 187 yX12_status : Cond) ∈ lw_gd := x_w 1225 (by decide +kernel) rfl
theorem wd_1226 : (.instanceMethod yX12_status : Cond) ∈ lw_gd := x_w 1226 (by decide +kernel) rfl
theorem wd_1227 : (.selects RX12 yX12_status yX12_status : Cond) ∈ lw_gd := x_w 1227 (by decide +kernel) rfl
theorem wd_1228 : (.code yX12_status cX12_status 1 (some .int) : Cond) ∈ lw_gd := x_w 1228 (by decide +kernel) rfl
theorem wd_1229 : (.sameMethod RX0 RX0 "bitOf" "(I)I" : Cond) ∈ lw_gd := x_w 1229 (by decide +kernel) rfl
theorem wd_1230 : (.sameMethod RX0 RX0 "tellSize" "(LClassBits$Trace;)I" : Cond) ∈ lw_gd := x_w 1230 (by decide +kernel) rfl
theorem wd_1231 : (.sameMethod RX10 RX10 "tellSize" "(LClassBits$Trace;)I" : Cond) ∈ lw_gd := x_w 1231 (by decide +kernel) rfl
theorem wd_1232 : (.sameMethod RX6 RX6 "tellMark" "(LClassBits$Trace;)I" : Cond) ∈ lw_gd := x_w 1232 (by decide +kernel) rfl
theorem wd_1233 : (.selects RX0 yX6_tellMark yX0_tellMark : Cond) ∈ lw_gd := x_w 1233 (by decide +kernel) rfl
theorem wd_1234 : (.selects RX0 yX0_tellSize yX0_tellSize : Cond) ∈ lw_gd := x_w 1234 (by decide +kernel) rfl
theorem wd_1235 : (.selects RX2 yX0_tellSize yX2_tellSize : Cond) ∈ lw_gd := x_w 1235 (by decide +kernel) rfl
theorem wd_1236 : (.selects RX2 yX6_tellMark yX0_tellMark : Cond) ∈ lw_gd := x_w 1236 (by decide +kernel) rfl
theorem wd_1237 : (.selects RX4 yX6_tellMark yX4_tellMark : Cond) ∈ lw_gd := x_w 1237 (by decide +kernel) rfl
theorem wd_1238 : (.selects RX8 yX6_tellMark yX8_tellMark : Cond) ∈ lw_gd := x_w 1238 (by decide +kernel) rfl
theorem wd_1239 : (.selects RX10 yX6_tellMark yX10_tellMark : Cond) ∈ lw_gd := x_w 1239 (by decide +kernel) rfl
end
section
/-! THE ABSTRACT MACHINE. An abstract heap is a list of cells; cell k stands at the address 'ad k'; references inside are places of the list. The first three cells are arrays that nobody writes: CHOICES, WIDTHS, the script. -/
abbrev xH : Type := List va_E
def xv (ad : Nat → Nat) : Value → Value
  | .ref a => .ref (ad a)
  | .int x => .int x
  | .long x => .long x
  | .null => .null
  | .float x => .float x
  | .double x => .double x
  | .retAddr x => .retAddr x
abbrev xB : Type := (Nat → Int32) ⊕ (Nat → Int64) ⊕ (Nat → UInt32) ⊕ (Nat → UInt64) ⊕ (Nat → Option Nat)
def xa (ad : Nat → Nat) : xB → xB
  | .inl f => .inl f
  | .inr (.inl f) => .inr (.inl f)
  | .inr (.inr (.inl f)) => .inr (.inr (.inl f))
  | .inr (.inr (.inr (.inl f))) => .inr (.inr (.inr (.inl f)))
  | .inr (.inr (.inr (.inr f))) => .inr (.inr (.inr (.inr (fun j => (f j).map ad))))
def xe (tA ad : Nat → Nat) : va_E → va_E
  | .inl (c, n, a) => .inl (tA c, n, xa ad a)
  | .inr (c, fs) => .inr (c, fs.map (xv ad))
def xw (tA ad : Nat → Nat) (h : xH) : va_W := (h.drop 3).mapIdx (fun k e => (ad (k + 3), xe tA ad e))
def xs : va_E → Nat
  | .inl (_, n, _) => n
  | .inr (_, fs) => fs.length
def xz (h : xH) : Nat := (h.map xs).sum
def xcv (n : Nat) (v : Value) : Prop := ∀ a, v = .ref a → a < n
def xca (n : Nat) : xB → Prop
  | .inl _ => True
  | .inr (.inl _) => True
  | .inr (.inr (.inl _)) => True
  | .inr (.inr (.inr (.inl _))) => True
  | .inr (.inr (.inr (.inr f))) => ∀ j a, f j = some a → a < n
def xce (n : Nat) : va_E → Prop
  | .inl (_, _, a) => xca n a
  | .inr (_, fs) => ∀ v ∈ fs, xcv n v
def xcH (h : xH) : Prop := ∀ (k : Nat) (e : va_E), h[k]? = some e → xce h.length e
def xl (ad : Nat → Nat) (ls : List (Nat × Value)) : List (Nat × Value) := ls.map (fun q => (q.1, xv ad q.2))
def xcl (n : Nat) (ls : List (Nat × Value)) (st : List Value) : Prop := (∀ q ∈ ls, xcv n q.2) ∧ ∀ v ∈ st, xcv n v
-- small rows
theorem xv_cat (ad : Nat → Nat) (v : Value) : (xv ad v).category = v.category := by cases v <;> rfl
theorem xv_rf (ad : Nat → Nat) (r : Option Nat) : xv ad (va_rf r) = va_rf (r.map ad) := by cases r <;> rfl
theorem xw_at (tA ad : Nat → Nat) (h : xH) (k : Nat) : (xw tA ad h)[k]? = (h[k + 3]?).map (fun e => (ad (k + 3), xe tA ad e)) := by
  simp only [xw, List.getElem?_mapIdx, List.getElem?_drop]
  rw [Nat.add_comm 3 k]
theorem xw_get {tA ad : Nat → Nat} {h : xH} {a : Nat} {e : va_E} (ha : 3 ≤ a) (he : h[a]? = some e) : (xw tA ad h)[a - 3]? = some (ad a, xe tA ad e) := by
  rw [xw_at, show a - 3 + 3 = a by omega, he]; rfl
theorem xw_set {tA ad : Nat → Nat} {h : xH} {a : Nat} {e : va_E} (ha : 3 ≤ a) : xw tA ad (h.set a e) = (xw tA ad h).set (a - 3) (ad a, xe tA ad e) := by
  apply List.ext_getElem?
  intro k
  rw [xw_at, List.getElem?_set, List.getElem?_set]
  by_cases hk : a = k + 3
  · subst hk
    have hl : (xw tA ad h).length = h.length - 3 := by simp [xw]
    simp only [Nat.add_sub_cancel, if_true]
    rw [hl]
    by_cases hl2 : k + 3 < h.length
    · rw [if_pos hl2, if_pos (by omega)]; rfl
    · rw [if_neg hl2, if_neg (by omega)]; rfl
  · rw [if_neg hk, if_neg (by omega), xw_at]
theorem xw_push {tA ad : Nat → Nat} {h : xH} {e : va_E} (h3 : 3 ≤ h.length) : xw tA ad (h ++ [e]) = xw tA ad h ++ [(ad h.length, xe tA ad e)] := by
  simp only [xw]
  rw [List.drop_append_of_le_length h3, List.mapIdx_append]
  simp only [List.mapIdx_cons, List.mapIdx_nil, List.length_drop]
  rw [show 0 + (h.length - 3) + 3 = h.length by omega]
theorem xw_len (tA ad : Nat → Nat) (h : xH) : (xw tA ad h).length = h.length - 3 := by simp [xw]
theorem xv_agree {ad ad' : Nat → Nat} {n : Nat} (h : ∀ k, k < n → ad' k = ad k) {v : Value} (hv : xcv n v) : xv ad' v = xv ad v := by
  cases v with
  | ref a => show Value.ref (ad' a) = Value.ref (ad a); rw [h a (hv a rfl)]
  | _ => rfl
theorem xa_agree {ad ad' : Nat → Nat} {n : Nat} (h : ∀ k, k < n → ad' k = ad k) {a : xB} (hv : xca n a) : xa ad' a = xa ad a := by
  match a, hv with
  | .inl _, _ => rfl
  | .inr (.inl _), _ => rfl
  | .inr (.inr (.inl _)), _ => rfl
  | .inr (.inr (.inr (.inl _))), _ => rfl
  | .inr (.inr (.inr (.inr f))), hv =>
    have : (fun j => (f j).map ad') = (fun j => (f j).map ad) := by
      funext j
      cases hj : f j with
      | none => rfl
      | some q => show some (ad' q) = some (ad q); rw [h q (hv j q hj)]
    show Sum.inr (Sum.inr (Sum.inr (Sum.inr _))) = Sum.inr (Sum.inr (Sum.inr (Sum.inr _)))
    rw [this]
theorem xe_agree {tA ad ad' : Nat → Nat} {n : Nat} (h : ∀ k, k < n → ad' k = ad k) {e : va_E} (hv : xce n e) : xe tA ad' e = xe tA ad e := by
  match e, hv with
  | .inl (c, m, a), hv => show Sum.inl (tA c, m, xa ad' a) = Sum.inl (tA c, m, xa ad a); rw [xa_agree h hv]
  | .inr (c, fs), hv =>
    show Sum.inr (c, fs.map (xv ad')) = Sum.inr (c, fs.map (xv ad))
    rw [List.map_congr_left (fun v hm => xv_agree h (hv v hm))]
theorem xw_agree {tA ad ad' : Nat → Nat} {h : xH} (hc : xcH h) (hag : ∀ k, k < h.length → ad' k = ad k) : xw tA ad' h = xw tA ad h := by
  apply List.ext_getElem?
  intro k
  rw [xw_at, xw_at]
  cases he : h[k + 3]? with
  | none => rfl
  | some e =>
    have hl : k + 3 < h.length := (List.getElem?_eq_some_iff.mp he).1
    show some (ad' (k + 3), xe tA ad' e) = some (ad (k + 3), xe tA ad e)
    rw [hag _ hl, xe_agree hag (hc _ _ he)]
theorem xl_agree {ad ad' : Nat → Nat} {n : Nat} {ls : List (Nat × Value)} (hc : ∀ q ∈ ls, xcv n q.2) (hag : ∀ k, k < n → ad' k = ad k) : xl ad' ls = xl ad ls :=
  List.map_congr_left (fun q hm => by rw [xv_agree hag (hc q hm)])
theorem xm_agree {ad ad' : Nat → Nat} {n : Nat} {st : List Value} (hc : ∀ v ∈ st, xcv n v) (hag : ∀ k, k < n → ad' k = ad k) : st.map (xv ad') = st.map (xv ad) :=
  List.map_congr_left (fun q hm => by rw [xv_agree hag (hc q hm)])
theorem xl_at {ad : Nat → Nat} {ls : List (Nat × Value)} {k i : Nat} {v : Value} (h : ls[k]? = some (i, v)) : (xl ad ls)[k]? = some (i, xv ad v) := by
  simp [xl, h]
theorem xl_filter (ad : Nat → Nat) (ls : List (Nat × Value)) (i : Nat) : (xl ad ls).filter (fun q => !(q.1 == i) && !(q.1 + 1 == i && q.2.category == 2)) = xl ad (ls.filter (fun q => !(q.1 == i) && !(q.1 + 1 == i && q.2.category == 2))) := by
  simp only [xl, List.filter_map]
  congr 1
  apply List.filter_congr
  intro q _
  simp only [Function.comp, xv_cat]
theorem xl_filter2 (ad : Nat → Nat) (ls : List (Nat × Value)) (i : Nat) : (xl ad ls).filter (fun q => !(q.1 == i) && (!(q.1 == i + 1) && !(q.1 + 1 == i && q.2.category == 2))) = xl ad (ls.filter (fun q => !(q.1 == i) && (!(q.1 == i + 1) && !(q.1 + 1 == i && q.2.category == 2)))) := by
  simp only [xl, List.filter_map]
  congr 1
  apply List.filter_congr
  intro q _
  simp only [Function.comp, xv_cat]
theorem xl_pick (ad : Nat → Nat) (ls : List (Nat × Value)) (ks : List Nat) : lv_pick (xl ad ls) ks = xl ad (lv_pick ls ks) := by
  simp only [lv_pick, xl, List.map_filterMap]
  congr 1
  funext k
  simp [List.getElem?_map]
theorem xcv_i {n : Nat} {x : Int32} : xcv n (.int x) := fun _ h => by cases h
theorem xcv_l {n : Nat} {x : Int64} : xcv n (.long x) := fun _ h => by cases h
theorem xcv_n {n : Nat} : xcv n .null := fun _ h => by cases h
theorem xcv_r {n a : Nat} (h : a < n) : xcv n (.ref a) := fun _ e => by cases e; exact h
theorem xcv_le {n n' : Nat} (hn : n ≤ n') {v : Value} (h : xcv n v) : xcv n' v := fun a e => Nat.lt_of_lt_of_le (h a e) hn
theorem xca_le {n n' : Nat} (hn : n ≤ n') {a : xB} (h : xca n a) : xca n' a := by
  match a, h with
  | .inl _, _ => trivial
  | .inr (.inl _), _ => trivial
  | .inr (.inr (.inl _)), _ => trivial
  | .inr (.inr (.inr (.inl _))), _ => trivial
  | .inr (.inr (.inr (.inr f))), h => exact fun j q e => Nat.lt_of_lt_of_le (h j q e) hn
theorem xce_le {n n' : Nat} (hn : n ≤ n') {e : va_E} (h : xce n e) : xce n' e := by
  match e, h with
  | .inl (c, m, a), h => exact xca_le hn h
  | .inr (c, fs), h => exact fun v hv => xcv_le hn (h v hv)
theorem xcl_le {n n' : Nat} (hn : n ≤ n') {ls : List (Nat × Value)} {st : List Value} (h : xcl n ls st) : xcl n' ls st := ⟨fun q hq => xcv_le hn (h.1 q hq), fun v hv => xcv_le hn (h.2 v hv)⟩
theorem xcH_set {h : xH} {a : Nat} {e : va_E} (hc : xcH h) (he : xce h.length e) : xcH (h.set a e) := by
  intro k x hk
  rw [List.length_set]
  rw [List.getElem?_set] at hk
  split at hk
  · split at hk
    · cases hk; exact he
    · cases hk
  · exact hc k x hk
theorem xcH_push {h : xH} {e : va_E} (hc : xcH h) (he : xce (h.length + 1) e) : xcH (h ++ [e]) := by
  intro k x hk
  rw [List.length_append]
  by_cases hl : k < h.length
  · rw [List.getElem?_append_left hl] at hk
    exact xce_le (Nat.le_add_right _ _) (hc k x hk)
  · rw [List.getElem?_append_right (by omega)] at hk
    have hz : k - h.length < 1 := (List.getElem?_eq_some_iff.mp hk).1
    rw [show k - h.length = 0 by omega] at hk
    cases hk
    exact he
theorem xz_set {h : xH} {a : Nat} {e e' : va_E} (he : h[a]? = some e) (hs : xs e' = xs e) : xz (h.set a e') = xz h := by
  have hl := (List.getElem?_eq_some_iff.mp he).1
  unfold xz
  rw [List.map_set, hs]
  congr 1
  apply List.ext_getElem?
  intro k
  rw [List.getElem?_set]
  split
  · next hk =>
    subst hk
    simp [hl]
    have := (List.getElem?_eq_some_iff.mp he).2
    rw [this]
  · rfl
theorem xz_push (h : xH) (e : va_E) : xz (h ++ [e]) = xz h + xs e := by simp [xz]
theorem xtake_set {h : xH} {a : Nat} {e : va_E} (ha : 3 ≤ a) : (h.set a e).take 3 = h.take 3 := List.take_set_of_le ha
theorem xtake_push {h : xH} {e : va_E} (h3 : 3 ≤ h.length) : (h ++ [e]).take 3 = h.take 3 := List.take_append_of_le_length h3
theorem xtake_at {h ro : xH} (ht : h.take 3 = ro) {i : Nat} (hi : i < 3) : h[i]? = ro[i]? := by rw [← ht, List.getElem?_take, if_pos hi]
end
section
def xNM : List (String × Nat × MethodName × String) := [(RX11, 28, yX1_init, RX11), (RX3, 21, yX1_init, RX11), (RX11, 42, yX7_init, RX11), (RX11, 55, yX9_init, RX11), (RX11, 60, yX5_init, RX11), (RX1, 40, yX11_firstPlaces, RX11), (RX1, 80, yX11_offsetOf, RX11)]
def xNF : Cond := .fieldLinkNest RX1 71 "ClassBits" "WIDTHS" "[I" RX11
def xND : List MethodName := [⟨"ClassBits$Run", "bitOf", "(I)I"⟩, ⟨"ClassBits$Run", "kindNumber", "()I"⟩, yX6_onesWithin]
def xNC : List (String × String) := [(RX4, RX10), (RX8, RX10), (RX2, RX0), (RX4, RX6), (RX8, RX6), (RX0, RX6), (RX2, RX6), (RX10, RX6)]
def xNc : List (String × String) := [(RX0, RX2), (RX0, RX4), (RX0, RX8), (RX0, RX10), (RX2, RX4), (RX2, RX8), (RX2, RX10), (RX4, RX0), (RX4, RX2), (RX4, RX8), (RX8, RX0), (RX8, RX2), (RX8, RX4), (RX10, RX0), (RX10, RX2), (RX10, RX4), (RX10, RX8)]
def xAO : List String := [RX5, RX1, RX6]
abbrev xT (tA : Nat → Nat) : List (ClassId × FieldType) := [(tA 0, .int), (tA 1, .boolean), (tA 2, .object RX5), (tA 3, .object RX1), (tA 4, .object RX6)]
/-- the machine's part of a method's frame: program, launch, env, the state at the entry, method, arguments, the frames below, method and code -/
abbrev xK : Type := Program × Launch × Env × State × MethodId × Array Value × List Frame × Method × Code
/-- the abstract part: classes and slots, array classes, from where on cells are ours, the three read-only cells, their addresses, the addresses at the entry, how many cells and slots there were -/
abbrev xL : Type := va_G × (Nat → Nat) × Nat × xH × (Nat → Nat) × (Nat → Nat) × Nat × Nat
abbrev xn0 (L : xL) : Nat := L.2.2.2.2.2.2.1
abbrev xz0 (L : xL) : Nat := L.2.2.2.2.2.2.2
/-- what holds at every state: the tables' words that don't warm by themselves, the statics, the read-only arrays -/
def xG (D : va_G) (tA : Nat → Nat) (base : Nat) (ro : xH) (rd : Nat → Nat) (U : State) : Prop :=
  va_K D vwCl (xT tA) U ∧ base ≤ U.heap.size ∧ va_Z RX11 "CHOICES" "[I" (.ref (rd 0)) (fun q => base ≤ q) U U.heap ∧ va_Z RX11 "WIDTHS" "[I" (.ref (rd 1)) (fun q => base ≤ q) U U.heap ∧ ro.length = 3 ∧
  (∀ i, i < 3 → ∃ (n : Nat) (f : Nat → Int32), ro[i]? = some (.inl (0, n, .inl f)) ∧ va_T .int (rd i) n (fun j => .int (f j)) (fun q => base ≤ q) U U.heap) ∧
  (∀ q ∈ xNM, va_Nw (.methodLinkNest q.1 q.2.1 q.2.2.1 q.2.2.2) U) ∧ va_Nw xNF U ∧ (∀ q ∈ xND, va_Nw (.declares q) U) ∧ (∀ q ∈ xNC, va_Nw (.castable q.1 q.2) U) ∧ (∀ q ∈ xNc, va_Nc q.1 q.2 U) ∧ (∀ q ∈ xAO, va_AO q U)
theorem xG.go {D : va_G} {tA : Nat → Nat} {base : Nat} {ro : xH} {rd : Nat → Nat} {s U : State} (h : xG D tA base ro rd s) (hS : s.heap.size ≤ U.heap.size) (hk : ∀ q : Nat, q < s.heap.size → ¬ base ≤ q → U.heap[q]? = s.heap[q]?) (hW : s.WarmedH U.vm) : xG D tA base ro rd U := by
  obtain ⟨h1, h2, h3, h4, h5, h6, h7, h8, h9, h10, h11, h12⟩ := h
  refine ⟨va_K.moved hW.alike h1, Nat.le_trans h2 hS, va_Z.moved hW.alike (h3.kept hk), va_Z.moved hW.alike (h4.kept hk), h5, fun i hi => ?_, fun q hq => va_Nw.warmM hW (h7 q hq), va_Nw.warmF hW h8, fun q hq => va_Nw.warmD hW (h9 q hq), fun q hq => ?_, fun q hq => (h11 q hq).moved hW.alike, fun q hq => (h12 q hq).moved hW.alike⟩
  · obtain ⟨n, f, e1, e2⟩ := h6 i hi
    exact ⟨n, f, e1, va_T.moved hW.alike (e2.kept hk)⟩
  · exact va_tabs rfl (rfl : (s.setVm U.vm).vm = U.vm) (by rw [Cond.castable_setVm hW.alike]; exact h10 q hq)
theorem xG.same {D : va_G} {tA : Nat → Nat} {base : Nat} {ro : xH} {rd : Nat → Nat} {s U : State} (h : xG D tA base ro rd s) (hh : s.heap = U.heap) (hv : s.vm = U.vm) : xG D tA base ro rd U := by
  obtain ⟨h1, h2, h3, h4, h5, h6, h7, h8, h9, h10, h11, h12⟩ := h
  have hal : s.vm.Alike U.vm := by rw [hv]; exact Vm.Alike.refl U.vm
  rw [hh] at h2 h3 h4 h6
  refine ⟨va_K.moved hal h1, h2, va_Z.moved hal h3, va_Z.moved hal h4, h5, fun i hi => ?_, fun q hq => va_Nw.same rfl hv (h7 q hq), va_Nw.same rfl hv h8, fun q hq => va_Nw.same rfl hv (h9 q hq), fun q hq => va_Nw.same rfl hv (h10 q hq), fun q hq => (h11 q hq).moved hal, fun q hq => (h12 q hq).moved hal⟩
  obtain ⟨n, f, e1, e2⟩ := h6 i hi
  exact ⟨n, f, e1, va_T.moved hal e2⟩
/-- the heap H holds the abstract heap h at the addresses ad -/
def xI (s : State) (L : xL) (ad : Nat → Nat) (h : xH) (H : Heap) (locs : List Loc) : Prop := match L with
  | (D, tA, base, ro, rd, ad0, n0, z0) => va_P D vwCl (xw tA ad h) H ∧ va_D (fun q => base ≤ q) (xw tA ad h) ∧ va_S (fun q => base ≤ q) s.heap H locs ∧ (∀ k, k < n0 → ad k = ad0 k) ∧ (∀ i, i < 3 → ad i = rd i) ∧ h.take 3 = ro ∧ n0 ≤ h.length ∧ z0 ≤ xz h ∧ xcH h ∧ 3 ≤ n0
/-- the abstract walk: from every heap that holds h, the machine at pc with these locals and stack comes to Q -/
def AW (K : xK) (L : xL) (nL : Nat) (R : Room) (Q : State → Prop) (pc : Nat) (ls : List (Nat × Value)) (st : List Value) (h : xH) : Prop := match K with
  | (p, l, e, s, m, args, below, meth, c) => ∀ (ad : Nat → Nat) (H : Heap) (locs : List Loc) (lsA : Array Slot), xI s L ad h H locs → xcl h.length ls st → lv_has lsA nL (xl ad ls) → W p l e R s m args below meth c H locs (h.length - xn0 L) (xz h - xz0 L) Q (F0 m pc lsA (st.map (xv ad)))
def xX (K : xK) (L : xL) (cc : ByteArray) (own nm : String) (nL : Nat) : Prop := match K with
  | (p, l, e, s, m, args, below, meth, c) => match L with
    | (D, tA, base, ro, rd, ad0, n0, z0) => p.tables.exec = Jvm.exec ∧ c.code = cc ∧ c.maxLocals = nL ∧ s.vm.findClass own = some m.cls ∧ (∀ w ∈ lw_gd, w.before args s = true) ∧ xG D tA base ro rd s ∧ meth.name = nm
abbrev xE (ρ : Type) : Type := ρ → Nat → List (Nat × Value) → List Value → xH → Prop
/-- if X is some q, the walk from here comes to one of q's ends -/
def Sim {ρ : Type} (K : xK) (L : xL) (cc : ByteArray) (own nm : String) (nL d : Nat) (hp : ρ → xH) (E : xE ρ) (pc : Nat) (ls : List (Nat × Value)) (st : List Value) (h : xH) (X : Option ρ) : Prop :=
  ∀ q, X = some q → (h.length ≤ (hp q).length ∧ xz h ≤ xz (hp q)) ∧ (xX K L cc own nm nL → ∀ (R : Room) (Q : State → Prop), d ≤ R.frames → 32 * d ≤ R.locals → (hp q).length - xn0 L ≤ R.cells → xz (hp q) - xz0 L ≤ R.slots → (∀ pc' ls' st' h', E q pc' ls' st' h' → AW K L nL R Q pc' ls' st' h') → AW K L nL R Q pc ls st h)
section SIM
variable {ρ : Type} {K : xK} {L : xL} {cc : ByteArray} {own nm : String} {nL d : Nat} {hp : ρ → xH} {E : xE ρ} {pc : Nat} {ls : List (Nat × Value)} {st : List Value} {h : xH} {X : Option ρ}
theorem Sim.none : Sim K L cc own nm nL d hp E pc ls st h none := fun _ hq => by cases hq
theorem Sim.fin {q : ρ} (hE : E q pc ls st h) (hh : hp q = h) : Sim K L cc own nm nL d hp E pc ls st h (some q) := by
  intro q' hq
  cases hq
  exact ⟨by rw [hh]; exact ⟨Nat.le_refl _, Nat.le_refl _⟩, fun _ R Q _ _ _ _ k => k pc ls st h hE⟩
theorem Sim.step {pc' : Nat} {ls' : List (Nat × Value)} {st' : List Value} {h' : xH} (hm : h.length ≤ h'.length ∧ xz h ≤ xz h') (ha : xX K L cc own nm nL → ∀ (R : Room) (Q : State → Prop), d ≤ R.frames → 32 * d ≤ R.locals → h'.length - xn0 L ≤ R.cells → xz h' - xz0 L ≤ R.slots → AW K L nL R Q pc' ls' st' h' → AW K L nL R Q pc ls st h) (k : Sim K L cc own nm nL d hp E pc' ls' st' h' X) : Sim K L cc own nm nL d hp E pc ls st h X := by
  intro q hq
  obtain ⟨m, k⟩ := k q hq
  exact ⟨⟨Nat.le_trans hm.1 m.1, Nat.le_trans hm.2 m.2⟩, fun C R Q h1 h2 h3 h4 hE => ha C R Q h1 h2 (by omega) (by omega) (k C R Q h1 h2 h3 h4 hE)⟩
theorem Sim.step0 {pc' : Nat} {ls' : List (Nat × Value)} {st' : List Value} (ha : xX K L cc own nm nL → ∀ (R : Room) (Q : State → Prop), d ≤ R.frames → 32 * d ≤ R.locals → h.length - xn0 L ≤ R.cells → xz h - xz0 L ≤ R.slots → AW K L nL R Q pc' ls' st' h → AW K L nL R Q pc ls st h) (k : Sim K L cc own nm nL d hp E pc' ls' st' h X) : Sim K L cc own nm nL d hp E pc ls st h X :=
  Sim.step ⟨Nat.le_refl _, Nat.le_refl _⟩ ha k
theorem Sim.ite {c : Prop} [Decidable c] {A B : Option ρ} (ka : c → Sim K L cc own nm nL d hp E pc ls st h A) (kb : ¬ c → Sim K L cc own nm nL d hp E pc ls st h B) : Sim K L cc own nm nL d hp E pc ls st h (if c then A else B) := by
  by_cases hc : c
  · rw [if_pos hc]; exact ka hc
  · rw [if_neg hc]; exact kb hc
/-- a stretch with one end, then the rest -/
theorem Sim.bindS {σ : Type} {hs : σ → xH} {px : Nat} {lsx : σ → List (Nat × Value)} {stx : σ → List Value} {Y : Option σ} {F : σ → Option ρ} (k1 : Sim K L cc own nm nL d hs (fun q pc' ls' st' h' => pc' = px ∧ ls' = lsx q ∧ st' = stx q ∧ h' = hs q) pc ls st h Y) (k2 : ∀ q, Sim K L cc own nm nL d hp E px (lsx q) (stx q) (hs q) (F q)) : Sim K L cc own nm nL d hp E pc ls st h (Y.bind F) := by
  intro q hq
  obtain ⟨q1, h1, h2⟩ := Option.bind_eq_some_iff.mp hq
  obtain ⟨m1, k1⟩ := k1 q1 h1
  obtain ⟨m2, k2⟩ := k2 q1 q h2
  refine ⟨⟨Nat.le_trans m1.1 m2.1, Nat.le_trans m1.2 m2.2⟩, fun C R Q a1 a2 a3 a4 hE => k1 C R Q a1 a2 (by omega) (by omega) ?_⟩
  intro pc' ls' st' h' hh
  obtain ⟨rfl, rfl, rfl, rfl⟩ := hh
  exact k2 C R Q a1 a2 a3 a4 hE
theorem Sim.bind {σ : Type} {hs : σ → xH} {px : Nat} {lsx : σ → List (Nat × Value)} {Y : Option σ} {F : σ → Option ρ} (k1 : Sim K L cc own nm nL d hs (fun q pc' ls' st' h' => pc' = px ∧ ls' = lsx q ∧ st' = [] ∧ h' = hs q) pc ls st h Y) (k2 : ∀ q, Sim K L cc own nm nL d hp E px (lsx q) [] (hs q) (F q)) : Sim K L cc own nm nL d hp E pc ls st h (Y.bind F) := Sim.bindS (stx := fun _ => []) k1 k2
theorem Sim.cut {pc' : Nat} {st' : List Value} (k : Sim K L cc own nm nL d hp E pc' ls st' h X) (r : Sim K L cc own nm nL d hp E pc' ls st' h X → Sim K L cc own nm nL d hp E pc ls st h X) : Sim K L cc own nm nL d hp E pc ls st h X := r k
theorem x_st {st' : List Value} (e : st' = st) (k : Sim K L cc own nm nL d hp E pc ls st' h X) : Sim K L cc own nm nL d hp E pc ls st h X := e ▸ k
theorem S_sub {ls' : List (Nat × Value)} (ks : List Nat) (hk : lv_pick ls ks = ls') (k : Sim K L cc own nm nL d hp E pc ls' st h X) : Sim K L cc own nm nL d hp E pc ls st h X := by
  obtain ⟨p, l, e, s, m, args, below, meth, c⟩ := K
  refine Sim.step0 (fun C R Q _ _ _ _ k ad H locs lsA hI hc hl => ?_) k
  refine k ad H locs lsA hI ⟨fun q hq => ?_, hc.2⟩ (lv_sub hl ks (by rw [xl_pick, hk]))
  rw [← hk] at hq
  obtain ⟨i, -, hi⟩ := List.mem_filterMap.mp hq
  exact hc.1 q (List.mem_of_getElem? hi)
end SIM
/-- a method's start and end -/
def xPc (D : va_G) (tA : Nat → Nat) (base : Nat) (ro : xH) (rd ad : Nat → Nat) (h : xH) (av : List Value) : Array Value → State → Prop :=
  va_Pc (av.map (xv ad)) (fun U => xG D tA base ro rd U ∧ va_P D vwCl (xw tA ad h) U.heap ∧ va_D (fun q => base ≤ q) (xw tA ad h) ∧ (∀ i, i < 3 → ad i = rd i) ∧ h.take 3 = ro ∧ 3 ≤ h.length ∧ xcH h ∧ ∀ v ∈ av, xcv h.length v)
def xQc (D : va_G) (tA : Nat → Nat) (base : Nat) (ro : xH) (ad : Nat → Nat) (h : xH) (r : Option Value) (h' : xH) : Array Value → State → Outcome → State → Prop := fun _ st oc t =>
  (∃ ad' : Nat → Nat, oc = .returned (r.map (xv ad')) ∧ (∀ k, k < h.length → ad' k = ad k) ∧ va_P D vwCl (xw tA ad' h') t.heap ∧ va_D (fun q => base ≤ q) (xw tA ad' h') ∧ h'.take 3 = ro ∧ xcH h' ∧ ∀ v, r = some v → xcv h'.length v) ∧ va_F (fun q => base ≤ q) st t
/-- A CONTRACT: called with the arguments av and the abstract heap h, method y returns r and leaves h' -/
def xM (l : Launch) (y : MethodName) (cc : ByteArray) (nL : Nat) (ret : Option FieldType) (d : Nat) (av : List Value) (h : xH) (r : Option Value) (h' : xH) : Prop :=
  (∀ _ : xK, h.length ≤ h'.length ∧ xz h ≤ xz h') ∧ ∀ (D : va_G) (tA : Nat → Nat) (base : Nat) (ro : xH) (rd ad : Nat → Nat), Met l y (.code y cc nL ret :: lw_gd) { frames := d, cells := h'.length - h.length, slots := xz h' - xz h, locals := 32 * d } (xPc D tA base ro rd ad h av) (xQc D tA base ro ad h r h') (h'.length - h.length) (xz h' - xz h) (fun q => base ≤ q)
/-- a call that comes back with r and h1 -/
def xRun (K : xK) (L : xL) (cc : ByteArray) (own nm : String) (nL d pc : Nat) (ls : List (Nat × Value)) (st rest : List Value) (h : xH) (r : Option Value) (h1 : xH) : Prop :=
  h.length ≤ h1.length ∧ xz h ≤ xz h1 ∧ (xX K L cc own nm nL → match K with
  | (p, l, e, s, m, args, below, meth, c) => match L with
    | (D, tA, base, ro, rd, ad0, n0, z0) => ∀ (R : Room), d ≤ R.frames → 32 * d ≤ R.locals → h1.length - n0 ≤ R.cells → xz h1 - z0 ≤ R.slots → ∀ (ad : Nat → Nat) (H : Heap) (locs : List Loc) (lsA : Array Slot), xI s (D, tA, base, ro, rd, ad0, n0, z0) ad h H locs → xcl h.length ls st → lv_has lsA nL (xl ad ls) →
      ∃ a, va_Run p l e R s m args below meth c H locs (h.length - n0) (xz h - z0) (h1.length - h.length) (xz h1 - xz h) (F0 m pc lsA (st.map (xv ad))) (rest.map (xv ad)) (xQc D tA base ro ad h r h1 a) (fun q => base ≤ q))
theorem AW_call {K : xK} {L : xL} {cc : ByteArray} {own nm : String} {nL d pc : Nat} {ls : List (Nat × Value)} {st rest : List Value} {h h1 : xH} {r : Option Value} {R : Room} {Q : State → Prop} (hr : xRun K L cc own nm nL d pc ls st rest h r h1) (C : xX K L cc own nm nL) (hsub : ∀ v ∈ rest, v ∈ st) (b1 : d ≤ R.frames) (b2 : 32 * d ≤ R.locals) (b3 : h1.length - xn0 L ≤ R.cells) (b4 : xz h1 - xz0 L ≤ R.slots)
    (kk : AW K L nL R Q (pc + 3) ls (r.toList ++ rest) h1) : AW K L nL R Q pc ls st h := by
  obtain ⟨p, l, e, s, m, args, below, meth, c⟩ := K
  obtain ⟨D, tA, base, ro, rd, ad0, n0, z0⟩ := L
  obtain ⟨g1, g2, hr⟩ := hr
  intro ad H locs lsA hI hc hl
  obtain ⟨a, hrun⟩ := hr C R b1 b2 b3 b4 ad H locs lsA hI hc hl
  obtain ⟨i1, i2, i3, i4, i5, i6, i7, i8, i9, i10⟩ := hI
  intro T hT X
  obtain ⟨v, st₀, t, T', Lc, h0, X', hL, e1, e2, ⟨⟨ad', hv, hag, hP, hD, ht3, hcH, hcr⟩, hz, hk⟩, stp⟩ := hrun T hT X
  cases hv
  rw [h0] at hz hk
  have hcl : ∀ v ∈ rest, xcv h.length v := fun v hm => hc.2 v (hsub v hm)
  have hS' : va_S (fun q => base ≤ q) s.heap T'.heap (locs ++ Lc) := ⟨Nat.le_trans i3.1 (by rw [e1]; exact hz), fun q h1 h2 => by rw [e1, hk q (Nat.lt_of_lt_of_le h1 i3.1) h2]; exact i3.2.1 q h1 h2, fun q hq => by
      rcases List.mem_append.mp hq with h | h
      · exact i3.2.2 q h
      · exact hL q h⟩
  have hI' : xI s (D, tA, base, ro, rd, ad0, n0, z0) ad' h1 T'.heap (locs ++ Lc) := ⟨by rw [e1]; exact hP, hD, hS', fun k hk => by rw [hag k (by omega)]; exact i4 k hk, fun i hi => by rw [hag i (by omega)]; exact i5 i hi, ht3, by omega, by omega, hcH, i10⟩
  have hc' : xcl h1.length ls (r.toList ++ rest) := ⟨fun q hq => xcv_le g1 (hc.1 q hq), fun v hv => by
    rcases List.mem_append.mp hv with h | h
    · exact hcr v (by cases r with
        | none => cases h
        | some w => simp at h; rw [h])
    · exact xcv_le g1 (hcl v h)⟩
  have hl' : lv_has lsA nL (xl ad' ls) := by rw [xl_agree hc.1 hag]; exact hl
  have k2 := kk ad' T'.heap (locs ++ Lc) lsA hI' hc' hl'
  have ec : h1.length - n0 = h.length - n0 + (h1.length - h.length) := by omega
  have es : xz h1 - z0 = xz h - z0 + (xz h1 - xz h) := by omega
  obtain ⟨t2, a1, b1⟩ := k2 T' rfl (by show Stand p l e R s m args below meth c T' (locs ++ Lc) (h1.length - n0) (xz h1 - z0); rw [ec, es]; exact X')
  refine ⟨t2, stp t2 ?_, b1⟩
  have est : (r.toList ++ rest).map (xv ad') = (r.map (xv ad')).toList ++ rest.map (xv ad) := by
    rw [List.map_append, xm_agree hcl hag]
    cases r <;> rfl
  rw [est] at a1
  exact a1
section CALL
variable {ρ : Type} {K : xK} {L : xL} {cc : ByteArray} {own nm : String} {nL d : Nat} {hp : ρ → xH} {E : xE ρ} {pc : Nat} {ls : List (Nat × Value)} {st : List Value} {h : xH}
theorem S_call {σ : Type} {Y : Option σ} {rv : σ → Option Value} {hq : σ → xH} {F : σ → Option ρ} {rest : List Value} (hr : ∀ q, Y = some q → xRun K L cc own nm nL d pc ls st rest h (rv q) (hq q)) (hsub : ∀ v ∈ rest, v ∈ st)
    (kk : ∀ q, Sim K L cc own nm nL d hp E (pc + 3) ls ((rv q).toList ++ rest) (hq q) (F q)) : Sim K L cc own nm nL d hp E pc ls st h (Y.bind F) := by
  intro q hq'
  obtain ⟨q1, h1, h2⟩ := Option.bind_eq_some_iff.mp hq'
  have hr := hr q1 h1
  obtain ⟨m2, k2⟩ := kk q1 q h2
  refine ⟨⟨Nat.le_trans hr.1 m2.1, Nat.le_trans hr.2.1 m2.2⟩, fun C R Q a1 a2 a3 a4 hE => ?_⟩
  exact AW_call hr C hsub a1 a2 (by omega) (by omega) (k2 C R Q a1 a2 a3 a4 hE)
theorem S_call_i {Y : Option (Int32 × xH)} {F : Int32 × xH → Option ρ} {rest : List Value} (hr : ∀ q, Y = some q → xRun K L cc own nm nL d pc ls st rest h (some (.int q.1)) q.2) (hsub : ∀ v ∈ rest, v ∈ st)
    (kk : ∀ q, Sim K L cc own nm nL d hp E (pc + 3) ls (.int q.1 :: rest) q.2 (F q)) : Sim K L cc own nm nL d hp E pc ls st h (Y.bind F) := S_call (rv := fun q : Int32 × xH => some (.int q.1)) (hq := fun q : Int32 × xH => q.2) hr hsub kk
theorem S_call_l {Y : Option (Int64 × xH)} {F : Int64 × xH → Option ρ} {rest : List Value} (hr : ∀ q, Y = some q → xRun K L cc own nm nL d pc ls st rest h (some (.long q.1)) q.2) (hsub : ∀ v ∈ rest, v ∈ st)
    (kk : ∀ q, Sim K L cc own nm nL d hp E (pc + 3) ls (.long q.1 :: rest) q.2 (F q)) : Sim K L cc own nm nL d hp E pc ls st h (Y.bind F) := S_call (rv := fun q : Int64 × xH => some (.long q.1)) (hq := fun q : Int64 × xH => q.2) hr hsub kk
theorem S_call_r {Y : Option (Nat × xH)} {F : Nat × xH → Option ρ} {rest : List Value} (hr : ∀ q, Y = some q → xRun K L cc own nm nL d pc ls st rest h (some (.ref q.1)) q.2) (hsub : ∀ v ∈ rest, v ∈ st)
    (kk : ∀ q, Sim K L cc own nm nL d hp E (pc + 3) ls (.ref q.1 :: rest) q.2 (F q)) : Sim K L cc own nm nL d hp E pc ls st h (Y.bind F) := S_call (rv := fun q : Nat × xH => some (.ref q.1)) (hq := fun q : Nat × xH => q.2) hr hsub kk
theorem S_call_v {Y : Option xH} {F : xH → Option ρ} {rest : List Value} (hr : ∀ q, Y = some q → xRun K L cc own nm nL d pc ls st rest h none q) (hsub : ∀ v ∈ rest, v ∈ st)
    (kk : ∀ q, Sim K L cc own nm nL d hp E (pc + 3) ls rest q (F q)) : Sim K L cc own nm nL d hp E pc ls st h (Y.bind F) := S_call (rv := fun _ => none) (hq := fun q => q) hr hsub kk
end CALL
end
section
theorem x_gs {ws : List Cond} (h : ∀ w ∈ ws, w ∈ lw_gd) : GoodIn lw_gd ws := fun w hw => ⟨h w hw, good_of_word (x_gdG (h w hw))⟩
theorem x_gc {a : Cond} (ha : a ∈ lw_gd) : ∀ w ∈ a :: lw_gd, w ∈ lw_gd := fun w hw => (List.mem_cons.mp hw).elim (fun e => e ▸ ha) id
def xk (h : xH) (a : Nat) : Option Nat := match h[a]? with
  | some (.inr (c, _)) => some c
  | _ => none
theorem xk_spec {h : xH} {a c : Nat} (hk : xk h a = some c) : ∃ fs, h[a]? = some (.inr (c, fs)) := by
  unfold xk at hk
  split at hk
  · next c' fs he => cases hk; exact ⟨fs, he⟩
  · cases hk
theorem xI.obj {s : State} {D : va_G} {tA : Nat → Nat} {base : Nat} {ro : xH} {rd ad0 : Nat → Nat} {n0 z0 : Nat} {ad : Nat → Nat} {h : xH} {H : Heap} {locs : List Loc} (hG : xG D tA base ro rd s) (hI : xI s (D, tA, base, ro, rd, ad0, n0, z0) ad h H locs) {a : Nat} {x : Nat × List Value} (he : h[a]? = some (.inr x)) : 3 ≤ a := by
  rcases Nat.lt_or_ge a 3 with hl | hl
  · obtain ⟨i1, i2, i3, i4, i5, i6, -⟩ := hI
    obtain ⟨-, -, -, -, -, h6, -⟩ := hG
    obtain ⟨n, f, e1, -⟩ := h6 a hl
    rw [xtake_at i6 hl, e1] at he
    cases he
  · exact hl
theorem x_preS {s : State} {D : va_G} {tA : Nat → Nat} {base : Nat} {ro : xH} {rd ad0 : Nat → Nat} {n0 z0 : Nat} {ad : Nat → Nat} {h : xH} {H : Heap} {locs : List Loc} {av : List Value} (hG : xG D tA base ro rd s) (hI : xI s (D, tA, base, ro, rd, ad0, n0, z0) ad h H locs) (hav : ∀ v ∈ av, xcv h.length v) : PreS s H (xPc D tA base ro rd ad h av) (av.map (xv ad)) := by
  obtain ⟨i1, i2, i3, i4, i5, i6, i7, i8, i9, i10⟩ := hI
  refine ⟨fun a U g mk q => ⟨q.1, xG.same q.2.1 rfl rfl, q.2.2⟩, fun U hU hW => ⟨rfl, xG.go hG (by rw [hU]; exact i3.1) (fun q h1 h2 => by rw [hU]; exact i3.2.1 q h1 h2) hW, by rw [hU]; exact i1, i2, i5, i6, by omega, i9, hav⟩⟩
theorem x_cat (ad : Nat → Nat) (rest : List Value) : ((rest.map (xv ad)).map fun v => v.category).sum = (rest.map fun v => v.category).sum := by
  rw [List.map_map]
  congr 1
  apply List.map_congr_left
  intro v _
  exact xv_cat ad v
section RUNS
variable {K : xK} {L : xL} {nL d pc : Nat} {ls : List (Nat × Value)} {st rest : List Value} {h h1 : xH} {r : Option Value} {cc cy : ByteArray} {own nm : String} {y : MethodName} {ny dy idx b ci : Nat} {ret : Option FieldType} {av : List Value}
theorem R_S (hM : xM K.2.1 y cy ny ret dy av h r h1) (wc : (Cond.code y cy ny ret) ∈ lw_gd) (wl : (Cond.methodLink own idx y) ∈ lw_gd) (wt : (Cond.static y) ∈ lw_gd) (wi : (Cond.initialized y.cls) ∈ lw_gd) (hd : y.cls ≠ "java/lang/invoke/MethodHandle" ∧ y.cls ≠ "java/lang/invoke/VarHandle" ∧ (parseMethodDescriptor y.desc).map (fun d => d.parameters.length) = some av.length) (hR : dy + 1 ≤ d ∧ ny ≤ 13) (hst : st = av.reverse ++ rest) (hcat : (rest.map fun v => v.category).sum ≤ 8) (hdg : decode cc pc = .ok (.invokestatic idx, 3)) : xRun K L cc own nm nL d pc ls st rest h r h1 := by
  obtain ⟨p, l, e, s, m, args, below, meth, c⟩ := K
  obtain ⟨D, tA, base, ro, rd, ad0, n0, z0⟩ := L
  have m0 := hM.1 (p, l, e, s, m, args, below, meth, c)
  refine ⟨m0.1, m0.2, fun C R b1 b2 b3 b4 ad H locs lsA hI hc hl => ⟨(av.map (xv ad)).toArray, ?_⟩⟩
  have hn0 := hI
  obtain ⟨-, -, -, -, -, -, i7, i8, -⟩ := hn0
  obtain ⟨m1, m2⟩ := m0
  obtain ⟨hx, hb, hml, hown, hts, hG, hnm⟩ := C
  subst hst
  refine va_runS (Ts := lw_gd) (As := av.map (xv ad)) (rest := rest.map (xv ad)) ⟨hx, hb, hml, hown, hts⟩ (hM.2 D tA base ro rd ad) (va_cwS av.length hts (x_gs ?_) rfl rfl rfl hd ⟨?_, ?_⟩) (x_preS hG hI (fun v hv => hc.2 v (List.mem_append_left _ (List.mem_reverse.mpr hv)))) rfl (List.length_map ..) hl.1 (by simp) (lv_room (by rw [x_cat]; exact hcat)) hdg ⟨by omega, by omega⟩
  · intro w hw
    simp only [va_wsS, List.mem_append, List.mem_cons, List.not_mem_nil, or_false] at hw
    rcases hw with (h | h | h) | h
    · rw [h]; exact wl
    · rw [h]; exact wt
    · rw [h]; exact wi
    · exact x_gc wc w (List.mem_cons.mpr h)
  · show dy + 1 ≤ R.frames
    omega
  · show 8 + (ny + 11) + 32 * dy ≤ R.locals
    omega
theorem R_SN {host : String} (hM : xM K.2.1 y cy ny ret dy av h r h1) (wc : (Cond.code y cy ny ret) ∈ lw_gd) (wl : (own, idx, y, host) ∈ xNM) (wt : (Cond.static y) ∈ lw_gd) (wi : (Cond.initialized y.cls) ∈ lw_gd) (hd : y.cls ≠ "java/lang/invoke/MethodHandle" ∧ y.cls ≠ "java/lang/invoke/VarHandle" ∧ (parseMethodDescriptor y.desc).map (fun d => d.parameters.length) = some av.length) (hR : dy + 1 ≤ d ∧ ny ≤ 13) (hst : st = av.reverse ++ rest) (hcat : (rest.map fun v => v.category).sum ≤ 8) (hdg : decode cc pc = .ok (.invokestatic idx, 3)) : xRun K L cc own nm nL d pc ls st rest h r h1 := by
  obtain ⟨p, l, e, s, m, args, below, meth, c⟩ := K
  obtain ⟨D, tA, base, ro, rd, ad0, n0, z0⟩ := L
  have m0 := hM.1 (p, l, e, s, m, args, below, meth, c)
  refine ⟨m0.1, m0.2, fun C R b1 b2 b3 b4 ad H locs lsA hI hc hl => ⟨(av.map (xv ad)).toArray, ?_⟩⟩
  have hn0 := hI
  obtain ⟨-, -, -, -, -, -, i7, i8, -⟩ := hn0
  obtain ⟨m1, m2⟩ := m0
  obtain ⟨hx, hb, hml, hown, hts, hG, hnm⟩ := C
  subst hst
  refine va_runSN (Ts := lw_gd) (As := av.map (xv ad)) (rest := rest.map (xv ad)) ⟨hx, hb, hml, hown, hts⟩ (hM.2 D tA base ro rd ad) ⟨va_cnB av.length hts (x_gs (x_gc wc)) rfl rfl rfl (hG.2.2.2.2.2.2.1 _ wl) (hts _ wi) hd ⟨?_, ?_⟩, hts _ wt, trivial⟩ (x_preS hG hI (fun v hv => hc.2 v (List.mem_append_left _ (List.mem_reverse.mpr hv)))) rfl (List.length_map ..) hl.1 (by simp) (lv_room (by rw [x_cat]; exact hcat)) hdg ⟨by omega, by omega⟩
  · show dy + 1 ≤ R.frames
    omega
  · show 8 + (ny + 11) + 32 * dy ≤ R.locals
    omega
theorem R_I (hM : xM K.2.1 y cy ny none dy (.ref b :: av) h r h1) (wc : (Cond.code y cy ny none) ∈ lw_gd) (wl : (Cond.methodLink own idx y) ∈ lw_gd) (wt : (Cond.instanceMethod y) ∈ lw_gd) (wi : (Cond.initialized y.cls) ∈ lw_gd) (hy1 : y.name = "<init>") (hd : y.cls ≠ "java/lang/invoke/MethodHandle" ∧ y.cls ≠ "java/lang/invoke/VarHandle" ∧ (parseMethodDescriptor y.desc).map (fun d => d.parameters.length) = some av.length) (hR : dy + 1 ≤ d ∧ ny ≤ 13) (hst : st = av.reverse ++ .ref b :: rest) (hcat : (rest.map fun v => v.category).sum ≤ 8) (hdg : decode cc pc = .ok (.invokespecial idx, 3)) : xRun K L cc own nm nL d pc ls st rest h r h1 := by
  obtain ⟨p, l, e, s, m, args, below, meth, c⟩ := K
  obtain ⟨D, tA, base, ro, rd, ad0, n0, z0⟩ := L
  have m0 := hM.1 (p, l, e, s, m, args, below, meth, c)
  refine ⟨m0.1, m0.2, fun C R b1 b2 b3 b4 ad H locs lsA hI hc hl => ⟨(Value.ref (ad b) :: av.map (xv ad)).toArray, ?_⟩⟩
  have hn0 := hI
  obtain ⟨-, -, -, -, -, -, i7, i8, -⟩ := hn0
  obtain ⟨m1, m2⟩ := m0
  obtain ⟨hx, hb, hml, hown, hts, hG, hnm⟩ := C
  subst hst
  have hav : ∀ v ∈ (Value.ref b :: av), xcv h.length v := fun v hv => hc.2 v (by
    rcases List.mem_cons.mp hv with h | h
    · exact List.mem_append_right _ (List.mem_cons.mpr (Or.inl h))
    · exact List.mem_append_left _ (List.mem_reverse.mpr h))
  refine va_runI (Ts := lw_gd) (As := av.map (xv ad)) (rest := rest.map (xv ad)) ⟨hx, hb, hml, hown, hts⟩ (hM.2 D tA base ro rd ad) (cwI av.length hts (x_gs (x_gc wc)) rfl rfl rfl (hts _ wi) (hts _ wl) (hts _ wt) hy1 hd ⟨?_, ?_⟩) (x_preS hG hI hav) rfl (List.length_map ..) hl.1 (by simp; rfl) (lv_room (by rw [x_cat]; exact hcat)) hdg ⟨by omega, by omega⟩
  · show dy + 1 ≤ R.frames
    omega
  · show 8 + (ny + 11) + 32 * dy ≤ R.locals
    omega
theorem R_IN {host : String} (hM : xM K.2.1 y cy ny none dy (.ref b :: av) h r h1) (wc : (Cond.code y cy ny none) ∈ lw_gd) (wl : (own, idx, y, host) ∈ xNM) (wt : (Cond.instanceMethod y) ∈ lw_gd) (wi : (Cond.initialized y.cls) ∈ lw_gd) (hy1 : y.name = "<init>") (hd : y.cls ≠ "java/lang/invoke/MethodHandle" ∧ y.cls ≠ "java/lang/invoke/VarHandle" ∧ (parseMethodDescriptor y.desc).map (fun d => d.parameters.length) = some av.length) (hR : dy + 1 ≤ d ∧ ny ≤ 13) (hst : st = av.reverse ++ .ref b :: rest) (hcat : (rest.map fun v => v.category).sum ≤ 8) (hdg : decode cc pc = .ok (.invokespecial idx, 3)) : xRun K L cc own nm nL d pc ls st rest h r h1 := by
  obtain ⟨p, l, e, s, m, args, below, meth, c⟩ := K
  obtain ⟨D, tA, base, ro, rd, ad0, n0, z0⟩ := L
  have m0 := hM.1 (p, l, e, s, m, args, below, meth, c)
  refine ⟨m0.1, m0.2, fun C R b1 b2 b3 b4 ad H locs lsA hI hc hl => ⟨(Value.ref (ad b) :: av.map (xv ad)).toArray, ?_⟩⟩
  have hn0 := hI
  obtain ⟨-, -, -, -, -, -, i7, i8, -⟩ := hn0
  obtain ⟨m1, m2⟩ := m0
  obtain ⟨hx, hb, hml, hown, hts, hG, hnm⟩ := C
  subst hst
  have hav : ∀ v ∈ (Value.ref b :: av), xcv h.length v := fun v hv => hc.2 v (by
    rcases List.mem_cons.mp hv with h | h
    · exact List.mem_append_right _ (List.mem_cons.mpr (Or.inl h))
    · exact List.mem_append_left _ (List.mem_reverse.mpr h))
  refine va_runIN (Ts := lw_gd) (As := av.map (xv ad)) (rest := rest.map (xv ad)) ⟨hx, hb, hml, hown, hts⟩ (hM.2 D tA base ro rd ad) ⟨va_cnB av.length hts (x_gs (x_gc wc)) rfl rfl rfl (hG.2.2.2.2.2.2.1 _ wl) (hts _ wi) hd ⟨?_, ?_⟩, hy1, hts _ wt⟩ (x_preS hG hI hav) rfl (List.length_map ..) hl.1 (by simp; rfl) (lv_room (by rw [x_cat]; exact hcat)) hdg ⟨by omega, by omega⟩
  · show dy + 1 ≤ R.frames
    omega
  · show 8 + (ny + 11) + 32 * dy ≤ R.locals
    omega
theorem x_preV {s : State} {D : va_G} {tA : Nat → Nat} {base : Nat} {ro : xH} {rd ad0 : Nat → Nat} {n0 z0 : Nat} {ad : Nat → Nat} {H : Heap} {locs : List Loc} (hG : xG D tA base ro rd s) (hI : xI s (D, tA, base, ro, rd, ad0, n0, z0) ad h H locs) (hav : ∀ v ∈ (Value.ref b :: av), xcv h.length v) {q : vw_C} (hk : xk h b = some ci) (hq : vwCl[ci]? = some q) : PreV s H q.1 (ad b) (xPc D tA base ro rd ad h (.ref b :: av)) (av.map (xv ad)) := by
  obtain ⟨fs, he⟩ := xk_spec hk
  have h3 := hI.obj hG he
  obtain ⟨u1, u2⟩ := x_preS hG hI hav
  have hi := hI
  obtain ⟨i1, -⟩ := hi
  exact ⟨u1, va_recv hG.1 i1 hq (xw_get (tA := tA) (ad := ad) h3 he), u2⟩
theorem R_V {q : vw_C} (hM : xM K.2.1 y cy ny ret dy (.ref b :: av) h r h1) (hk : xk h b = some ci) (hq : vwCl[ci]? = some q) (wc : (Cond.code y cy ny ret) ∈ lw_gd) (wl : (Cond.methodLink own idx y) ∈ lw_gd) (wt : (Cond.instanceMethod y) ∈ lw_gd) (wi : (Cond.initialized q.1) ∈ lw_gd) (wsel : (Cond.selects q.1 y y) ∈ lw_gd) (hd : y.cls = q.1 ∧ y.cls ≠ "java/lang/invoke/MethodHandle" ∧ y.cls ≠ "java/lang/invoke/VarHandle" ∧ (parseMethodDescriptor y.desc).map (fun d => d.parameters.length) = some av.length) (hR : dy + 1 ≤ d ∧ ny ≤ 13) (hst : st = av.reverse ++ .ref b :: rest) (hcat : (rest.map fun v => v.category).sum ≤ 8) (hdg : decode cc pc = .ok (.invokevirtual idx, 3)) : xRun K L cc own nm nL d pc ls st rest h r h1 := by
  obtain ⟨p, l, e, s, m, args, below, meth, c⟩ := K
  obtain ⟨D, tA, base, ro, rd, ad0, n0, z0⟩ := L
  have m0 := hM.1 (p, l, e, s, m, args, below, meth, c)
  refine ⟨m0.1, m0.2, fun C R b1 b2 b3 b4 ad H locs lsA hI hc hl => ⟨(Value.ref (ad b) :: av.map (xv ad)).toArray, ?_⟩⟩
  have hn0 := hI
  obtain ⟨-, -, -, -, -, -, i7, i8, -⟩ := hn0
  obtain ⟨m1, m2⟩ := m0
  obtain ⟨hx, hb, hml, hown, hts, hG, hnm⟩ := C
  subst hst
  have hav : ∀ v ∈ (Value.ref b :: av), xcv h.length v := fun v hv => hc.2 v (by
    rcases List.mem_cons.mp hv with h | h
    · exact List.mem_append_right _ (List.mem_cons.mpr (Or.inl h))
    · exact List.mem_append_left _ (List.mem_reverse.mpr h))
  refine va_runV (Ts := lw_gd) (As := av.map (xv ad)) (rest := rest.map (xv ad)) ⟨hx, hb, hml, hown, hts⟩ (hM.2 D tA base ro rd ad) (cwV av.length hts (x_gs ?_) rfl rfl rfl hd ⟨?_, ?_⟩) (x_preV hG hI hav hk hq) rfl (List.length_map ..) hl.1 (by simp; rfl) (lv_room (by rw [x_cat]; exact hcat)) hdg ⟨by omega, by omega⟩
  · intro w hw
    simp only [wsV, List.mem_append, List.mem_cons, List.not_mem_nil, or_false] at hw
    rcases hw with (h | h | h | h) | h
    · rw [h]; exact wl
    · rw [h]; exact wt
    · rw [h]; exact wsel
    · rw [h]; exact wi
    · exact x_gc wc w (List.mem_cons.mpr h)
  · show dy + 1 ≤ R.frames
    omega
  · show 8 + (ny + 11) + 32 * dy ≤ R.locals
    omega
/-- a call whose named method x is another than the selected y -/
theorem R_U {q : vw_C} {x : MethodName} {owner : String} (hM : xM K.2.1 y cy ny ret dy (.ref b :: av) h r h1) (hk : xk h b = some ci) (hq : vwCl[ci]? = some q) (wc : (Cond.code y cy ny ret) ∈ lw_gd) (wl : (Cond.methodLink own idx x) ∈ lw_gd) (wt : (Cond.instanceMethod y) ∈ lw_gd) (wi : (Cond.initialized y.cls) ∈ lw_gd) (wsel : (Cond.selects q.1 x y) ∈ lw_gd) (wsm : (Cond.sameMethod x.cls owner x.name x.desc) ∈ lw_gd)
    (hdec : (∃ b0 m0 r0, (Cond.code ⟨owner, x.name, x.desc⟩ b0 m0 r0) ∈ lw_gd ∧ (Cond.instanceMethod ⟨owner, x.name, x.desc⟩) ∈ lw_gd) ∨ (⟨owner, x.name, x.desc⟩ : MethodName) ∈ xND) (hd : owner ≠ "java/lang/invoke/MethodHandle" ∧ owner ≠ "java/lang/invoke/VarHandle" ∧ (parseMethodDescriptor x.desc).map (fun d => d.parameters.length) = some av.length) (hR : dy + 1 ≤ d ∧ ny ≤ 13) (hst : st = av.reverse ++ .ref b :: rest) (hcat : (rest.map fun v => v.category).sum ≤ 8) (hdg : decode cc pc = .ok (.invokevirtual idx, 3)) : xRun K L cc own nm nL d pc ls st rest h r h1 := by
  obtain ⟨p, l, e, s, m, args, below, meth, c⟩ := K
  obtain ⟨D, tA, base, ro, rd, ad0, n0, z0⟩ := L
  have m0 := hM.1 (p, l, e, s, m, args, below, meth, c)
  refine ⟨m0.1, m0.2, fun C R b1 b2 b3 b4 ad H locs lsA hI hc hl => ⟨(Value.ref (ad b) :: av.map (xv ad)).toArray, ?_⟩⟩
  have hn0 := hI
  obtain ⟨-, -, -, -, -, -, i7, i8, -⟩ := hn0
  obtain ⟨m1, m2⟩ := m0
  obtain ⟨hx, hb, hml, hown, hts, hG, hnm⟩ := C
  subst hst
  have hav : ∀ v ∈ (Value.ref b :: av), xcv h.length v := fun v hv => hc.2 v (by
    rcases List.mem_cons.mp hv with h | h
    · exact List.mem_append_right _ (List.mem_cons.mpr (Or.inl h))
    · exact List.mem_append_left _ (List.mem_reverse.mpr h))
  have hdecl : va_Decl s ⟨owner, x.name, x.desc⟩ := by
    rcases hdec with ⟨b0, m0, r0, w1, w2⟩ | w
    · exact va_Decl.of (hts _ w2) (hts _ w1)
    · exact va_Decl.abs (hG.2.2.2.2.2.2.2.2.1 _ w)
  have hws : ∀ w ∈ (Cond.code y cy ny ret :: lw_gd), ∀ (a' : Array Value) (U : State), s.WarmedH U.vm → w.before a' U = true := fun w hw a' U hW => word_at hW (good_of_word (x_gdG (x_gc wc w hw))) (hts w (x_gc wc w hw))
  refine va_runU (Ts := lw_gd) (As := av.map (xv ad)) (rest := rest.map (xv ad)) (owner := owner) (x := x) (bytes := cy) (maxL := ny) (ret := ret) ⟨hx, hb, hml, hown, hts⟩ (hM.2 D tA base ro rd ad) ⟨⟨rfl, rfl, ?_, ?_, hws, List.mem_cons_self⟩, hts _ wc, hts _ wi, ⟨hd.1, hd.2.1⟩, fun sig hs => ?_, hts _ wl, hts _ wsm, hdecl, hts _ wsel, hts _ wt⟩ (x_preV hG hI hav hk hq) rfl (List.length_map ..) hl.1 (by simp; rfl) (lv_room (by rw [x_cat]; exact hcat)) hdg ⟨by omega, by omega⟩
  · show dy + 1 ≤ R.frames
    omega
  · show 8 + (ny + 11) + 32 * dy ≤ R.locals
    omega
  · have h2 := hd.2.2
    rw [hs] at h2
    exact (Option.some.inj h2).symm
/-- super.y(..) -/
theorem R_SU {q : vw_C} (hM : xM K.2.1 y cy ny ret dy (.ref b :: av) h r h1) (hk : xk h b = some ci) (hq : vwCl[ci]? = some q) (wc : (Cond.code y cy ny ret) ∈ lw_gd) (wl : (Cond.methodLink own idx y) ∈ lw_gd) (wt : (Cond.instanceMethod y) ∈ lw_gd) (wi : (Cond.initialized y.cls) ∈ lw_gd) (wsm : (Cond.sameMethod y.cls y.cls y.name y.desc) ∈ lw_gd) (wsu : (Cond.superclass own y.cls) ∈ lw_gd) (hd : y.name ≠ "<init>" ∧ (parseMethodDescriptor y.desc).map (fun d => d.parameters.length) = some av.length) (hR : dy + 1 ≤ d ∧ ny ≤ 13) (hst : st = av.reverse ++ .ref b :: rest) (hcat : (rest.map fun v => v.category).sum ≤ 8) (hdg : decode cc pc = .ok (.invokespecial idx, 3)) : xRun K L cc own nm nL d pc ls st rest h r h1 := by
  obtain ⟨p, l, e, s, m, args, below, meth, c⟩ := K
  obtain ⟨D, tA, base, ro, rd, ad0, n0, z0⟩ := L
  have m0 := hM.1 (p, l, e, s, m, args, below, meth, c)
  refine ⟨m0.1, m0.2, fun C R b1 b2 b3 b4 ad H locs lsA hI hc hl => ⟨(Value.ref (ad b) :: av.map (xv ad)).toArray, ?_⟩⟩
  have hn0 := hI
  obtain ⟨-, -, -, -, -, -, i7, i8, -⟩ := hn0
  obtain ⟨m1, m2⟩ := m0
  obtain ⟨hx, hb, hml, hown, hts, hG, hnm⟩ := C
  subst hst
  have hav : ∀ v ∈ (Value.ref b :: av), xcv h.length v := fun v hv => hc.2 v (by
    rcases List.mem_cons.mp hv with h | h
    · exact List.mem_append_right _ (List.mem_cons.mpr (Or.inl h))
    · exact List.mem_append_left _ (List.mem_reverse.mpr h))
  refine va_runSU (Ts := lw_gd) (As := av.map (xv ad)) (rest := rest.map (xv ad)) (hG.1.1 ci q hq).2 ⟨hx, hb, hml, hown, hts⟩ (hM.2 D tA base ro rd ad) (va_cwSU av.length hts (x_gs ?_) rfl rfl rfl hd ⟨?_, ?_⟩) (x_preV hG hI hav hk hq) rfl (List.length_map ..) hl.1 (by simp; rfl) (lv_room (by rw [x_cat]; exact hcat)) hdg ⟨by omega, by omega⟩
  · intro w hw
    simp only [va_wsSU, List.mem_append, List.mem_cons, List.not_mem_nil, or_false] at hw
    rcases hw with (h | h | h | h | h) | h
    · rw [h]; exact wl
    · rw [h]; exact wsm
    · rw [h]; exact wsu
    · rw [h]; exact wt
    · rw [h]; exact wi
    · exact x_gc wc w (List.mem_cons.mpr h)
  · show dy + 1 ≤ R.frames
    omega
  · show 8 + (ny + 11) + 32 * dy ≤ R.locals
    omega
end RUNS
end
section
section XROWS
variable {ρ : Type} {K : xK} {L : xL} {nm : String} {nL d : Nat} {hp : ρ → xH} {E : xE ρ} {pc : Nat} {ls ls' : List (Nat × Value)} {st : List Value} {h : xH} {X A B : Option ρ} {cc : ByteArray} {own : String}
theorem xct {n : Nat} {v : Value} {st : List Value} (h : ∀ w ∈ v :: st, xcv n w) : ∀ w ∈ st, xcv n w := fun w hw => h w (List.mem_cons_of_mem _ hw)
theorem xch {n : Nat} {v : Value} {st : List Value} (h : ∀ w ∈ v :: st, xcv n w) : xcv n v := h v List.mem_cons_self
theorem xcc {n : Nat} {v : Value} {st : List Value} (hv : xcv n v) (h : ∀ w ∈ st, xcv n w) : ∀ w ∈ v :: st, xcv n w := fun w hw => (List.mem_cons.mp hw).elim (fun e => e ▸ hv) (h w)
theorem xls {n i : Nat} {v : Value} {ls ls' : List (Nat × Value)} {P : Nat × Value → Bool} (hl : (i, v) :: ls.filter P = ls') (hv : xcv n v) (h : ∀ q ∈ ls, xcv n q.2) : ∀ q ∈ ls', xcv n q.2 := by
  rw [← hl]
  intro q hq
  rcases List.mem_cons.mp hq with e | e
  · rw [e]; exact hv
  · exact h q (List.mem_filter.mp e).1
theorem S_iconst {n : Int} {v : Int32} (hdg : decode cc pc = .ok (.iconst n, 1)) (hv : Int32.ofInt n = v) (k : Sim K L cc own nm nL d hp E (pc + 1) ls (.int v :: st) h X) : Sim K L cc own nm nL d hp E pc ls st h X := by
  obtain ⟨p, l, e, s, m, args, below, meth, c⟩ := K
  obtain ⟨D, tA, base, ro, rd, ad0, n0, z0⟩ := L
  refine Sim.step0 (fun C R Q _ _ _ _ k ad H locs lsA hI hc hl => ?_) k
  obtain ⟨hx, hb, hml, hown, hts, hG, hnm⟩ := C
  exact lv_iconst hx hb hdg hv (k ad H locs lsA hI ⟨hc.1, xcc xcv_i hc.2⟩ hl)
theorem S_bipush {n : Int} {v : Int32} (hdg : decode cc pc = .ok (.bipush n, 2)) (hv : (Int8.ofInt n).toInt32 = v) (k : Sim K L cc own nm nL d hp E (pc + 2) ls (.int v :: st) h X) : Sim K L cc own nm nL d hp E pc ls st h X := by
  obtain ⟨p, l, e, s, m, args, below, meth, c⟩ := K
  obtain ⟨D, tA, base, ro, rd, ad0, n0, z0⟩ := L
  refine Sim.step0 (fun C R Q _ _ _ _ k ad H locs lsA hI hc hl => ?_) k
  obtain ⟨hx, hb, hml, hown, hts, hG, hnm⟩ := C
  exact lv_bipush hx hb hdg hv (k ad H locs lsA hI ⟨hc.1, xcc xcv_i hc.2⟩ hl)
theorem S_sipush {n : Int} {v : Int32} (hdg : decode cc pc = .ok (.sipush n, 3)) (hv : (Int16.ofInt n).toInt32 = v) (k : Sim K L cc own nm nL d hp E (pc + 3) ls (.int v :: st) h X) : Sim K L cc own nm nL d hp E pc ls st h X := by
  obtain ⟨p, l, e, s, m, args, below, meth, c⟩ := K
  obtain ⟨D, tA, base, ro, rd, ad0, n0, z0⟩ := L
  refine Sim.step0 (fun C R Q _ _ _ _ k ad H locs lsA hI hc hl => ?_) k
  obtain ⟨hx, hb, hml, hown, hts, hG, hnm⟩ := C
  exact lv_sipush hx hb hdg hv (k ad H locs lsA hI ⟨hc.1, xcc xcv_i hc.2⟩ hl)
theorem S_lconst {n : Fin 2} {v : Int64} (hdg : decode cc pc = .ok (.lconst n, 1)) (hv : Int64.ofNat (n : Nat) = v) (k : Sim K L cc own nm nL d hp E (pc + 1) ls (.long v :: st) h X) : Sim K L cc own nm nL d hp E pc ls st h X := by
  obtain ⟨p, l, e, s, m, args, below, meth, c⟩ := K
  obtain ⟨D, tA, base, ro, rd, ad0, n0, z0⟩ := L
  refine Sim.step0 (fun C R Q _ _ _ _ k ad H locs lsA hI hc hl => ?_) k
  obtain ⟨hx, hb, hml, hown, hts, hG, hnm⟩ := C
  exact lv_lconst hx hb hdg hv (k ad H locs lsA hI ⟨hc.1, xcc xcv_l hc.2⟩ hl)
theorem S_ldc {i : Nat} {v : Int32} (wd : (Cond.constant own i v) ∈ lw_gd) (hdg : decode cc pc = .ok (.ldc i, 2)) (k : Sim K L cc own nm nL d hp E (pc + 2) ls (.int v :: st) h X) : Sim K L cc own nm nL d hp E pc ls st h X := by
  obtain ⟨p, l, e, s, m, args, below, meth, c⟩ := K
  obtain ⟨D, tA, base, ro, rd, ad0, n0, z0⟩ := L
  refine Sim.step0 (fun C R Q _ _ _ _ k ad H locs lsA hI hc hl => ?_) k
  obtain ⟨hx, hb, hml, hown, hts, hG, hnm⟩ := C
  exact lv_ldc hx hb hown (hts _ wd) hdg (k ad H locs lsA hI ⟨hc.1, xcc xcv_i hc.2⟩ hl)
theorem S_ldcw {i : Nat} {v : Int32} (wd : (Cond.constant own i v) ∈ lw_gd) (hdg : decode cc pc = .ok (.ldc_w i, 3)) (k : Sim K L cc own nm nL d hp E (pc + 3) ls (.int v :: st) h X) : Sim K L cc own nm nL d hp E pc ls st h X := by
  obtain ⟨p, l, e, s, m, args, below, meth, c⟩ := K
  obtain ⟨D, tA, base, ro, rd, ad0, n0, z0⟩ := L
  refine Sim.step0 (fun C R Q _ _ _ _ k ad H locs lsA hI hc hl => ?_) k
  obtain ⟨hx, hb, hml, hown, hts, hG, hnm⟩ := C
  exact lv_ldcw hx hb hown (hts _ wd) hdg (k ad H locs lsA hI ⟨hc.1, xcc xcv_i hc.2⟩ hl)
theorem S_ldc2 {i : Nat} {v : Int64} (wd : (Cond.constantLong own i v) ∈ lw_gd) (hdg : decode cc pc = .ok (.ldc2_w i, 3)) (k : Sim K L cc own nm nL d hp E (pc + 3) ls (.long v :: st) h X) : Sim K L cc own nm nL d hp E pc ls st h X := by
  obtain ⟨p, l, e, s, m, args, below, meth, c⟩ := K
  obtain ⟨D, tA, base, ro, rd, ad0, n0, z0⟩ := L
  refine Sim.step0 (fun C R Q _ _ _ _ k ad H locs lsA hI hc hl => ?_) k
  obtain ⟨hx, hb, hml, hown, hts, hG, hnm⟩ := C
  exact lv_ldc2 hx hb hown (hts _ wd) hdg (k ad H locs lsA hI ⟨hc.1, xcc xcv_l hc.2⟩ hl)
theorem S_null (hdg : decode cc pc = .ok (.aconst_null, 1)) (k : Sim K L cc own nm nL d hp E (pc + 1) ls (.null :: st) h X) : Sim K L cc own nm nL d hp E pc ls st h X := by
  obtain ⟨p, l, e, s, m, args, below, meth, c⟩ := K
  obtain ⟨D, tA, base, ro, rd, ad0, n0, z0⟩ := L
  refine Sim.step0 (fun C R Q _ _ _ _ k ad H locs lsA hI hc hl => ?_) k
  obtain ⟨hx, hb, hml, hown, hts, hG, hnm⟩ := C
  exact lv_null hx hb hdg (k ad H locs lsA hI ⟨hc.1, xcc xcv_n hc.2⟩ hl)
theorem S_iload_n {n : Fin 4} {i : Nat} {x : Int32} (j : Nat) (hj : ls[j]? = some (i, .int x)) (hdg : decode cc pc = .ok (.iload_n n, 1)) (hi : (n : Nat) = i) (k : Sim K L cc own nm nL d hp E (pc + 1) ls (.int x :: st) h X) : Sim K L cc own nm nL d hp E pc ls st h X := by
  obtain ⟨p, l, e, s, m, args, below, meth, c⟩ := K
  obtain ⟨D, tA, base, ro, rd, ad0, n0, z0⟩ := L
  refine Sim.step0 (fun C R Q _ _ _ _ k ad H locs lsA hI hc hl => ?_) k
  obtain ⟨hx, hb, hml, hown, hts, hG, hnm⟩ := C
  exact lv_iload_n hx hb hdg hi (lv_at hl j (xl_at hj)) (k ad H locs lsA hI ⟨hc.1, xcc (hc.1 _ (List.mem_of_getElem? hj)) hc.2⟩ hl)
theorem S_iload {i : Nat} {x : Int32} (j : Nat) (hj : ls[j]? = some (i, .int x)) (hdg : decode cc pc = .ok (.iload i, 2)) (k : Sim K L cc own nm nL d hp E (pc + 2) ls (.int x :: st) h X) : Sim K L cc own nm nL d hp E pc ls st h X := by
  obtain ⟨p, l, e, s, m, args, below, meth, c⟩ := K
  obtain ⟨D, tA, base, ro, rd, ad0, n0, z0⟩ := L
  refine Sim.step0 (fun C R Q _ _ _ _ k ad H locs lsA hI hc hl => ?_) k
  obtain ⟨hx, hb, hml, hown, hts, hG, hnm⟩ := C
  exact lv_iload hx hb hdg (lv_at hl j (xl_at hj)) (k ad H locs lsA hI ⟨hc.1, xcc (hc.1 _ (List.mem_of_getElem? hj)) hc.2⟩ hl)
theorem S_lload_n {n : Fin 4} {i : Nat} {x : Int64} (j : Nat) (hj : ls[j]? = some (i, .long x)) (hdg : decode cc pc = .ok (.lload_n n, 1)) (hi : (n : Nat) = i) (k : Sim K L cc own nm nL d hp E (pc + 1) ls (.long x :: st) h X) : Sim K L cc own nm nL d hp E pc ls st h X := by
  obtain ⟨p, l, e, s, m, args, below, meth, c⟩ := K
  obtain ⟨D, tA, base, ro, rd, ad0, n0, z0⟩ := L
  refine Sim.step0 (fun C R Q _ _ _ _ k ad H locs lsA hI hc hl => ?_) k
  obtain ⟨hx, hb, hml, hown, hts, hG, hnm⟩ := C
  exact lv_lload_n hx hb hdg hi (lv_at hl j (xl_at hj)) (k ad H locs lsA hI ⟨hc.1, xcc (hc.1 _ (List.mem_of_getElem? hj)) hc.2⟩ hl)
theorem S_lload {i : Nat} {x : Int64} (j : Nat) (hj : ls[j]? = some (i, .long x)) (hdg : decode cc pc = .ok (.lload i, 2)) (k : Sim K L cc own nm nL d hp E (pc + 2) ls (.long x :: st) h X) : Sim K L cc own nm nL d hp E pc ls st h X := by
  obtain ⟨p, l, e, s, m, args, below, meth, c⟩ := K
  obtain ⟨D, tA, base, ro, rd, ad0, n0, z0⟩ := L
  refine Sim.step0 (fun C R Q _ _ _ _ k ad H locs lsA hI hc hl => ?_) k
  obtain ⟨hx, hb, hml, hown, hts, hG, hnm⟩ := C
  exact lv_lload hx hb hdg (lv_at hl j (xl_at hj)) (k ad H locs lsA hI ⟨hc.1, xcc (hc.1 _ (List.mem_of_getElem? hj)) hc.2⟩ hl)
theorem S_aload_n {n : Fin 4} {i : Nat} {x : Nat} (j : Nat) (hj : ls[j]? = some (i, .ref x)) (hdg : decode cc pc = .ok (.aload_n n, 1)) (hi : (n : Nat) = i) (k : Sim K L cc own nm nL d hp E (pc + 1) ls (.ref x :: st) h X) : Sim K L cc own nm nL d hp E pc ls st h X := by
  obtain ⟨p, l, e, s, m, args, below, meth, c⟩ := K
  obtain ⟨D, tA, base, ro, rd, ad0, n0, z0⟩ := L
  refine Sim.step0 (fun C R Q _ _ _ _ k ad H locs lsA hI hc hl => ?_) k
  obtain ⟨hx, hb, hml, hown, hts, hG, hnm⟩ := C
  exact lv_aload_n hx hb hdg hi (lv_at hl j (xl_at hj)) (k ad H locs lsA hI ⟨hc.1, xcc (hc.1 _ (List.mem_of_getElem? hj)) hc.2⟩ hl)
theorem S_aload {i : Nat} {x : Nat} (j : Nat) (hj : ls[j]? = some (i, .ref x)) (hdg : decode cc pc = .ok (.aload i, 2)) (k : Sim K L cc own nm nL d hp E (pc + 2) ls (.ref x :: st) h X) : Sim K L cc own nm nL d hp E pc ls st h X := by
  obtain ⟨p, l, e, s, m, args, below, meth, c⟩ := K
  obtain ⟨D, tA, base, ro, rd, ad0, n0, z0⟩ := L
  refine Sim.step0 (fun C R Q _ _ _ _ k ad H locs lsA hI hc hl => ?_) k
  obtain ⟨hx, hb, hml, hown, hts, hG, hnm⟩ := C
  exact lv_aload hx hb hdg (lv_at hl j (xl_at hj)) (k ad H locs lsA hI ⟨hc.1, xcc (hc.1 _ (List.mem_of_getElem? hj)) hc.2⟩ hl)
theorem S_istore_n {n : Fin 4} {i : Nat} {x : Int32} (hdg : decode cc pc = .ok (.istore_n n, 1)) (hi : (n : Nat) = i) (hn : i < nL) (hl' : (i, Value.int x) :: ls.filter (fun q => !(q.1 == i) && !(q.1 + 1 == i && q.2.category == 2)) = ls') (k : Sim K L cc own nm nL d hp E (pc + 1) ls' st h X) : Sim K L cc own nm nL d hp E pc ls (.int x :: st) h X := by
  obtain ⟨p, l, e, s, m, args, below, meth, c⟩ := K
  obtain ⟨D, tA, base, ro, rd, ad0, n0, z0⟩ := L
  refine Sim.step0 (fun C R Q _ _ _ _ k ad H locs lsA hI hc hl => ?_) k
  obtain ⟨hx, hb, hml, hown, hts, hG, hnm⟩ := C
  exact lv_istore_n (lv' := xl ad ls') hx hb hdg hi hl hn (by rw [xl_filter, ← hl']; rfl) (fun lsB hl2 => k ad H locs lsB hI ⟨xls hl' (xch hc.2) hc.1, xct hc.2⟩ hl2)
theorem S_istore {i : Nat} {x : Int32} (hdg : decode cc pc = .ok (.istore i, 2)) (hn : i < nL) (hl' : (i, Value.int x) :: ls.filter (fun q => !(q.1 == i) && !(q.1 + 1 == i && q.2.category == 2)) = ls') (k : Sim K L cc own nm nL d hp E (pc + 2) ls' st h X) : Sim K L cc own nm nL d hp E pc ls (.int x :: st) h X := by
  obtain ⟨p, l, e, s, m, args, below, meth, c⟩ := K
  obtain ⟨D, tA, base, ro, rd, ad0, n0, z0⟩ := L
  refine Sim.step0 (fun C R Q _ _ _ _ k ad H locs lsA hI hc hl => ?_) k
  obtain ⟨hx, hb, hml, hown, hts, hG, hnm⟩ := C
  exact lv_istore (lv' := xl ad ls') hx hb hdg hl hn (by rw [xl_filter, ← hl']; rfl) (fun lsB hl2 => k ad H locs lsB hI ⟨xls hl' (xch hc.2) hc.1, xct hc.2⟩ hl2)
theorem S_lstore_n {n : Fin 4} {i : Nat} {x : Int64} (hdg : decode cc pc = .ok (.lstore_n n, 1)) (hi : (n : Nat) = i) (hn : i + 1 < nL) (hl' : (i, Value.long x) :: ls.filter (fun q => !(q.1 == i) && (!(q.1 == i + 1) && !(q.1 + 1 == i && q.2.category == 2))) = ls') (k : Sim K L cc own nm nL d hp E (pc + 1) ls' st h X) : Sim K L cc own nm nL d hp E pc ls (.long x :: st) h X := by
  obtain ⟨p, l, e, s, m, args, below, meth, c⟩ := K
  obtain ⟨D, tA, base, ro, rd, ad0, n0, z0⟩ := L
  refine Sim.step0 (fun C R Q _ _ _ _ k ad H locs lsA hI hc hl => ?_) k
  obtain ⟨hx, hb, hml, hown, hts, hG, hnm⟩ := C
  exact lv_lstore_n (lv' := xl ad ls') hx hb hdg hi hl hn (by rw [xl_filter2, ← hl']; rfl) (fun lsB hl2 => k ad H locs lsB hI ⟨xls hl' (xch hc.2) hc.1, xct hc.2⟩ hl2)
theorem S_lstore {i : Nat} {x : Int64} (hdg : decode cc pc = .ok (.lstore i, 2)) (hn : i + 1 < nL) (hl' : (i, Value.long x) :: ls.filter (fun q => !(q.1 == i) && (!(q.1 == i + 1) && !(q.1 + 1 == i && q.2.category == 2))) = ls') (k : Sim K L cc own nm nL d hp E (pc + 2) ls' st h X) : Sim K L cc own nm nL d hp E pc ls (.long x :: st) h X := by
  obtain ⟨p, l, e, s, m, args, below, meth, c⟩ := K
  obtain ⟨D, tA, base, ro, rd, ad0, n0, z0⟩ := L
  refine Sim.step0 (fun C R Q _ _ _ _ k ad H locs lsA hI hc hl => ?_) k
  obtain ⟨hx, hb, hml, hown, hts, hG, hnm⟩ := C
  exact lv_lstore (lv' := xl ad ls') hx hb hdg hl hn (by rw [xl_filter2, ← hl']; rfl) (fun lsB hl2 => k ad H locs lsB hI ⟨xls hl' (xch hc.2) hc.1, xct hc.2⟩ hl2)
theorem S_astore_n {n : Fin 4} {i : Nat} {x : Nat} (hdg : decode cc pc = .ok (.astore_n n, 1)) (hi : (n : Nat) = i) (hn : i < nL) (hl' : (i, Value.ref x) :: ls.filter (fun q => !(q.1 == i) && !(q.1 + 1 == i && q.2.category == 2)) = ls') (k : Sim K L cc own nm nL d hp E (pc + 1) ls' st h X) : Sim K L cc own nm nL d hp E pc ls (.ref x :: st) h X := by
  obtain ⟨p, l, e, s, m, args, below, meth, c⟩ := K
  obtain ⟨D, tA, base, ro, rd, ad0, n0, z0⟩ := L
  refine Sim.step0 (fun C R Q _ _ _ _ k ad H locs lsA hI hc hl => ?_) k
  obtain ⟨hx, hb, hml, hown, hts, hG, hnm⟩ := C
  exact lv_astore_n (lv' := xl ad ls') hx hb hdg hi hl hn (by rw [xl_filter, ← hl']; rfl) (fun lsB hl2 => k ad H locs lsB hI ⟨xls hl' (xch hc.2) hc.1, xct hc.2⟩ hl2)
theorem S_astore {i : Nat} {x : Nat} (hdg : decode cc pc = .ok (.astore i, 2)) (hn : i < nL) (hl' : (i, Value.ref x) :: ls.filter (fun q => !(q.1 == i) && !(q.1 + 1 == i && q.2.category == 2)) = ls') (k : Sim K L cc own nm nL d hp E (pc + 2) ls' st h X) : Sim K L cc own nm nL d hp E pc ls (.ref x :: st) h X := by
  obtain ⟨p, l, e, s, m, args, below, meth, c⟩ := K
  obtain ⟨D, tA, base, ro, rd, ad0, n0, z0⟩ := L
  refine Sim.step0 (fun C R Q _ _ _ _ k ad H locs lsA hI hc hl => ?_) k
  obtain ⟨hx, hb, hml, hown, hts, hG, hnm⟩ := C
  exact lv_astore (lv' := xl ad ls') hx hb hdg hl hn (by rw [xl_filter, ← hl']; rfl) (fun lsB hl2 => k ad H locs lsB hI ⟨xls hl' (xch hc.2) hc.1, xct hc.2⟩ hl2)
theorem S_iinc {i : Nat} {n : Int} {x v : Int32} (j : Nat) (hj : ls[j]? = some (i, .int x)) (hdg : decode cc pc = .ok (.iinc i n, 3)) (hv : x + Int32.ofInt n = v) (hn : i < nL) (hl' : (i, Value.int v) :: ls.filter (fun q => !(q.1 == i) && !(q.1 + 1 == i && q.2.category == 2)) = ls') (k : Sim K L cc own nm nL d hp E (pc + 3) ls' st h X) : Sim K L cc own nm nL d hp E pc ls st h X := by
  obtain ⟨p, l, e, s, m, args, below, meth, c⟩ := K
  obtain ⟨D, tA, base, ro, rd, ad0, n0, z0⟩ := L
  refine Sim.step0 (fun C R Q _ _ _ _ k ad H locs lsA hI hc hl => ?_) k
  obtain ⟨hx, hb, hml, hown, hts, hG, hnm⟩ := C
  exact lv_iinc (lv' := xl ad ls') hx hb hdg hl (k := j) (xl_at hj) hv hn (by rw [xl_filter, ← hl']; rfl) (fun lsB hl2 => k ad H locs lsB hI ⟨xls hl' xcv_i hc.1, hc.2⟩ hl2)
theorem S_iadd {x y : Int32} (hdg : decode cc pc = .ok (.iadd, 1)) (k : Sim K L cc own nm nL d hp E (pc + 1) ls (.int (x + y) :: st) h X) : Sim K L cc own nm nL d hp E pc ls (.int y :: .int x :: st) h X := by
  obtain ⟨p, l, e, s, m, args, below, meth, c⟩ := K
  obtain ⟨D, tA, base, ro, rd, ad0, n0, z0⟩ := L
  refine Sim.step0 (fun C R Q _ _ _ _ k ad H locs lsA hI hc hl => ?_) k
  obtain ⟨hx, hb, hml, hown, hts, hG, hnm⟩ := C
  exact lv_iadd hx hb hdg (k ad H locs lsA hI ⟨hc.1, xcc xcv_i (xct (xct hc.2))⟩ hl)
theorem S_isub {x y : Int32} (hdg : decode cc pc = .ok (.isub, 1)) (k : Sim K L cc own nm nL d hp E (pc + 1) ls (.int (x - y) :: st) h X) : Sim K L cc own nm nL d hp E pc ls (.int y :: .int x :: st) h X := by
  obtain ⟨p, l, e, s, m, args, below, meth, c⟩ := K
  obtain ⟨D, tA, base, ro, rd, ad0, n0, z0⟩ := L
  refine Sim.step0 (fun C R Q _ _ _ _ k ad H locs lsA hI hc hl => ?_) k
  obtain ⟨hx, hb, hml, hown, hts, hG, hnm⟩ := C
  exact lv_isub hx hb hdg (k ad H locs lsA hI ⟨hc.1, xcc xcv_i (xct (xct hc.2))⟩ hl)
theorem S_imul {x y : Int32} (hdg : decode cc pc = .ok (.imul, 1)) (k : Sim K L cc own nm nL d hp E (pc + 1) ls (.int (x * y) :: st) h X) : Sim K L cc own nm nL d hp E pc ls (.int y :: .int x :: st) h X := by
  obtain ⟨p, l, e, s, m, args, below, meth, c⟩ := K
  obtain ⟨D, tA, base, ro, rd, ad0, n0, z0⟩ := L
  refine Sim.step0 (fun C R Q _ _ _ _ k ad H locs lsA hI hc hl => ?_) k
  obtain ⟨hx, hb, hml, hown, hts, hG, hnm⟩ := C
  exact lv_imul hx hb hdg (k ad H locs lsA hI ⟨hc.1, xcc xcv_i (xct (xct hc.2))⟩ hl)
theorem S_iand {x y : Int32} (hdg : decode cc pc = .ok (.iand, 1)) (k : Sim K L cc own nm nL d hp E (pc + 1) ls (.int (x &&& y) :: st) h X) : Sim K L cc own nm nL d hp E pc ls (.int y :: .int x :: st) h X := by
  obtain ⟨p, l, e, s, m, args, below, meth, c⟩ := K
  obtain ⟨D, tA, base, ro, rd, ad0, n0, z0⟩ := L
  refine Sim.step0 (fun C R Q _ _ _ _ k ad H locs lsA hI hc hl => ?_) k
  obtain ⟨hx, hb, hml, hown, hts, hG, hnm⟩ := C
  exact lv_iand hx hb hdg (k ad H locs lsA hI ⟨hc.1, xcc xcv_i (xct (xct hc.2))⟩ hl)
theorem S_ior {x y : Int32} (hdg : decode cc pc = .ok (.ior, 1)) (k : Sim K L cc own nm nL d hp E (pc + 1) ls (.int (x ||| y) :: st) h X) : Sim K L cc own nm nL d hp E pc ls (.int y :: .int x :: st) h X := by
  obtain ⟨p, l, e, s, m, args, below, meth, c⟩ := K
  obtain ⟨D, tA, base, ro, rd, ad0, n0, z0⟩ := L
  refine Sim.step0 (fun C R Q _ _ _ _ k ad H locs lsA hI hc hl => ?_) k
  obtain ⟨hx, hb, hml, hown, hts, hG, hnm⟩ := C
  exact lv_ior hx hb hdg (k ad H locs lsA hI ⟨hc.1, xcc xcv_i (xct (xct hc.2))⟩ hl)
theorem S_ixor {x y : Int32} (hdg : decode cc pc = .ok (.ixor, 1)) (k : Sim K L cc own nm nL d hp E (pc + 1) ls (.int (x ^^^ y) :: st) h X) : Sim K L cc own nm nL d hp E pc ls (.int y :: .int x :: st) h X := by
  obtain ⟨p, l, e, s, m, args, below, meth, c⟩ := K
  obtain ⟨D, tA, base, ro, rd, ad0, n0, z0⟩ := L
  refine Sim.step0 (fun C R Q _ _ _ _ k ad H locs lsA hI hc hl => ?_) k
  obtain ⟨hx, hb, hml, hown, hts, hG, hnm⟩ := C
  exact lv_ixor hx hb hdg (k ad H locs lsA hI ⟨hc.1, xcc xcv_i (xct (xct hc.2))⟩ hl)
theorem S_ishl {x y : Int32} (hdg : decode cc pc = .ok (.ishl, 1)) (k : Sim K L cc own nm nL d hp E (pc + 1) ls (.int (x <<< (y &&& 31)) :: st) h X) : Sim K L cc own nm nL d hp E pc ls (.int y :: .int x :: st) h X := by
  obtain ⟨p, l, e, s, m, args, below, meth, c⟩ := K
  obtain ⟨D, tA, base, ro, rd, ad0, n0, z0⟩ := L
  refine Sim.step0 (fun C R Q _ _ _ _ k ad H locs lsA hI hc hl => ?_) k
  obtain ⟨hx, hb, hml, hown, hts, hG, hnm⟩ := C
  exact lv_ishl hx hb hdg (k ad H locs lsA hI ⟨hc.1, xcc xcv_i (xct (xct hc.2))⟩ hl)
theorem S_ishr {x y : Int32} (hdg : decode cc pc = .ok (.ishr, 1)) (k : Sim K L cc own nm nL d hp E (pc + 1) ls (.int (x >>> (y &&& 31)) :: st) h X) : Sim K L cc own nm nL d hp E pc ls (.int y :: .int x :: st) h X := by
  obtain ⟨p, l, e, s, m, args, below, meth, c⟩ := K
  obtain ⟨D, tA, base, ro, rd, ad0, n0, z0⟩ := L
  refine Sim.step0 (fun C R Q _ _ _ _ k ad H locs lsA hI hc hl => ?_) k
  obtain ⟨hx, hb, hml, hown, hts, hG, hnm⟩ := C
  exact lv_ishr hx hb hdg (k ad H locs lsA hI ⟨hc.1, xcc xcv_i (xct (xct hc.2))⟩ hl)
theorem S_iushr {x y : Int32} (hdg : decode cc pc = .ok (.iushr, 1)) (k : Sim K L cc own nm nL d hp E (pc + 1) ls (.int ((x.toUInt32 >>> (y.toUInt32 &&& Int32.toUInt32 31)).toInt32) :: st) h X) : Sim K L cc own nm nL d hp E pc ls (.int y :: .int x :: st) h X := by
  obtain ⟨p, l, e, s, m, args, below, meth, c⟩ := K
  obtain ⟨D, tA, base, ro, rd, ad0, n0, z0⟩ := L
  refine Sim.step0 (fun C R Q _ _ _ _ k ad H locs lsA hI hc hl => ?_) k
  obtain ⟨hx, hb, hml, hown, hts, hG, hnm⟩ := C
  exact lv_iushr hx hb hdg rfl (k ad H locs lsA hI ⟨hc.1, xcc xcv_i (xct (xct hc.2))⟩ hl)
theorem S_idiv {x y : Int32} (hne : ¬ y = 0) (hdg : decode cc pc = .ok (.idiv, 1)) (k : Sim K L cc own nm nL d hp E (pc + 1) ls (.int (x / y) :: st) h X) : Sim K L cc own nm nL d hp E pc ls (.int y :: .int x :: st) h X := by
  obtain ⟨p, l, e, s, m, args, below, meth, c⟩ := K
  obtain ⟨D, tA, base, ro, rd, ad0, n0, z0⟩ := L
  refine Sim.step0 (fun C R Q _ _ _ _ k ad H locs lsA hI hc hl => ?_) k
  obtain ⟨hx, hb, hml, hown, hts, hG, hnm⟩ := C
  exact lv_idiv hx hb hdg hne (k ad H locs lsA hI ⟨hc.1, xcc xcv_i (xct (xct hc.2))⟩ hl)
theorem S_irem {x y : Int32} (hne : ¬ y = 0) (hdg : decode cc pc = .ok (.irem, 1)) (k : Sim K L cc own nm nL d hp E (pc + 1) ls (.int (x - x / y * y) :: st) h X) : Sim K L cc own nm nL d hp E pc ls (.int y :: .int x :: st) h X := by
  obtain ⟨p, l, e, s, m, args, below, meth, c⟩ := K
  obtain ⟨D, tA, base, ro, rd, ad0, n0, z0⟩ := L
  refine Sim.step0 (fun C R Q _ _ _ _ k ad H locs lsA hI hc hl => ?_) k
  obtain ⟨hx, hb, hml, hown, hts, hG, hnm⟩ := C
  exact lv_irem hx hb hdg hne (k ad H locs lsA hI ⟨hc.1, xcc xcv_i (xct (xct hc.2))⟩ hl)
theorem S_lrem {x y : Int64} (hne : ¬ y = 0) (hdg : decode cc pc = .ok (.lrem, 1)) (k : Sim K L cc own nm nL d hp E (pc + 1) ls (.long (x - x / y * y) :: st) h X) : Sim K L cc own nm nL d hp E pc ls (.long y :: .long x :: st) h X := by
  obtain ⟨p, l, e, s, m, args, below, meth, c⟩ := K
  obtain ⟨D, tA, base, ro, rd, ad0, n0, z0⟩ := L
  refine Sim.step0 (fun C R Q _ _ _ _ k ad H locs lsA hI hc hl => ?_) k
  obtain ⟨hx, hb, hml, hown, hts, hG, hnm⟩ := C
  exact lv_lrem hx hb hdg hne (k ad H locs lsA hI ⟨hc.1, xcc xcv_l (xct (xct hc.2))⟩ hl)
theorem S_ladd {x y : Int64} (hdg : decode cc pc = .ok (.ladd, 1)) (k : Sim K L cc own nm nL d hp E (pc + 1) ls (.long (x + y) :: st) h X) : Sim K L cc own nm nL d hp E pc ls (.long y :: .long x :: st) h X := by
  obtain ⟨p, l, e, s, m, args, below, meth, c⟩ := K
  obtain ⟨D, tA, base, ro, rd, ad0, n0, z0⟩ := L
  refine Sim.step0 (fun C R Q _ _ _ _ k ad H locs lsA hI hc hl => ?_) k
  obtain ⟨hx, hb, hml, hown, hts, hG, hnm⟩ := C
  exact lv_ladd hx hb hdg (k ad H locs lsA hI ⟨hc.1, xcc xcv_l (xct (xct hc.2))⟩ hl)
theorem S_lsub {x y : Int64} (hdg : decode cc pc = .ok (.lsub, 1)) (k : Sim K L cc own nm nL d hp E (pc + 1) ls (.long (x - y) :: st) h X) : Sim K L cc own nm nL d hp E pc ls (.long y :: .long x :: st) h X := by
  obtain ⟨p, l, e, s, m, args, below, meth, c⟩ := K
  obtain ⟨D, tA, base, ro, rd, ad0, n0, z0⟩ := L
  refine Sim.step0 (fun C R Q _ _ _ _ k ad H locs lsA hI hc hl => ?_) k
  obtain ⟨hx, hb, hml, hown, hts, hG, hnm⟩ := C
  exact lv_lsub hx hb hdg (k ad H locs lsA hI ⟨hc.1, xcc xcv_l (xct (xct hc.2))⟩ hl)
theorem S_lmul {x y : Int64} (hdg : decode cc pc = .ok (.lmul, 1)) (k : Sim K L cc own nm nL d hp E (pc + 1) ls (.long (x * y) :: st) h X) : Sim K L cc own nm nL d hp E pc ls (.long y :: .long x :: st) h X := by
  obtain ⟨p, l, e, s, m, args, below, meth, c⟩ := K
  obtain ⟨D, tA, base, ro, rd, ad0, n0, z0⟩ := L
  refine Sim.step0 (fun C R Q _ _ _ _ k ad H locs lsA hI hc hl => ?_) k
  obtain ⟨hx, hb, hml, hown, hts, hG, hnm⟩ := C
  exact lv_lmul hx hb hdg (k ad H locs lsA hI ⟨hc.1, xcc xcv_l (xct (xct hc.2))⟩ hl)
theorem S_land {x y : Int64} (hdg : decode cc pc = .ok (.land, 1)) (k : Sim K L cc own nm nL d hp E (pc + 1) ls (.long (x &&& y) :: st) h X) : Sim K L cc own nm nL d hp E pc ls (.long y :: .long x :: st) h X := by
  obtain ⟨p, l, e, s, m, args, below, meth, c⟩ := K
  obtain ⟨D, tA, base, ro, rd, ad0, n0, z0⟩ := L
  refine Sim.step0 (fun C R Q _ _ _ _ k ad H locs lsA hI hc hl => ?_) k
  obtain ⟨hx, hb, hml, hown, hts, hG, hnm⟩ := C
  exact lv_land hx hb hdg (k ad H locs lsA hI ⟨hc.1, xcc xcv_l (xct (xct hc.2))⟩ hl)
theorem S_lor {x y : Int64} (hdg : decode cc pc = .ok (.lor, 1)) (k : Sim K L cc own nm nL d hp E (pc + 1) ls (.long (x ||| y) :: st) h X) : Sim K L cc own nm nL d hp E pc ls (.long y :: .long x :: st) h X := by
  obtain ⟨p, l, e, s, m, args, below, meth, c⟩ := K
  obtain ⟨D, tA, base, ro, rd, ad0, n0, z0⟩ := L
  refine Sim.step0 (fun C R Q _ _ _ _ k ad H locs lsA hI hc hl => ?_) k
  obtain ⟨hx, hb, hml, hown, hts, hG, hnm⟩ := C
  exact lv_lor hx hb hdg (k ad H locs lsA hI ⟨hc.1, xcc xcv_l (xct (xct hc.2))⟩ hl)
theorem S_lshl {x : Int64} {y : Int32} (hdg : decode cc pc = .ok (.lshl, 1)) (k : Sim K L cc own nm nL d hp E (pc + 1) ls (.long (x <<< (y.toInt64 &&& 63)) :: st) h X) : Sim K L cc own nm nL d hp E pc ls (.int y :: .long x :: st) h X := by
  obtain ⟨p, l, e, s, m, args, below, meth, c⟩ := K
  obtain ⟨D, tA, base, ro, rd, ad0, n0, z0⟩ := L
  refine Sim.step0 (fun C R Q _ _ _ _ k ad H locs lsA hI hc hl => ?_) k
  obtain ⟨hx, hb, hml, hown, hts, hG, hnm⟩ := C
  exact lv_lshl hx hb hdg rfl (k ad H locs lsA hI ⟨hc.1, xcc xcv_l (xct (xct hc.2))⟩ hl)
theorem S_lshr {x : Int64} {y : Int32} (hdg : decode cc pc = .ok (.lshr, 1)) (k : Sim K L cc own nm nL d hp E (pc + 1) ls (.long (x >>> (y.toInt64 &&& 63)) :: st) h X) : Sim K L cc own nm nL d hp E pc ls (.int y :: .long x :: st) h X := by
  obtain ⟨p, l, e, s, m, args, below, meth, c⟩ := K
  obtain ⟨D, tA, base, ro, rd, ad0, n0, z0⟩ := L
  refine Sim.step0 (fun C R Q _ _ _ _ k ad H locs lsA hI hc hl => ?_) k
  obtain ⟨hx, hb, hml, hown, hts, hG, hnm⟩ := C
  exact lv_lshr hx hb hdg rfl (k ad H locs lsA hI ⟨hc.1, xcc xcv_l (xct (xct hc.2))⟩ hl)
theorem S_ineg {x : Int32} (hdg : decode cc pc = .ok (.ineg, 1)) (k : Sim K L cc own nm nL d hp E (pc + 1) ls (.int (-x) :: st) h X) : Sim K L cc own nm nL d hp E pc ls (.int x :: st) h X := by
  obtain ⟨p, l, e, s, m, args, below, meth, c⟩ := K
  obtain ⟨D, tA, base, ro, rd, ad0, n0, z0⟩ := L
  refine Sim.step0 (fun C R Q _ _ _ _ k ad H locs lsA hI hc hl => ?_) k
  obtain ⟨hx, hb, hml, hown, hts, hG, hnm⟩ := C
  exact lv_ineg hx hb hdg (k ad H locs lsA hI ⟨hc.1, xcc xcv_i (xct hc.2)⟩ hl)
theorem S_i2l {x : Int32} (hdg : decode cc pc = .ok (.i2l, 1)) (k : Sim K L cc own nm nL d hp E (pc + 1) ls (.long x.toInt64 :: st) h X) : Sim K L cc own nm nL d hp E pc ls (.int x :: st) h X := by
  obtain ⟨p, l, e, s, m, args, below, meth, c⟩ := K
  obtain ⟨D, tA, base, ro, rd, ad0, n0, z0⟩ := L
  refine Sim.step0 (fun C R Q _ _ _ _ k ad H locs lsA hI hc hl => ?_) k
  obtain ⟨hx, hb, hml, hown, hts, hG, hnm⟩ := C
  exact lv_i2l hx hb hdg rfl (k ad H locs lsA hI ⟨hc.1, xcc xcv_l (xct hc.2)⟩ hl)
theorem S_l2i {x : Int64} (hdg : decode cc pc = .ok (.l2i, 1)) (k : Sim K L cc own nm nL d hp E (pc + 1) ls (.int x.toInt32 :: st) h X) : Sim K L cc own nm nL d hp E pc ls (.long x :: st) h X := by
  obtain ⟨p, l, e, s, m, args, below, meth, c⟩ := K
  obtain ⟨D, tA, base, ro, rd, ad0, n0, z0⟩ := L
  refine Sim.step0 (fun C R Q _ _ _ _ k ad H locs lsA hI hc hl => ?_) k
  obtain ⟨hx, hb, hml, hown, hts, hG, hnm⟩ := C
  exact lv_l2i hx hb hdg rfl (k ad H locs lsA hI ⟨hc.1, xcc xcv_i (xct hc.2)⟩ hl)
theorem S_i2b {x : Int32} (hdg : decode cc pc = .ok (.i2b, 1)) (k : Sim K L cc own nm nL d hp E (pc + 1) ls (.int x.toInt8.toInt32 :: st) h X) : Sim K L cc own nm nL d hp E pc ls (.int x :: st) h X := by
  obtain ⟨p, l, e, s, m, args, below, meth, c⟩ := K
  obtain ⟨D, tA, base, ro, rd, ad0, n0, z0⟩ := L
  refine Sim.step0 (fun C R Q _ _ _ _ k ad H locs lsA hI hc hl => ?_) k
  obtain ⟨hx, hb, hml, hown, hts, hG, hnm⟩ := C
  exact lv_i2b hx hb hdg rfl (k ad H locs lsA hI ⟨hc.1, xcc xcv_i (xct hc.2)⟩ hl)
theorem S_i2s {x : Int32} (hdg : decode cc pc = .ok (.i2s, 1)) (k : Sim K L cc own nm nL d hp E (pc + 1) ls (.int x.toInt16.toInt32 :: st) h X) : Sim K L cc own nm nL d hp E pc ls (.int x :: st) h X := by
  obtain ⟨p, l, e, s, m, args, below, meth, c⟩ := K
  obtain ⟨D, tA, base, ro, rd, ad0, n0, z0⟩ := L
  refine Sim.step0 (fun C R Q _ _ _ _ k ad H locs lsA hI hc hl => ?_) k
  obtain ⟨hx, hb, hml, hown, hts, hG, hnm⟩ := C
  exact lv_i2s hx hb hdg rfl (k ad H locs lsA hI ⟨hc.1, xcc xcv_i (xct hc.2)⟩ hl)
theorem S_lcmp {x y : Int64} (hdg : decode cc pc = .ok (.lcmp, 1)) (k : Sim K L cc own nm nL d hp E (pc + 1) ls (.int (lg_cmp x y) :: st) h X) : Sim K L cc own nm nL d hp E pc ls (.long y :: .long x :: st) h X := by
  obtain ⟨p, l, e, s, m, args, below, meth, c⟩ := K
  obtain ⟨D, tA, base, ro, rd, ad0, n0, z0⟩ := L
  refine Sim.step0 (fun C R Q _ _ _ _ k ad H locs lsA hI hc hl => ?_) k
  obtain ⟨hx, hb, hml, hown, hts, hG, hnm⟩ := C
  exact W.lcmp hx hb hdg (k ad H locs lsA hI ⟨hc.1, xcc xcv_i (xct (xct hc.2))⟩ hl)
theorem S_dup {v : Value} (hv : v.category = 1) (hdg : decode cc pc = .ok (.dup, 1)) (k : Sim K L cc own nm nL d hp E (pc + 1) ls (v :: v :: st) h X) : Sim K L cc own nm nL d hp E pc ls (v :: st) h X := by
  obtain ⟨p, l, e, s, m, args, below, meth, c⟩ := K
  obtain ⟨D, tA, base, ro, rd, ad0, n0, z0⟩ := L
  refine Sim.step0 (fun C R Q _ _ _ _ k ad H locs lsA hI hc hl => ?_) k
  obtain ⟨hx, hb, hml, hown, hts, hG, hnm⟩ := C
  exact lv_dup hx hb hdg (by rw [xv_cat]; exact hv) (k ad H locs lsA hI ⟨hc.1, xcc (xch hc.2) hc.2⟩ hl)
theorem S_pop {v : Value} (hv : v.category = 1) (hdg : decode cc pc = .ok (.pop, 1)) (k : Sim K L cc own nm nL d hp E (pc + 1) ls (st) h X) : Sim K L cc own nm nL d hp E pc ls (v :: st) h X := by
  obtain ⟨p, l, e, s, m, args, below, meth, c⟩ := K
  obtain ⟨D, tA, base, ro, rd, ad0, n0, z0⟩ := L
  refine Sim.step0 (fun C R Q _ _ _ _ k ad H locs lsA hI hc hl => ?_) k
  obtain ⟨hx, hb, hml, hown, hts, hG, hnm⟩ := C
  exact lv_pop hx hb hdg (by rw [xv_cat]; exact hv) (k ad H locs lsA hI ⟨hc.1, xct hc.2⟩ hl)
theorem S_dup2 {v w : Value} (hv : v.category = 1) (hw : w.category = 1) (hdg : decode cc pc = .ok (.dup2, 1)) (k : Sim K L cc own nm nL d hp E (pc + 1) ls (v :: w :: v :: w :: st) h X) : Sim K L cc own nm nL d hp E pc ls (v :: w :: st) h X := by
  obtain ⟨p, l, e, s, m, args, below, meth, c⟩ := K
  obtain ⟨D, tA, base, ro, rd, ad0, n0, z0⟩ := L
  refine Sim.step0 (fun C R Q _ _ _ _ k ad H locs lsA hI hc hl => ?_) k
  obtain ⟨hx, hb, hml, hown, hts, hG, hnm⟩ := C
  exact lv_dup2_11 hx hb hdg (by rw [xv_cat]; exact hv) (by rw [xv_cat]; exact hw) (k ad H locs lsA hI ⟨hc.1, xcc (xch hc.2) (xcc (xch (xct hc.2)) hc.2)⟩ hl)
theorem S_goto {off : Int} {tgt : Nat} (hdg : decode cc pc = .ok (.goto off, 3)) (ht : (pc : Int) + off = (tgt : Int)) (k : Sim K L cc own nm nL d hp E tgt ls st h X) : Sim K L cc own nm nL d hp E pc ls st h X := by
  obtain ⟨p, l, e, s, m, args, below, meth, c⟩ := K
  obtain ⟨D, tA, base, ro, rd, ad0, n0, z0⟩ := L
  refine Sim.step0 (fun C R Q _ _ _ _ k ad H locs lsA hI hc hl => ?_) k
  obtain ⟨hx, hb, hml, hown, hts, hG, hnm⟩ := C
  exact lv_goto hx hb hdg ht (k ad H locs lsA hI hc hl)
theorem S_if_eq {x : Int32} {off : Int} {tgt : Nat} (hdg : decode cc pc = .ok (.ifCond .eq off, 3)) (ht : (pc : Int) + off = (tgt : Int)) (ka : Sim K L cc own nm nL d hp E tgt ls st h A) (kb : Sim K L cc own nm nL d hp E (pc + 3) ls st h B) : Sim K L cc own nm nL d hp E pc ls (.int x :: st) h (if x = 0 then A else B) := by
  obtain ⟨p, l, e, s, m, args, below, meth, c⟩ := K
  obtain ⟨D, tA, base, ro, rd, ad0, n0, z0⟩ := L
  intro q hq
  by_cases hcd : x = 0
  · rw [if_pos hcd] at hq
    obtain ⟨mo, k⟩ := ka q hq
    refine ⟨mo, fun C R Q a1 a2 a3 a4 hE ad H locs lsA hI hc hl => ?_⟩
    have k := k C
    obtain ⟨hx, hb, hml, hown, hts, hG, hnm⟩ := C
    exact lv_if_eq hx hb hdg ht (fun _ => k R Q a1 a2 a3 a4 hE ad H locs lsA hI ⟨hc.1, xct hc.2⟩ hl) (fun n => absurd hcd n)
  · rw [if_neg hcd] at hq
    obtain ⟨mo, k⟩ := kb q hq
    refine ⟨mo, fun C R Q a1 a2 a3 a4 hE ad H locs lsA hI hc hl => ?_⟩
    have k := k C
    obtain ⟨hx, hb, hml, hown, hts, hG, hnm⟩ := C
    exact lv_if_eq hx hb hdg ht (fun n => absurd n hcd) (fun _ => k R Q a1 a2 a3 a4 hE ad H locs lsA hI ⟨hc.1, xct hc.2⟩ hl)
theorem D_if_eq {x : Int32} {off : Int} {tgt : Nat} (hdg : decode cc pc = .ok (.ifCond .eq off, 3)) (ht : (pc : Int) + off = (tgt : Int)) (ka : (x = 0) → Sim K L cc own nm nL d hp E tgt ls st h X) (kb : ¬ (x = 0) → Sim K L cc own nm nL d hp E (pc + 3) ls st h X) : Sim K L cc own nm nL d hp E pc ls (.int x :: st) h X := by
  by_cases hcd : x = 0
  · have := S_if_eq (A := X) (B := none) (x := x) hdg ht (ka hcd) Sim.none
    rwa [if_pos hcd] at this
  · have := S_if_eq (A := none) (B := X) (x := x) hdg ht Sim.none (kb hcd)
    rwa [if_neg hcd] at this
theorem S_if_ne {x : Int32} {off : Int} {tgt : Nat} (hdg : decode cc pc = .ok (.ifCond .ne off, 3)) (ht : (pc : Int) + off = (tgt : Int)) (ka : Sim K L cc own nm nL d hp E (pc + 3) ls st h A) (kb : Sim K L cc own nm nL d hp E tgt ls st h B) : Sim K L cc own nm nL d hp E pc ls (.int x :: st) h (if x = 0 then A else B) := by
  obtain ⟨p, l, e, s, m, args, below, meth, c⟩ := K
  obtain ⟨D, tA, base, ro, rd, ad0, n0, z0⟩ := L
  intro q hq
  by_cases hcd : x = 0
  · rw [if_pos hcd] at hq
    obtain ⟨mo, k⟩ := ka q hq
    refine ⟨mo, fun C R Q a1 a2 a3 a4 hE ad H locs lsA hI hc hl => ?_⟩
    have k := k C
    obtain ⟨hx, hb, hml, hown, hts, hG, hnm⟩ := C
    exact lv_if_ne hx hb hdg ht (fun n => absurd hcd n) (fun _ => k R Q a1 a2 a3 a4 hE ad H locs lsA hI ⟨hc.1, xct hc.2⟩ hl)
  · rw [if_neg hcd] at hq
    obtain ⟨mo, k⟩ := kb q hq
    refine ⟨mo, fun C R Q a1 a2 a3 a4 hE ad H locs lsA hI hc hl => ?_⟩
    have k := k C
    obtain ⟨hx, hb, hml, hown, hts, hG, hnm⟩ := C
    exact lv_if_ne hx hb hdg ht (fun _ => k R Q a1 a2 a3 a4 hE ad H locs lsA hI ⟨hc.1, xct hc.2⟩ hl) (fun n => absurd n hcd)
theorem D_if_ne {x : Int32} {off : Int} {tgt : Nat} (hdg : decode cc pc = .ok (.ifCond .ne off, 3)) (ht : (pc : Int) + off = (tgt : Int)) (ka : (x = 0) → Sim K L cc own nm nL d hp E (pc + 3) ls st h X) (kb : ¬ (x = 0) → Sim K L cc own nm nL d hp E tgt ls st h X) : Sim K L cc own nm nL d hp E pc ls (.int x :: st) h X := by
  by_cases hcd : x = 0
  · have := S_if_ne (A := X) (B := none) (x := x) hdg ht (ka hcd) Sim.none
    rwa [if_pos hcd] at this
  · have := S_if_ne (A := none) (B := X) (x := x) hdg ht Sim.none (kb hcd)
    rwa [if_neg hcd] at this
theorem S_if_lt {x : Int32} {off : Int} {tgt : Nat} (hdg : decode cc pc = .ok (.ifCond .lt off, 3)) (ht : (pc : Int) + off = (tgt : Int)) (ka : Sim K L cc own nm nL d hp E tgt ls st h A) (kb : Sim K L cc own nm nL d hp E (pc + 3) ls st h B) : Sim K L cc own nm nL d hp E pc ls (.int x :: st) h (if x < 0 then A else B) := by
  obtain ⟨p, l, e, s, m, args, below, meth, c⟩ := K
  obtain ⟨D, tA, base, ro, rd, ad0, n0, z0⟩ := L
  intro q hq
  by_cases hcd : x < 0
  · rw [if_pos hcd] at hq
    obtain ⟨mo, k⟩ := ka q hq
    refine ⟨mo, fun C R Q a1 a2 a3 a4 hE ad H locs lsA hI hc hl => ?_⟩
    have k := k C
    obtain ⟨hx, hb, hml, hown, hts, hG, hnm⟩ := C
    exact lv_if_lt hx hb hdg ht (fun _ => k R Q a1 a2 a3 a4 hE ad H locs lsA hI ⟨hc.1, xct hc.2⟩ hl) (fun n => absurd hcd n)
  · rw [if_neg hcd] at hq
    obtain ⟨mo, k⟩ := kb q hq
    refine ⟨mo, fun C R Q a1 a2 a3 a4 hE ad H locs lsA hI hc hl => ?_⟩
    have k := k C
    obtain ⟨hx, hb, hml, hown, hts, hG, hnm⟩ := C
    exact lv_if_lt hx hb hdg ht (fun n => absurd n hcd) (fun _ => k R Q a1 a2 a3 a4 hE ad H locs lsA hI ⟨hc.1, xct hc.2⟩ hl)
theorem D_if_lt {x : Int32} {off : Int} {tgt : Nat} (hdg : decode cc pc = .ok (.ifCond .lt off, 3)) (ht : (pc : Int) + off = (tgt : Int)) (ka : (x < 0) → Sim K L cc own nm nL d hp E tgt ls st h X) (kb : ¬ (x < 0) → Sim K L cc own nm nL d hp E (pc + 3) ls st h X) : Sim K L cc own nm nL d hp E pc ls (.int x :: st) h X := by
  by_cases hcd : x < 0
  · have := S_if_lt (A := X) (B := none) (x := x) hdg ht (ka hcd) Sim.none
    rwa [if_pos hcd] at this
  · have := S_if_lt (A := none) (B := X) (x := x) hdg ht Sim.none (kb hcd)
    rwa [if_neg hcd] at this
theorem S_if_ge {x : Int32} {off : Int} {tgt : Nat} (hdg : decode cc pc = .ok (.ifCond .ge off, 3)) (ht : (pc : Int) + off = (tgt : Int)) (ka : Sim K L cc own nm nL d hp E tgt ls st h A) (kb : Sim K L cc own nm nL d hp E (pc + 3) ls st h B) : Sim K L cc own nm nL d hp E pc ls (.int x :: st) h (if 0 ≤ x then A else B) := by
  obtain ⟨p, l, e, s, m, args, below, meth, c⟩ := K
  obtain ⟨D, tA, base, ro, rd, ad0, n0, z0⟩ := L
  intro q hq
  by_cases hcd : 0 ≤ x
  · rw [if_pos hcd] at hq
    obtain ⟨mo, k⟩ := ka q hq
    refine ⟨mo, fun C R Q a1 a2 a3 a4 hE ad H locs lsA hI hc hl => ?_⟩
    have k := k C
    obtain ⟨hx, hb, hml, hown, hts, hG, hnm⟩ := C
    exact lv_if_ge hx hb hdg ht (fun _ => k R Q a1 a2 a3 a4 hE ad H locs lsA hI ⟨hc.1, xct hc.2⟩ hl) (fun n => absurd hcd n)
  · rw [if_neg hcd] at hq
    obtain ⟨mo, k⟩ := kb q hq
    refine ⟨mo, fun C R Q a1 a2 a3 a4 hE ad H locs lsA hI hc hl => ?_⟩
    have k := k C
    obtain ⟨hx, hb, hml, hown, hts, hG, hnm⟩ := C
    exact lv_if_ge hx hb hdg ht (fun n => absurd n hcd) (fun _ => k R Q a1 a2 a3 a4 hE ad H locs lsA hI ⟨hc.1, xct hc.2⟩ hl)
theorem D_if_ge {x : Int32} {off : Int} {tgt : Nat} (hdg : decode cc pc = .ok (.ifCond .ge off, 3)) (ht : (pc : Int) + off = (tgt : Int)) (ka : (0 ≤ x) → Sim K L cc own nm nL d hp E tgt ls st h X) (kb : ¬ (0 ≤ x) → Sim K L cc own nm nL d hp E (pc + 3) ls st h X) : Sim K L cc own nm nL d hp E pc ls (.int x :: st) h X := by
  by_cases hcd : 0 ≤ x
  · have := S_if_ge (A := X) (B := none) (x := x) hdg ht (ka hcd) Sim.none
    rwa [if_pos hcd] at this
  · have := S_if_ge (A := none) (B := X) (x := x) hdg ht Sim.none (kb hcd)
    rwa [if_neg hcd] at this
theorem S_if_gt {x : Int32} {off : Int} {tgt : Nat} (hdg : decode cc pc = .ok (.ifCond .gt off, 3)) (ht : (pc : Int) + off = (tgt : Int)) (ka : Sim K L cc own nm nL d hp E tgt ls st h A) (kb : Sim K L cc own nm nL d hp E (pc + 3) ls st h B) : Sim K L cc own nm nL d hp E pc ls (.int x :: st) h (if 0 < x then A else B) := by
  obtain ⟨p, l, e, s, m, args, below, meth, c⟩ := K
  obtain ⟨D, tA, base, ro, rd, ad0, n0, z0⟩ := L
  intro q hq
  by_cases hcd : 0 < x
  · rw [if_pos hcd] at hq
    obtain ⟨mo, k⟩ := ka q hq
    refine ⟨mo, fun C R Q a1 a2 a3 a4 hE ad H locs lsA hI hc hl => ?_⟩
    have k := k C
    obtain ⟨hx, hb, hml, hown, hts, hG, hnm⟩ := C
    exact lv_if_gt hx hb hdg ht (fun _ => k R Q a1 a2 a3 a4 hE ad H locs lsA hI ⟨hc.1, xct hc.2⟩ hl) (fun n => absurd hcd n)
  · rw [if_neg hcd] at hq
    obtain ⟨mo, k⟩ := kb q hq
    refine ⟨mo, fun C R Q a1 a2 a3 a4 hE ad H locs lsA hI hc hl => ?_⟩
    have k := k C
    obtain ⟨hx, hb, hml, hown, hts, hG, hnm⟩ := C
    exact lv_if_gt hx hb hdg ht (fun n => absurd n hcd) (fun _ => k R Q a1 a2 a3 a4 hE ad H locs lsA hI ⟨hc.1, xct hc.2⟩ hl)
theorem D_if_gt {x : Int32} {off : Int} {tgt : Nat} (hdg : decode cc pc = .ok (.ifCond .gt off, 3)) (ht : (pc : Int) + off = (tgt : Int)) (ka : (0 < x) → Sim K L cc own nm nL d hp E tgt ls st h X) (kb : ¬ (0 < x) → Sim K L cc own nm nL d hp E (pc + 3) ls st h X) : Sim K L cc own nm nL d hp E pc ls (.int x :: st) h X := by
  by_cases hcd : 0 < x
  · have := S_if_gt (A := X) (B := none) (x := x) hdg ht (ka hcd) Sim.none
    rwa [if_pos hcd] at this
  · have := S_if_gt (A := none) (B := X) (x := x) hdg ht Sim.none (kb hcd)
    rwa [if_neg hcd] at this
theorem S_if_le {x : Int32} {off : Int} {tgt : Nat} (hdg : decode cc pc = .ok (.ifCond .le off, 3)) (ht : (pc : Int) + off = (tgt : Int)) (ka : Sim K L cc own nm nL d hp E tgt ls st h A) (kb : Sim K L cc own nm nL d hp E (pc + 3) ls st h B) : Sim K L cc own nm nL d hp E pc ls (.int x :: st) h (if x ≤ 0 then A else B) := by
  obtain ⟨p, l, e, s, m, args, below, meth, c⟩ := K
  obtain ⟨D, tA, base, ro, rd, ad0, n0, z0⟩ := L
  intro q hq
  by_cases hcd : x ≤ 0
  · rw [if_pos hcd] at hq
    obtain ⟨mo, k⟩ := ka q hq
    refine ⟨mo, fun C R Q a1 a2 a3 a4 hE ad H locs lsA hI hc hl => ?_⟩
    have k := k C
    obtain ⟨hx, hb, hml, hown, hts, hG, hnm⟩ := C
    exact lv_if_le hx hb hdg ht (fun _ => k R Q a1 a2 a3 a4 hE ad H locs lsA hI ⟨hc.1, xct hc.2⟩ hl) (fun n => absurd hcd n)
  · rw [if_neg hcd] at hq
    obtain ⟨mo, k⟩ := kb q hq
    refine ⟨mo, fun C R Q a1 a2 a3 a4 hE ad H locs lsA hI hc hl => ?_⟩
    have k := k C
    obtain ⟨hx, hb, hml, hown, hts, hG, hnm⟩ := C
    exact lv_if_le hx hb hdg ht (fun n => absurd n hcd) (fun _ => k R Q a1 a2 a3 a4 hE ad H locs lsA hI ⟨hc.1, xct hc.2⟩ hl)
theorem D_if_le {x : Int32} {off : Int} {tgt : Nat} (hdg : decode cc pc = .ok (.ifCond .le off, 3)) (ht : (pc : Int) + off = (tgt : Int)) (ka : (x ≤ 0) → Sim K L cc own nm nL d hp E tgt ls st h X) (kb : ¬ (x ≤ 0) → Sim K L cc own nm nL d hp E (pc + 3) ls st h X) : Sim K L cc own nm nL d hp E pc ls (.int x :: st) h X := by
  by_cases hcd : x ≤ 0
  · have := S_if_le (A := X) (B := none) (x := x) hdg ht (ka hcd) Sim.none
    rwa [if_pos hcd] at this
  · have := S_if_le (A := none) (B := X) (x := x) hdg ht Sim.none (kb hcd)
    rwa [if_neg hcd] at this
theorem S_icmp_eq {x y : Int32} {off : Int} {tgt : Nat} (hdg : decode cc pc = .ok (.if_icmp .eq off, 3)) (ht : (pc : Int) + off = (tgt : Int)) (ka : Sim K L cc own nm nL d hp E tgt ls st h A) (kb : Sim K L cc own nm nL d hp E (pc + 3) ls st h B) : Sim K L cc own nm nL d hp E pc ls (.int y :: .int x :: st) h (if x = y then A else B) := by
  obtain ⟨p, l, e, s, m, args, below, meth, c⟩ := K
  obtain ⟨D, tA, base, ro, rd, ad0, n0, z0⟩ := L
  intro q hq
  by_cases hcd : x = y
  · rw [if_pos hcd] at hq
    obtain ⟨mo, k⟩ := ka q hq
    refine ⟨mo, fun C R Q a1 a2 a3 a4 hE ad H locs lsA hI hc hl => ?_⟩
    have k := k C
    obtain ⟨hx, hb, hml, hown, hts, hG, hnm⟩ := C
    exact lv_icmp_eq hx hb hdg ht (fun _ => k R Q a1 a2 a3 a4 hE ad H locs lsA hI ⟨hc.1, xct (xct hc.2)⟩ hl) (fun n => absurd hcd n)
  · rw [if_neg hcd] at hq
    obtain ⟨mo, k⟩ := kb q hq
    refine ⟨mo, fun C R Q a1 a2 a3 a4 hE ad H locs lsA hI hc hl => ?_⟩
    have k := k C
    obtain ⟨hx, hb, hml, hown, hts, hG, hnm⟩ := C
    exact lv_icmp_eq hx hb hdg ht (fun n => absurd n hcd) (fun _ => k R Q a1 a2 a3 a4 hE ad H locs lsA hI ⟨hc.1, xct (xct hc.2)⟩ hl)
theorem D_icmp_eq {x y : Int32} {off : Int} {tgt : Nat} (hdg : decode cc pc = .ok (.if_icmp .eq off, 3)) (ht : (pc : Int) + off = (tgt : Int)) (ka : (x = y) → Sim K L cc own nm nL d hp E tgt ls st h X) (kb : ¬ (x = y) → Sim K L cc own nm nL d hp E (pc + 3) ls st h X) : Sim K L cc own nm nL d hp E pc ls (.int y :: .int x :: st) h X := by
  by_cases hcd : x = y
  · have := S_icmp_eq (A := X) (B := none) (x := x) (y := y) hdg ht (ka hcd) Sim.none
    rwa [if_pos hcd] at this
  · have := S_icmp_eq (A := none) (B := X) (x := x) (y := y) hdg ht Sim.none (kb hcd)
    rwa [if_neg hcd] at this
theorem S_icmp_ne {x y : Int32} {off : Int} {tgt : Nat} (hdg : decode cc pc = .ok (.if_icmp .ne off, 3)) (ht : (pc : Int) + off = (tgt : Int)) (ka : Sim K L cc own nm nL d hp E (pc + 3) ls st h A) (kb : Sim K L cc own nm nL d hp E tgt ls st h B) : Sim K L cc own nm nL d hp E pc ls (.int y :: .int x :: st) h (if x = y then A else B) := by
  obtain ⟨p, l, e, s, m, args, below, meth, c⟩ := K
  obtain ⟨D, tA, base, ro, rd, ad0, n0, z0⟩ := L
  intro q hq
  by_cases hcd : x = y
  · rw [if_pos hcd] at hq
    obtain ⟨mo, k⟩ := ka q hq
    refine ⟨mo, fun C R Q a1 a2 a3 a4 hE ad H locs lsA hI hc hl => ?_⟩
    have k := k C
    obtain ⟨hx, hb, hml, hown, hts, hG, hnm⟩ := C
    exact lv_icmp_ne hx hb hdg ht (fun n => absurd hcd n) (fun _ => k R Q a1 a2 a3 a4 hE ad H locs lsA hI ⟨hc.1, xct (xct hc.2)⟩ hl)
  · rw [if_neg hcd] at hq
    obtain ⟨mo, k⟩ := kb q hq
    refine ⟨mo, fun C R Q a1 a2 a3 a4 hE ad H locs lsA hI hc hl => ?_⟩
    have k := k C
    obtain ⟨hx, hb, hml, hown, hts, hG, hnm⟩ := C
    exact lv_icmp_ne hx hb hdg ht (fun _ => k R Q a1 a2 a3 a4 hE ad H locs lsA hI ⟨hc.1, xct (xct hc.2)⟩ hl) (fun n => absurd n hcd)
theorem D_icmp_ne {x y : Int32} {off : Int} {tgt : Nat} (hdg : decode cc pc = .ok (.if_icmp .ne off, 3)) (ht : (pc : Int) + off = (tgt : Int)) (ka : (x = y) → Sim K L cc own nm nL d hp E (pc + 3) ls st h X) (kb : ¬ (x = y) → Sim K L cc own nm nL d hp E tgt ls st h X) : Sim K L cc own nm nL d hp E pc ls (.int y :: .int x :: st) h X := by
  by_cases hcd : x = y
  · have := S_icmp_ne (A := X) (B := none) (x := x) (y := y) hdg ht (ka hcd) Sim.none
    rwa [if_pos hcd] at this
  · have := S_icmp_ne (A := none) (B := X) (x := x) (y := y) hdg ht Sim.none (kb hcd)
    rwa [if_neg hcd] at this
theorem S_icmp_lt {x y : Int32} {off : Int} {tgt : Nat} (hdg : decode cc pc = .ok (.if_icmp .lt off, 3)) (ht : (pc : Int) + off = (tgt : Int)) (ka : Sim K L cc own nm nL d hp E tgt ls st h A) (kb : Sim K L cc own nm nL d hp E (pc + 3) ls st h B) : Sim K L cc own nm nL d hp E pc ls (.int y :: .int x :: st) h (if x < y then A else B) := by
  obtain ⟨p, l, e, s, m, args, below, meth, c⟩ := K
  obtain ⟨D, tA, base, ro, rd, ad0, n0, z0⟩ := L
  intro q hq
  by_cases hcd : x < y
  · rw [if_pos hcd] at hq
    obtain ⟨mo, k⟩ := ka q hq
    refine ⟨mo, fun C R Q a1 a2 a3 a4 hE ad H locs lsA hI hc hl => ?_⟩
    have k := k C
    obtain ⟨hx, hb, hml, hown, hts, hG, hnm⟩ := C
    exact lv_icmp_lt hx hb hdg ht (fun _ => k R Q a1 a2 a3 a4 hE ad H locs lsA hI ⟨hc.1, xct (xct hc.2)⟩ hl) (fun n => absurd hcd n)
  · rw [if_neg hcd] at hq
    obtain ⟨mo, k⟩ := kb q hq
    refine ⟨mo, fun C R Q a1 a2 a3 a4 hE ad H locs lsA hI hc hl => ?_⟩
    have k := k C
    obtain ⟨hx, hb, hml, hown, hts, hG, hnm⟩ := C
    exact lv_icmp_lt hx hb hdg ht (fun n => absurd n hcd) (fun _ => k R Q a1 a2 a3 a4 hE ad H locs lsA hI ⟨hc.1, xct (xct hc.2)⟩ hl)
theorem D_icmp_lt {x y : Int32} {off : Int} {tgt : Nat} (hdg : decode cc pc = .ok (.if_icmp .lt off, 3)) (ht : (pc : Int) + off = (tgt : Int)) (ka : (x < y) → Sim K L cc own nm nL d hp E tgt ls st h X) (kb : ¬ (x < y) → Sim K L cc own nm nL d hp E (pc + 3) ls st h X) : Sim K L cc own nm nL d hp E pc ls (.int y :: .int x :: st) h X := by
  by_cases hcd : x < y
  · have := S_icmp_lt (A := X) (B := none) (x := x) (y := y) hdg ht (ka hcd) Sim.none
    rwa [if_pos hcd] at this
  · have := S_icmp_lt (A := none) (B := X) (x := x) (y := y) hdg ht Sim.none (kb hcd)
    rwa [if_neg hcd] at this
theorem S_icmp_ge {x y : Int32} {off : Int} {tgt : Nat} (hdg : decode cc pc = .ok (.if_icmp .ge off, 3)) (ht : (pc : Int) + off = (tgt : Int)) (ka : Sim K L cc own nm nL d hp E tgt ls st h A) (kb : Sim K L cc own nm nL d hp E (pc + 3) ls st h B) : Sim K L cc own nm nL d hp E pc ls (.int y :: .int x :: st) h (if y ≤ x then A else B) := by
  obtain ⟨p, l, e, s, m, args, below, meth, c⟩ := K
  obtain ⟨D, tA, base, ro, rd, ad0, n0, z0⟩ := L
  intro q hq
  by_cases hcd : y ≤ x
  · rw [if_pos hcd] at hq
    obtain ⟨mo, k⟩ := ka q hq
    refine ⟨mo, fun C R Q a1 a2 a3 a4 hE ad H locs lsA hI hc hl => ?_⟩
    have k := k C
    obtain ⟨hx, hb, hml, hown, hts, hG, hnm⟩ := C
    exact lv_icmp_ge hx hb hdg ht (fun _ => k R Q a1 a2 a3 a4 hE ad H locs lsA hI ⟨hc.1, xct (xct hc.2)⟩ hl) (fun n => absurd hcd n)
  · rw [if_neg hcd] at hq
    obtain ⟨mo, k⟩ := kb q hq
    refine ⟨mo, fun C R Q a1 a2 a3 a4 hE ad H locs lsA hI hc hl => ?_⟩
    have k := k C
    obtain ⟨hx, hb, hml, hown, hts, hG, hnm⟩ := C
    exact lv_icmp_ge hx hb hdg ht (fun n => absurd n hcd) (fun _ => k R Q a1 a2 a3 a4 hE ad H locs lsA hI ⟨hc.1, xct (xct hc.2)⟩ hl)
theorem D_icmp_ge {x y : Int32} {off : Int} {tgt : Nat} (hdg : decode cc pc = .ok (.if_icmp .ge off, 3)) (ht : (pc : Int) + off = (tgt : Int)) (ka : (y ≤ x) → Sim K L cc own nm nL d hp E tgt ls st h X) (kb : ¬ (y ≤ x) → Sim K L cc own nm nL d hp E (pc + 3) ls st h X) : Sim K L cc own nm nL d hp E pc ls (.int y :: .int x :: st) h X := by
  by_cases hcd : y ≤ x
  · have := S_icmp_ge (A := X) (B := none) (x := x) (y := y) hdg ht (ka hcd) Sim.none
    rwa [if_pos hcd] at this
  · have := S_icmp_ge (A := none) (B := X) (x := x) (y := y) hdg ht Sim.none (kb hcd)
    rwa [if_neg hcd] at this
theorem S_icmp_gt {x y : Int32} {off : Int} {tgt : Nat} (hdg : decode cc pc = .ok (.if_icmp .gt off, 3)) (ht : (pc : Int) + off = (tgt : Int)) (ka : Sim K L cc own nm nL d hp E tgt ls st h A) (kb : Sim K L cc own nm nL d hp E (pc + 3) ls st h B) : Sim K L cc own nm nL d hp E pc ls (.int y :: .int x :: st) h (if y < x then A else B) := by
  obtain ⟨p, l, e, s, m, args, below, meth, c⟩ := K
  obtain ⟨D, tA, base, ro, rd, ad0, n0, z0⟩ := L
  intro q hq
  by_cases hcd : y < x
  · rw [if_pos hcd] at hq
    obtain ⟨mo, k⟩ := ka q hq
    refine ⟨mo, fun C R Q a1 a2 a3 a4 hE ad H locs lsA hI hc hl => ?_⟩
    have k := k C
    obtain ⟨hx, hb, hml, hown, hts, hG, hnm⟩ := C
    exact lv_icmp_gt hx hb hdg ht (fun _ => k R Q a1 a2 a3 a4 hE ad H locs lsA hI ⟨hc.1, xct (xct hc.2)⟩ hl) (fun n => absurd hcd n)
  · rw [if_neg hcd] at hq
    obtain ⟨mo, k⟩ := kb q hq
    refine ⟨mo, fun C R Q a1 a2 a3 a4 hE ad H locs lsA hI hc hl => ?_⟩
    have k := k C
    obtain ⟨hx, hb, hml, hown, hts, hG, hnm⟩ := C
    exact lv_icmp_gt hx hb hdg ht (fun n => absurd n hcd) (fun _ => k R Q a1 a2 a3 a4 hE ad H locs lsA hI ⟨hc.1, xct (xct hc.2)⟩ hl)
theorem D_icmp_gt {x y : Int32} {off : Int} {tgt : Nat} (hdg : decode cc pc = .ok (.if_icmp .gt off, 3)) (ht : (pc : Int) + off = (tgt : Int)) (ka : (y < x) → Sim K L cc own nm nL d hp E tgt ls st h X) (kb : ¬ (y < x) → Sim K L cc own nm nL d hp E (pc + 3) ls st h X) : Sim K L cc own nm nL d hp E pc ls (.int y :: .int x :: st) h X := by
  by_cases hcd : y < x
  · have := S_icmp_gt (A := X) (B := none) (x := x) (y := y) hdg ht (ka hcd) Sim.none
    rwa [if_pos hcd] at this
  · have := S_icmp_gt (A := none) (B := X) (x := x) (y := y) hdg ht Sim.none (kb hcd)
    rwa [if_neg hcd] at this
theorem S_icmp_le {x y : Int32} {off : Int} {tgt : Nat} (hdg : decode cc pc = .ok (.if_icmp .le off, 3)) (ht : (pc : Int) + off = (tgt : Int)) (ka : Sim K L cc own nm nL d hp E tgt ls st h A) (kb : Sim K L cc own nm nL d hp E (pc + 3) ls st h B) : Sim K L cc own nm nL d hp E pc ls (.int y :: .int x :: st) h (if x ≤ y then A else B) := by
  obtain ⟨p, l, e, s, m, args, below, meth, c⟩ := K
  obtain ⟨D, tA, base, ro, rd, ad0, n0, z0⟩ := L
  intro q hq
  by_cases hcd : x ≤ y
  · rw [if_pos hcd] at hq
    obtain ⟨mo, k⟩ := ka q hq
    refine ⟨mo, fun C R Q a1 a2 a3 a4 hE ad H locs lsA hI hc hl => ?_⟩
    have k := k C
    obtain ⟨hx, hb, hml, hown, hts, hG, hnm⟩ := C
    exact lv_icmp_le hx hb hdg ht (fun _ => k R Q a1 a2 a3 a4 hE ad H locs lsA hI ⟨hc.1, xct (xct hc.2)⟩ hl) (fun n => absurd hcd n)
  · rw [if_neg hcd] at hq
    obtain ⟨mo, k⟩ := kb q hq
    refine ⟨mo, fun C R Q a1 a2 a3 a4 hE ad H locs lsA hI hc hl => ?_⟩
    have k := k C
    obtain ⟨hx, hb, hml, hown, hts, hG, hnm⟩ := C
    exact lv_icmp_le hx hb hdg ht (fun n => absurd n hcd) (fun _ => k R Q a1 a2 a3 a4 hE ad H locs lsA hI ⟨hc.1, xct (xct hc.2)⟩ hl)
theorem D_icmp_le {x y : Int32} {off : Int} {tgt : Nat} (hdg : decode cc pc = .ok (.if_icmp .le off, 3)) (ht : (pc : Int) + off = (tgt : Int)) (ka : (x ≤ y) → Sim K L cc own nm nL d hp E tgt ls st h X) (kb : ¬ (x ≤ y) → Sim K L cc own nm nL d hp E (pc + 3) ls st h X) : Sim K L cc own nm nL d hp E pc ls (.int y :: .int x :: st) h X := by
  by_cases hcd : x ≤ y
  · have := S_icmp_le (A := X) (B := none) (x := x) (y := y) hdg ht (ka hcd) Sim.none
    rwa [if_pos hcd] at this
  · have := S_icmp_le (A := none) (B := X) (x := x) (y := y) hdg ht Sim.none (kb hcd)
    rwa [if_neg hcd] at this
theorem S_ifnull_r {a : Nat} {off : Int} (hdg : decode cc pc = .ok (.ifnull off, 3)) (k : Sim K L cc own nm nL d hp E (pc + 3) ls st h X) : Sim K L cc own nm nL d hp E pc ls (.ref a :: st) h X := by
  obtain ⟨p, l, e, s, m, args, below, meth, c⟩ := K
  obtain ⟨D, tA, base, ro, rd, ad0, n0, z0⟩ := L
  refine Sim.step0 (fun C R Q _ _ _ _ k ad H locs lsA hI hc hl => ?_) k
  obtain ⟨hx, hb, hml, hown, hts, hG, hnm⟩ := C
  exact lv_ifnull hx hb hdg (k ad H locs lsA hI ⟨hc.1, xct hc.2⟩ hl)
theorem S_ifnull_n {off : Int} {tgt : Nat} (hdg : decode cc pc = .ok (.ifnull off, 3)) (ht : (pc : Int) + off = (tgt : Int)) (k : Sim K L cc own nm nL d hp E tgt ls st h X) : Sim K L cc own nm nL d hp E pc ls (.null :: st) h X := by
  obtain ⟨p, l, e, s, m, args, below, meth, c⟩ := K
  obtain ⟨D, tA, base, ro, rd, ad0, n0, z0⟩ := L
  refine Sim.step0 (fun C R Q _ _ _ _ k ad H locs lsA hI hc hl => ?_) k
  obtain ⟨hx, hb, hml, hown, hts, hG, hnm⟩ := C
  exact lv_ifnullN hx hb hdg ht (k ad H locs lsA hI ⟨hc.1, xct hc.2⟩ hl)
theorem S_tabIn {x v : Int32} {dflt lo hi off : Int} {offs : Array Int} {len tgt : Nat} (hdg : decode cc pc = .ok (.tableswitch dflt lo hi offs, len)) (h1 : ¬ v.toInt < lo) (h2 : ¬ hi < v.toInt) (ho : offs[(v.toInt - lo).toNat]? = some off) (ht : (pc : Int) + off = (tgt : Int)) (ka : Sim K L cc own nm nL d hp E tgt ls st h A) (kb : ¬ x = v → Sim K L cc own nm nL d hp E pc ls (.int x :: st) h B) : Sim K L cc own nm nL d hp E pc ls (.int x :: st) h (if x = v then A else B) := by
  obtain ⟨p, l, e, s, m, args, below, meth, c⟩ := K
  obtain ⟨D, tA, base, ro, rd, ad0, n0, z0⟩ := L
  refine Sim.ite (fun e => ?_) kb
  subst e
  refine Sim.step0 (fun C R Q _ _ _ _ k ad H locs lsA hI hc hl => ?_) ka
  obtain ⟨hx, hb, hml, hown, hts, hG, hnm⟩ := C
  exact lv_tableIn hx hb hdg h1 h2 ho ht (k ad H locs lsA hI ⟨hc.1, xct hc.2⟩ hl)
theorem S_tabOut {x : Int32} {dflt lo hi : Int} {offs : Array Int} {len tgt : Nat} (hdg : decode cc pc = .ok (.tableswitch dflt lo hi offs, len)) (ho : x.toInt < lo ∨ hi < x.toInt) (ht : (pc : Int) + dflt = (tgt : Int)) (k : Sim K L cc own nm nL d hp E tgt ls st h X) : Sim K L cc own nm nL d hp E pc ls (.int x :: st) h X := by
  obtain ⟨p, l, e, s, m, args, below, meth, c⟩ := K
  obtain ⟨D, tA, base, ro, rd, ad0, n0, z0⟩ := L
  refine Sim.step0 (fun C R Q _ _ _ _ k ad H locs lsA hI hc hl => ?_) k
  obtain ⟨hx, hb, hml, hown, hts, hG, hnm⟩ := C
  exact lv_tableOut hx hb hdg ho ht (k ad H locs lsA hI ⟨hc.1, xct hc.2⟩ hl)
theorem S_look {x : Int32} {dflt off : Int} {ps : Array (Int × Int)} {len tgt : Nat} (hdg : decode cc pc = .ok (.lookupswitch dflt ps, len)) (hps : (ps.toList.zip (ps.toList.drop 1)).all (fun (a, next) => a.1 < next.1) = true) (ho : Op.lookupswitch.offset ps.toList dflt x.toInt = off) (ht : (pc : Int) + off = (tgt : Int)) (k : Sim K L cc own nm nL d hp E tgt ls st h X) : Sim K L cc own nm nL d hp E pc ls (.int x :: st) h X := by
  obtain ⟨p, l, e, s, m, args, below, meth, c⟩ := K
  obtain ⟨D, tA, base, ro, rd, ad0, n0, z0⟩ := L
  refine Sim.step0 (fun C R Q _ _ _ _ k ad H locs lsA hI hc hl => ?_) k
  obtain ⟨hx, hb, hml, hown, hts, hG, hnm⟩ := C
  exact lv_lookup hx hb hdg hps ho ht (k ad H locs lsA hI ⟨hc.1, xct hc.2⟩ hl)
end XROWS
end
section
/-! reads and writes of the abstract heap -/
def xgI (cs : List Nat) (h : xH) (a k : Nat) : Option Int32 := match h[a]? with
  | some (.inr (c, fs)) => if cs.elem c = true then (match fs[k]? with
    | some (.int x) => some x
    | _ => none) else none
  | _ => none
def xgR (cs : List Nat) (h : xH) (a k : Nat) : Option Nat := match h[a]? with
  | some (.inr (c, fs)) => if cs.elem c = true then (match fs[k]? with
    | some (.ref x) => some x
    | _ => none) else none
  | _ => none
def xpI (cs : List Nat) (h : xH) (a k : Nat) (x : Int32) : Option xH := match h[a]? with
  | some (.inr (c, fs)) => if cs.elem c = true ∧ k < fs.length then some (h.set a (.inr (c, fs.set k (.int x)))) else none
  | _ => none
def xpR (cs : List Nat) (h : xH) (a k : Nat) (x : Nat) : Option xH := match h[a]? with
  | some (.inr (c, fs)) => if cs.elem c = true ∧ k < fs.length then some (h.set a (.inr (c, fs.set k (.ref x)))) else none
  | _ => none
def xaI (h : xH) (a : Nat) (i : Int32) : Option Int32 := match h[a]? with
  | some (.inl (0, n, .inl f)) => if i < 0 ∨ n ≤ i.toNatClampNeg then none else some (f i.toNatClampNeg)
  | _ => none
def xuI (h : xH) (a : Nat) (i x : Int32) : Option xH := match h[a]? with
  | some (.inl (0, n, .inl f)) => if a < 3 ∨ i < 0 ∨ n ≤ i.toNatClampNeg then none else some (h.set a (.inl (0, n, .inl (upd f i.toNatClampNeg x))))
  | _ => none
def xaZ (h : xH) (a : Nat) (i : Int32) : Option Int32 := match h[a]? with
  | some (.inl (1, n, .inl f)) => if i < 0 ∨ n ≤ i.toNatClampNeg then none else some (f i.toNatClampNeg)
  | _ => none
def xuZ (h : xH) (a : Nat) (i x : Int32) : Option xH := match h[a]? with
  | some (.inl (1, n, .inl f)) => if i < 0 ∨ n ≤ i.toNatClampNeg then none else some (h.set a (.inl (1, n, .inl (upd f i.toNatClampNeg (vp_nar .boolean x)))))
  | _ => none
def xaQ (t : Nat) (h : xH) (a : Nat) (i : Int32) : Option (Option Nat) := match h[a]? with
  | some (.inl (c, n, .inr (.inr (.inr (.inr f))))) => if ¬ c = t ∨ i < 0 ∨ n ≤ i.toNatClampNeg then none else some (f i.toNatClampNeg)
  | _ => none
def xaR (t : Nat) (h : xH) (a : Nat) (i : Int32) : Option Nat := (xaQ t h a i).bind id
def xuQ (t : Nat) (h : xH) (a : Nat) (i : Int32) (r : Option Nat) : Option xH := match h[a]? with
  | some (.inl (c, n, .inr (.inr (.inr (.inr f))))) => if ¬ c = t ∨ i < 0 ∨ n ≤ i.toNatClampNeg then none else some (h.set a (.inl (c, n, .inr (.inr (.inr (.inr (va_up f i.toNatClampNeg r)))))))
  | _ => none
def xaL (h : xH) (a : Nat) : Option Int32 := match h[a]? with
  | some (.inl (0, n, .inl _)) => some (Int32.ofNat n)
  | _ => none
def xcp (h : xH) (a : Nat) (sp : Int32) (b : Nat) (dp n : Int32) : Option xH := match h[a]?, h[b]? with
  | some (.inl (0, n0, .inl f)), some (.inl (0, n1, .inl g)) => if a < 3 ∨ b < 3 ∨ sp < 0 ∨ dp < 0 ∨ n < 0 ∨ n0 < sp.toNatClampNeg + n.toNatClampNeg ∨ n1 < dp.toNatClampNeg + n.toNatClampNeg then none else some (h.set b (.inl (0, n1, .inl (va_cpy f g sp.toNatClampNeg dp.toNatClampNeg n.toNatClampNeg))))
  | _, _ => none
abbrev xaI0 (n : Nat) : va_E := .inl (0, n, .inl (fun _ => 0))
abbrev xaZ0 (n : Nat) : va_E := .inl (1, n, .inl (fun _ => 0))
abbrev xaR0 (t n : Nat) : va_E := .inl (t, n, .inr (.inr (.inr (.inr (fun _ => none)))))
/-- field k of the classes cs: its name, descriptor, whether it is final, its type -/
def xFd (cs : List Nat) (k : Nat) (ref name desc : String) (fin : Bool) (ty : FieldType) : Prop := ∀ c ∈ cs, ∃ (C : String) (T : u_T) (N : Nat) (ty0 : Nat → FieldType), vwCl[c]? = some (C, T, N) ∧ k < N ∧ T k = (ref, name, desc, fin) ∧ (∀ w ∈ u_ws C T N, w ∈ lw_gd) ∧ (∀ k, k < N → parseFieldDescriptor (T k).2.2.1 = some (ty0 k)) ∧ (∀ a, a < N → ∀ b, b < N → a ≠ b → (T a).2.1 ≠ (T b).2.1) ∧ parseFieldDescriptor desc = some ty
theorem xgI_spec {cs : List Nat} {h : xH} {a k : Nat} {x : Int32} (e : xgI cs h a k = some x) : ∃ c fs, h[a]? = some (.inr (c, fs)) ∧ c ∈ cs ∧ fs[k]? = some (.int x) := by
  unfold xgI at e
  split at e
  · next c fs he =>
    split at e
    · next hc =>
      split at e
      · next y hy => cases e; exact ⟨c, fs, he, List.mem_of_elem_eq_true hc, hy⟩
      · cases e
    · cases e
  · cases e
theorem xgR_spec {cs : List Nat} {h : xH} {a k : Nat} {x : Nat} (e : xgR cs h a k = some x) : ∃ c fs, h[a]? = some (.inr (c, fs)) ∧ c ∈ cs ∧ fs[k]? = some (.ref x) := by
  unfold xgR at e
  split at e
  · next c fs he =>
    split at e
    · next hc =>
      split at e
      · next y hy => cases e; exact ⟨c, fs, he, List.mem_of_elem_eq_true hc, hy⟩
      · cases e
    · cases e
  · cases e
theorem xpI_spec {cs : List Nat} {h h1 : xH} {a k : Nat} {x : Int32} (e : xpI cs h a k x = some h1) : ∃ c fs, h[a]? = some (.inr (c, fs)) ∧ c ∈ cs ∧ k < fs.length ∧ h1 = h.set a (.inr (c, fs.set k (.int x))) := by
  unfold xpI at e
  split at e
  · next c fs he =>
    split at e
    · next hc => cases e; exact ⟨c, fs, he, List.mem_of_elem_eq_true hc.1, hc.2, rfl⟩
    · cases e
  · cases e
theorem xpR_spec {cs : List Nat} {h h1 : xH} {a k : Nat} {x : Nat} (e : xpR cs h a k x = some h1) : ∃ c fs, h[a]? = some (.inr (c, fs)) ∧ c ∈ cs ∧ k < fs.length ∧ h1 = h.set a (.inr (c, fs.set k (.ref x))) := by
  unfold xpR at e
  split at e
  · next c fs he =>
    split at e
    · next hc => cases e; exact ⟨c, fs, he, List.mem_of_elem_eq_true hc.1, hc.2, rfl⟩
    · cases e
  · cases e
theorem xaI_spec {h : xH} {a : Nat} {i x : Int32} (e : xaI h a i = some x) : ∃ n f, h[a]? = some (.inl (0, n, .inl f)) ∧ vp_in i n ∧ x = f i.toNatClampNeg := by
  unfold xaI at e
  split at e
  · next n f he =>
    split at e
    · cases e
    · next hn => cases e; exact ⟨n, f, he, hn, rfl⟩
  · cases e
theorem xuI_spec {h h1 : xH} {a : Nat} {i x : Int32} (e : xuI h a i x = some h1) : ∃ n f, h[a]? = some (.inl (0, n, .inl f)) ∧ 3 ≤ a ∧ vp_in i n ∧ h1 = h.set a (.inl (0, n, .inl (upd f i.toNatClampNeg x))) := by
  unfold xuI at e
  split at e
  · next n f he =>
    split at e
    · cases e
    · next hn => cases e; exact ⟨n, f, he, Nat.not_lt.mp (fun z => hn (Or.inl z)), fun z => hn (Or.inr z), rfl⟩
  · cases e
theorem xaZ_spec {h : xH} {a : Nat} {i x : Int32} (e : xaZ h a i = some x) : ∃ n f, h[a]? = some (.inl (1, n, .inl f)) ∧ vp_in i n ∧ x = f i.toNatClampNeg := by
  unfold xaZ at e
  split at e
  · next n f he =>
    split at e
    · cases e
    · next hn => cases e; exact ⟨n, f, he, hn, rfl⟩
  · cases e
theorem xuZ_spec {h h1 : xH} {a : Nat} {i x : Int32} (e : xuZ h a i x = some h1) : ∃ n f, h[a]? = some (.inl (1, n, .inl f)) ∧ vp_in i n ∧ h1 = h.set a (.inl (1, n, .inl (upd f i.toNatClampNeg (vp_nar .boolean x)))) := by
  unfold xuZ at e
  split at e
  · next n f he =>
    split at e
    · cases e
    · next hn => cases e; exact ⟨n, f, he, hn, rfl⟩
  · cases e
theorem xaQ_spec {t : Nat} {h : xH} {a : Nat} {i : Int32} {r : Option Nat} (e : xaQ t h a i = some r) : ∃ n f, h[a]? = some (.inl (t, n, .inr (.inr (.inr (.inr f))))) ∧ vp_in i n ∧ r = f i.toNatClampNeg := by
  unfold xaQ at e
  split at e
  · next c n f he =>
    split at e
    · cases e
    · next hn =>
      cases e
      have hc : c = t := Decidable.not_not.mp (fun z => hn (Or.inl z))
      subst hc
      exact ⟨n, f, he, fun z => hn (Or.inr z), rfl⟩
  · cases e
theorem xuQ_spec {t : Nat} {h h1 : xH} {a : Nat} {i : Int32} {r : Option Nat} (e : xuQ t h a i r = some h1) : ∃ n f, h[a]? = some (.inl (t, n, .inr (.inr (.inr (.inr f))))) ∧ vp_in i n ∧ h1 = h.set a (.inl (t, n, .inr (.inr (.inr (.inr (va_up f i.toNatClampNeg r)))))) := by
  unfold xuQ at e
  split at e
  · next c n f he =>
    split at e
    · cases e
    · next hn =>
      cases e
      have hc : c = t := Decidable.not_not.mp (fun z => hn (Or.inl z))
      subst hc
      exact ⟨n, f, he, fun z => hn (Or.inr z), rfl⟩
  · cases e
theorem xaL_spec {h : xH} {a : Nat} {x : Int32} (e : xaL h a = some x) : ∃ n f, h[a]? = some (.inl (0, n, .inl f)) ∧ Int32.ofNat n = x := by
  unfold xaL at e
  split at e
  · next n f he => cases e; exact ⟨n, f, he, rfl⟩
  · cases e
theorem xcp_spec {h h1 : xH} {a b : Nat} {sp dp n : Int32} (e : xcp h a sp b dp n = some h1) : ∃ n0 f n1 g, h[a]? = some (.inl (0, n0, .inl f)) ∧ h[b]? = some (.inl (0, n1, .inl g)) ∧ 3 ≤ a ∧ 3 ≤ b ∧ ¬ sp < 0 ∧ ¬ dp < 0 ∧ ¬ n < 0 ∧ sp.toNatClampNeg + n.toNatClampNeg ≤ n0 ∧ dp.toNatClampNeg + n.toNatClampNeg ≤ n1 ∧ h1 = h.set b (.inl (0, n1, .inl (va_cpy f g sp.toNatClampNeg dp.toNatClampNeg n.toNatClampNeg))) := by
  unfold xcp at e
  split at e
  · next n0 f n1 g he hg =>
    split at e
    · cases e
    · next hn =>
      cases e
      simp only [not_or, Nat.not_lt] at hn
      exact ⟨n0, f, n1, g, he, hg, hn.1, hn.2.1, hn.2.2.1, hn.2.2.2.1, hn.2.2.2.2.1, hn.2.2.2.2.2.1, hn.2.2.2.2.2.2, rfl⟩
  · cases e
/-- an array of ours that isn't of ints has its place behind the read-only ones -/
theorem xI.arr {s : State} {D : va_G} {tA : Nat → Nat} {base : Nat} {ro : xH} {rd ad0 : Nat → Nat} {n0 z0 : Nat} {ad : Nat → Nat} {h : xH} {H : Heap} {locs : List Loc} (hG : xG D tA base ro rd s) (hI : xI s (D, tA, base, ro, rd, ad0, n0, z0) ad h H locs) {a : Nat} {x : Nat × Nat × xB} (he : h[a]? = some (.inl x)) (hx : x.1 ≠ 0 ∨ ∀ f, x.2.2 ≠ .inl f) : 3 ≤ a := by
  rcases Nat.lt_or_ge a 3 with hl | hl
  · obtain ⟨i1, i2, i3, i4, i5, i6, -⟩ := hI
    obtain ⟨-, -, -, -, -, h6, -⟩ := hG
    obtain ⟨n, f, e1, -⟩ := h6 a hl
    rw [xtake_at i6 hl, e1] at he
    cases he
    rcases hx with z | z
    · exact absurd rfl z
    · exact absurd rfl (z f)
  · exact hl
/-- a cell is written: the world behind it -/
theorem xI.set {s : State} {D : va_G} {tA : Nat → Nat} {base : Nat} {ro : xH} {rd ad0 : Nat → Nat} {n0 z0 : Nat} {ad : Nat → Nat} {h : xH} {H H1 : Heap} {locs locs1 : List Loc} (hI : xI s (D, tA, base, ro, rd, ad0, n0, z0) ad h H locs) {a : Nat} {e e1 : va_E} (ha : 3 ≤ a) (he : h[a]? = some e) (hs : xs e1 = xs e) (hc : xce h.length e1) (hP : va_P D vwCl ((xw tA ad h).set (a - 3) (ad a, xe tA ad e1)) H1) (hD : va_D (fun q => base ≤ q) ((xw tA ad h).set (a - 3) (ad a, xe tA ad e1))) (hS : va_S (fun q => base ≤ q) s.heap H1 locs1) : xI s (D, tA, base, ro, rd, ad0, n0, z0) ad (h.set a e1) H1 locs1 := by
  obtain ⟨i1, i2, i3, i4, i5, i6, i7, i8, i9, i10⟩ := hI
  rw [← xw_set ha] at hP hD
  exact ⟨hP, hD, hS, i4, i5, by rw [xtake_set ha]; exact i6, by rw [List.length_set]; exact i7, by rw [xz_set he hs]; exact i8, xcH_set i9 hc, i10⟩
/-- a cell is made: the world behind it -/
theorem xI.push {s : State} {D : va_G} {tA : Nat → Nat} {base : Nat} {ro : xH} {rd ad0 : Nat → Nat} {n0 z0 : Nat} {ad : Nat → Nat} {h : xH} {H H1 : Heap} {locs : List Loc} (hI : xI s (D, tA, base, ro, rd, ad0, n0, z0) ad h H locs) {e1 : va_E} {q : Nat} (hc : xce (h.length) e1) (hP : va_P D vwCl (xw tA ad h ++ [(q, xe tA ad e1)]) H1) (hD : va_D (fun q => base ≤ q) (xw tA ad h ++ [(q, xe tA ad e1)])) (hS : va_S (fun q => base ≤ q) s.heap H1 locs) : xI s (D, tA, base, ro, rd, ad0, n0, z0) (va_up ad h.length q) (h ++ [e1]) H1 locs ∧ (∀ k, k < h.length → va_up ad h.length q k = ad k) := by
  obtain ⟨i1, i2, i3, i4, i5, i6, i7, i8, i9, i10⟩ := hI
  have hag : ∀ k, k < h.length → va_up ad h.length q k = ad k := fun k hk => by
    unfold va_up
    rw [if_neg (by omega)]
  have ew : xw tA (va_up ad h.length q) (h ++ [e1]) = xw tA ad h ++ [(q, xe tA ad e1)] := by
    rw [xw_push (by omega), xw_agree i9 hag, xe_agree hag hc]
    unfold va_up
    rw [if_pos rfl]
  refine ⟨⟨by rw [ew]; exact hP, by rw [ew]; exact hD, hS, fun k hk => by rw [hag k (by omega)]; exact i4 k hk, fun i hi => by rw [hag i (by omega)]; exact i5 i hi, by rw [xtake_push (by omega)]; exact i6, by rw [List.length_append]; omega, by rw [xz_push]; omega, xcH_push i9 (xce_le (Nat.le_add_right _ _) hc), i10⟩, hag⟩
section XHEAP
variable {ρ : Type} {K : xK} {L : xL} {nm : String} {nL d : Nat} {hp : ρ → xH} {E : xE ρ} {pc : Nat} {ls : List (Nat × Value)} {st : List Value} {h : xH} {X : Option ρ} {cc : ByteArray} {own : String} {a k idx : Nat} {cs : List Nat} {ref name desc : String} {fin : Bool} {ty : FieldType}
theorem S_getI {F : Int32 → Option ρ} (hf : xFd cs k ref name desc fin ty) (wd : (Cond.fieldLink own idx ref name desc) ∈ lw_gd) (hdg : decode cc pc = .ok (.getfield idx, 3)) (kk : ∀ v, Sim K L cc own nm nL d hp E (pc + 3) ls (.int v :: st) h (F v)) : Sim K L cc own nm nL d hp E pc ls (.ref a :: st) h ((xgI cs h a k).bind F) := by
  obtain ⟨p, l, e, s, m, args, below, meth, c⟩ := K
  obtain ⟨D, tA, base, ro, rd, ad0, n0, z0⟩ := L
  intro q hq
  obtain ⟨v, h1, h2⟩ := Option.bind_eq_some_iff.mp hq
  obtain ⟨mo, k2⟩ := kk v q h2
  obtain ⟨ci, fs, he, hci, hv⟩ := xgI_spec h1
  obtain ⟨Cn, T, N, ty0, f1, f2, f3, f4, f5, f6, f7⟩ := hf ci hci
  refine ⟨mo, fun C R Q a1 a2 a3 a4 hE ad H locs lsA hI hc hl => ?_⟩
  have k2 := k2 C
  obtain ⟨hx, hb, hml, hown, hts, hG, hnm⟩ := C
  have h3 := hI.obj hG he
  have hi := hI
  obtain ⟨i1, -⟩ := hi
  refine va_get (D := D) (own := own) (ref := ref) (T := T) (v := .int v) (fs := fs.map (xv ad)) hx hb hts f4 hown hG.1 i1 (a - 3) (xw_get h3 he) f1 k f2 (by rw [f3]; exact hts _ wd) (by rw [f3]; exact fun _ z => z) (by rw [List.getElem?_map, hv]; rfl) hdg ?_
  exact k2 R Q a1 a2 a3 a4 hE ad H locs lsA hI ⟨hc.1, xcc xcv_i (xct hc.2)⟩ hl
theorem S_getR {F : Nat → Option ρ} (hf : xFd cs k ref name desc fin ty) (wd : (Cond.fieldLink own idx ref name desc) ∈ lw_gd) (hdg : decode cc pc = .ok (.getfield idx, 3)) (kk : ∀ v, Sim K L cc own nm nL d hp E (pc + 3) ls (.ref v :: st) h (F v)) : Sim K L cc own nm nL d hp E pc ls (.ref a :: st) h ((xgR cs h a k).bind F) := by
  obtain ⟨p, l, e, s, m, args, below, meth, c⟩ := K
  obtain ⟨D, tA, base, ro, rd, ad0, n0, z0⟩ := L
  intro q hq
  obtain ⟨v, h1, h2⟩ := Option.bind_eq_some_iff.mp hq
  obtain ⟨mo, k2⟩ := kk v q h2
  obtain ⟨ci, fs, he, hci, hv⟩ := xgR_spec h1
  obtain ⟨Cn, T, N, ty0, f1, f2, f3, f4, f5, f6, f7⟩ := hf ci hci
  refine ⟨mo, fun C R Q a1 a2 a3 a4 hE ad H locs lsA hI hc hl => ?_⟩
  have k2 := k2 C
  obtain ⟨hx, hb, hml, hown, hts, hG, hnm⟩ := C
  have h3 := hI.obj hG he
  have hi := hI
  obtain ⟨i1, -, -, -, -, -, -, -, i9, -⟩ := hi
  have hcv : xcv h.length (.ref v) := (i9 _ _ he : ∀ v ∈ fs, xcv h.length v) _ (List.mem_of_getElem? hv)
  refine va_get (D := D) (own := own) (ref := ref) (T := T) (v := .ref (ad v)) (fs := fs.map (xv ad)) hx hb hts f4 hown hG.1 i1 (a - 3) (xw_get h3 he) f1 k f2 (by rw [f3]; exact hts _ wd) (by rw [f3]; exact fun _ z => z) (by rw [List.getElem?_map, hv]; rfl) hdg ?_
  exact k2 R Q a1 a2 a3 a4 hE ad H locs lsA hI ⟨hc.1, xcc hcv (xct hc.2)⟩ hl
theorem S_putI {F : xH → Option ρ} {x : Int32} (hf : xFd cs k ref name desc false ty) (wd : (Cond.fieldLink own idx ref name desc) ∈ lw_gd) (hn : narrow ty (.int x) = .int x) (hft : fits ty (.int x) = true) (hdg : decode cc pc = .ok (.putfield idx, 3)) (kk : ∀ h1, Sim K L cc own nm nL d hp E (pc + 3) ls st h1 (F h1)) : Sim K L cc own nm nL d hp E pc ls (.int x :: .ref a :: st) h ((xpI cs h a k x).bind F) := by
  obtain ⟨p, l, e, s, m, args, below, meth, c⟩ := K
  obtain ⟨D, tA, base, ro, rd, ad0, n0, z0⟩ := L
  intro q hq
  obtain ⟨h1, e1, e2⟩ := Option.bind_eq_some_iff.mp hq
  obtain ⟨mo, k2⟩ := kk h1 q e2
  obtain ⟨ci, fs, he, hci, hlen, rfl⟩ := xpI_spec e1
  obtain ⟨Cn, T, N, ty0, f1, f2, f3, f4, f5, f6, f7⟩ := hf ci hci
  have hs : xs (.inr (ci, fs.set k (.int x))) = xs (.inr (ci, fs)) := by simp [xs]
  rw [List.length_set, xz_set he hs] at mo
  refine ⟨mo, fun C R Q a1 a2 a3 a4 hE ad H locs lsA hI hc hl => ?_⟩
  have k2 := k2 C
  obtain ⟨hx, hb, hml, hown, hts, hG, hnm⟩ := C
  have h3 := hI.obj hG he
  have hi := hI
  obtain ⟨i1, i2, i3, -, -, -, -, -, i9, -⟩ := hi
  refine va_put (D := D) (own := own) (ref := ref) (T := T) (v := .int x) (ty := ty) (fs := fs.map (xv ad)) hx hb hts f4 ty0 f5 f6 hown hG.1 i1 i2 i3 (a - 3) (xw_get h3 he) f1 k f2 (by rw [f3]; exact hts _ wd) (by rw [f3]; exact fun _ z => z) (by rw [f3]) (by rw [f3]; exact f7) hn hft (by rw [List.length_map]; exact hlen) hdg (fun H1 locs1 hP hD hS => ?_)
  have em : (fs.map (xv ad)).set k (.int x) = (fs.set k (.int x)).map (xv ad) := by rw [List.map_set]; rfl
  rw [em] at hP hD
  have hce : xce h.length (.inr (ci, fs.set k (.int x))) := fun v hv => by
    rcases List.mem_or_eq_of_mem_set hv with z | z
    · exact (i9 _ _ he : ∀ v ∈ fs, xcv h.length v) v z
    · rw [z]; exact xcv_i
  have hI' := hI.set h3 he hs hce hP hD hS
  have := k2 R Q a1 a2 a3 a4 hE ad H1 locs1 lsA hI' (by rw [List.length_set]; exact ⟨hc.1, xct (xct hc.2)⟩) hl
  rw [List.length_set, xz_set he hs] at this
  exact this
theorem S_putIF {F : xH → Option ρ} {x : Int32} (hf : xFd cs k own name desc true ty) (wd : (Cond.fieldLink own idx own name desc) ∈ lw_gd) (hn : narrow ty (.int x) = .int x) (hft : fits ty (.int x) = true) (hdg : decode cc pc = .ok (.putfield idx, 3)) (kk : ∀ h1, Sim K L cc own "<init>" nL d hp E (pc + 3) ls st h1 (F h1)) : Sim K L cc own "<init>" nL d hp E pc ls (.int x :: .ref a :: st) h ((xpI cs h a k x).bind F) := by
  obtain ⟨p, l, e, s, m, args, below, meth, c⟩ := K
  obtain ⟨D, tA, base, ro, rd, ad0, n0, z0⟩ := L
  intro q hq
  obtain ⟨h1, e1, e2⟩ := Option.bind_eq_some_iff.mp hq
  obtain ⟨mo, k2⟩ := kk h1 q e2
  obtain ⟨ci, fs, he, hci, hlen, rfl⟩ := xpI_spec e1
  obtain ⟨Cn, T, N, ty0, f1, f2, f3, f4, f5, f6, f7⟩ := hf ci hci
  have hs : xs (.inr (ci, fs.set k (.int x))) = xs (.inr (ci, fs)) := by simp [xs]
  rw [List.length_set, xz_set he hs] at mo
  refine ⟨mo, fun C R Q a1 a2 a3 a4 hE ad H locs lsA hI hc hl => ?_⟩
  have k2 := k2 C
  obtain ⟨hx, hb, hml, hown, hts, hG, hnm⟩ := C
  have h3 := hI.obj hG he
  have hi := hI
  obtain ⟨i1, i2, i3, -, -, -, -, -, i9, -⟩ := hi
  refine va_putF (D := D) (own := own) (ref := own) (T := T) (v := .int x) (ty := ty) (fs := fs.map (xv ad)) hx hb hts f4 ty0 f5 f6 hown hG.1 i1 i2 i3 (a - 3) (xw_get h3 he) f1 k f2 (by rw [f3]; exact hts _ wd) (by rw [f3]; exact fun _ z => z) (by rw [f3]) hnm (by rw [f3]) (by rw [f3]; exact f7) hn hft (by rw [List.length_map]; exact hlen) hdg (fun H1 locs1 hP hD hS => ?_)
  have em : (fs.map (xv ad)).set k (.int x) = (fs.set k (.int x)).map (xv ad) := by rw [List.map_set]; rfl
  rw [em] at hP hD
  have hce : xce h.length (.inr (ci, fs.set k (.int x))) := fun v hv => by
    rcases List.mem_or_eq_of_mem_set hv with z | z
    · exact (i9 _ _ he : ∀ v ∈ fs, xcv h.length v) v z
    · rw [z]; exact xcv_i
  have hI' := hI.set h3 he hs hce hP hD hS
  have := k2 R Q a1 a2 a3 a4 hE ad H1 locs1 lsA hI' (by rw [List.length_set]; exact ⟨hc.1, xct (xct hc.2)⟩) hl
  rw [List.length_set, xz_set he hs] at this
  exact this
theorem S_putRF {F : xH → Option ρ} {x : Nat} (hf : xFd cs k own name desc true ty) (wd : (Cond.fieldLink own idx own name desc) ∈ lw_gd) (hn : ∀ q, narrow ty (.ref q) = .ref q) (hft : ∀ q, fits ty (.ref q) = true) (hdg : decode cc pc = .ok (.putfield idx, 3)) (kk : ∀ h1, Sim K L cc own "<init>" nL d hp E (pc + 3) ls st h1 (F h1)) : Sim K L cc own "<init>" nL d hp E pc ls (.ref x :: .ref a :: st) h ((xpR cs h a k x).bind F) := by
  obtain ⟨p, l, e, s, m, args, below, meth, c⟩ := K
  obtain ⟨D, tA, base, ro, rd, ad0, n0, z0⟩ := L
  intro q hq
  obtain ⟨h1, e1, e2⟩ := Option.bind_eq_some_iff.mp hq
  obtain ⟨mo, k2⟩ := kk h1 q e2
  obtain ⟨ci, fs, he, hci, hlen, rfl⟩ := xpR_spec e1
  obtain ⟨Cn, T, N, ty0, f1, f2, f3, f4, f5, f6, f7⟩ := hf ci hci
  have hs : xs (.inr (ci, fs.set k (.ref x))) = xs (.inr (ci, fs)) := by simp [xs]
  rw [List.length_set, xz_set he hs] at mo
  refine ⟨mo, fun C R Q a1 a2 a3 a4 hE ad H locs lsA hI hc hl => ?_⟩
  have k2 := k2 C
  obtain ⟨hx, hb, hml, hown, hts, hG, hnm⟩ := C
  have h3 := hI.obj hG he
  have hi := hI
  obtain ⟨i1, i2, i3, -, -, -, -, -, i9, -⟩ := hi
  refine va_putF (D := D) (own := own) (ref := own) (T := T) (v := .ref (ad x)) (ty := ty) (fs := fs.map (xv ad)) hx hb hts f4 ty0 f5 f6 hown hG.1 i1 i2 i3 (a - 3) (xw_get h3 he) f1 k f2 (by rw [f3]; exact hts _ wd) (by rw [f3]; exact fun _ z => z) (by rw [f3]) hnm (by rw [f3]) (by rw [f3]; exact f7) (hn _) (hft _) (by rw [List.length_map]; exact hlen) hdg (fun H1 locs1 hP hD hS => ?_)
  have em : (fs.map (xv ad)).set k (.ref (ad x)) = (fs.set k (.ref x)).map (xv ad) := by rw [List.map_set]; rfl
  rw [em] at hP hD
  have hce : xce h.length (.inr (ci, fs.set k (.ref x))) := fun v hv => by
    rcases List.mem_or_eq_of_mem_set hv with z | z
    · exact (i9 _ _ he : ∀ v ∈ fs, xcv h.length v) v z
    · rw [z]; exact xch hc.2
  have hI' := hI.set h3 he hs hce hP hD hS
  have := k2 R Q a1 a2 a3 a4 hE ad H1 locs1 lsA hI' (by rw [List.length_set]; exact ⟨hc.1, xct (xct hc.2)⟩) hl
  rw [List.length_set, xz_set he hs] at this
  exact this
theorem S_gets0 (wd : (Cond.fieldLink own idx RX11 "CHOICES" "[I") ∈ lw_gd) (hdg : decode cc pc = .ok (.getstatic idx, 3)) (k : Sim K L cc own nm nL d hp E (pc + 3) ls (.ref 0 :: st) h X) : Sim K L cc own nm nL d hp E pc ls st h X := by
  obtain ⟨p, l, e, s, m, args, below, meth, c⟩ := K
  obtain ⟨D, tA, base, ro, rd, ad0, n0, z0⟩ := L
  refine Sim.step0 (fun C R Q _ _ _ _ k ad H locs lsA hI hc hl => ?_) k
  obtain ⟨hx, hb, hml, hown, hts, hG, hnm⟩ := C
  have hi := hI
  obtain ⟨i1, i2, i3, -, i5, -, i7, -, -, i10⟩ := hi
  refine va_gets hx hb hG.2.2.1 i3 hown (hts _ wd) (fun _ z => z) hdg ?_
  rw [← i5 0 (by omega)]
  exact k ad H locs lsA hI ⟨hc.1, xcc (xcv_r (by omega)) hc.2⟩ hl
theorem S_gets1 (wd : (Cond.fieldLink own idx RX11 "WIDTHS" "[I") ∈ lw_gd) (hdg : decode cc pc = .ok (.getstatic idx, 3)) (k : Sim K L cc own nm nL d hp E (pc + 3) ls (.ref 1 :: st) h X) : Sim K L cc own nm nL d hp E pc ls st h X := by
  obtain ⟨p, l, e, s, m, args, below, meth, c⟩ := K
  obtain ⟨D, tA, base, ro, rd, ad0, n0, z0⟩ := L
  refine Sim.step0 (fun C R Q _ _ _ _ k ad H locs lsA hI hc hl => ?_) k
  obtain ⟨hx, hb, hml, hown, hts, hG, hnm⟩ := C
  have hi := hI
  obtain ⟨i1, i2, i3, -, i5, -, i7, -, -, i10⟩ := hi
  refine va_gets hx hb hG.2.2.2.1 i3 hown (hts _ wd) (fun _ z => z) hdg ?_
  rw [← i5 1 (by omega)]
  exact k ad H locs lsA hI ⟨hc.1, xcc (xcv_r (by omega)) hc.2⟩ hl
theorem S_getsN1 (hdg : decode cc pc = .ok (.getstatic 71, 3)) (k : Sim K L cc RX1 nm nL d hp E (pc + 3) ls (.ref 1 :: st) h X) : Sim K L cc RX1 nm nL d hp E pc ls st h X := by
  obtain ⟨p, l, e, s, m, args, below, meth, c⟩ := K
  obtain ⟨D, tA, base, ro, rd, ad0, n0, z0⟩ := L
  refine Sim.step0 (fun C R Q _ _ _ _ k ad H locs lsA hI hc hl => ?_) k
  obtain ⟨hx, hb, hml, hown, hts, hG, hnm⟩ := C
  have hi := hI
  obtain ⟨i1, i2, i3, -, i5, -, i7, -, -, i10⟩ := hi
  refine va_getsN hx hb hG.2.2.2.1 i3 hown (va_Nw.use (A := args) rfl hG.2.2.2.2.2.2.2.1) (fun _ z => z) hdg ?_
  rw [← i5 1 (by omega)]
  exact k ad H locs lsA hI ⟨hc.1, xcc (xcv_r (by omega)) hc.2⟩ hl
theorem S_aI {F : Int32 → Option ρ} {i : Int32} (hdg : decode cc pc = .ok (.iaload, 1)) (kk : ∀ v, Sim K L cc own nm nL d hp E (pc + 1) ls (.int v :: st) h (F v)) : Sim K L cc own nm nL d hp E pc ls (.int i :: .ref a :: st) h ((xaI h a i).bind F) := by
  obtain ⟨p, l, e, s, m, args, below, meth, c⟩ := K
  obtain ⟨D, tA, base, ro, rd, ad0, n0, z0⟩ := L
  intro q hq
  obtain ⟨v, h1, h2⟩ := Option.bind_eq_some_iff.mp hq
  obtain ⟨mo, k2⟩ := kk v q h2
  obtain ⟨n, f, he, hin, rfl⟩ := xaI_spec h1
  refine ⟨mo, fun C R Q a1 a2 a3 a4 hE ad H locs lsA hI hc hl => ?_⟩
  have k2 := k2 C
  obtain ⟨hx, hb, hml, hown, hts, hG, hnm⟩ := C
  have hi := hI
  obtain ⟨i1, i2, i3, i4, i5, i6, -⟩ := hi
  have kf := k2 R Q a1 a2 a3 a4 hE ad H locs lsA hI ⟨hc.1, xcc xcv_i (xct (xct hc.2))⟩ hl
  rcases Nat.lt_or_ge a 3 with hl3 | hl3
  · obtain ⟨n', f', u1, u2⟩ := hG.2.2.2.2.2.1 a hl3
    rw [xtake_at i6 hl3, u1] at he
    cases he
    rw [← i5 a hl3] at u2
    exact va_ti hx hb u2 i3 hin rfl hdg kf
  · exact va_iald (f := f) hx hb hG.1 i1 (a - 3) 0 (xw_get hl3 he) rfl hin hdg kf
theorem S_uI {F : xH → Option ρ} {i x : Int32} (hdg : decode cc pc = .ok (.iastore, 1)) (kk : ∀ h1, Sim K L cc own nm nL d hp E (pc + 1) ls st h1 (F h1)) : Sim K L cc own nm nL d hp E pc ls (.int x :: .int i :: .ref a :: st) h ((xuI h a i x).bind F) := by
  obtain ⟨p, l, e, s, m, args, below, meth, c⟩ := K
  obtain ⟨D, tA, base, ro, rd, ad0, n0, z0⟩ := L
  intro q hq
  obtain ⟨h1, e1, e2⟩ := Option.bind_eq_some_iff.mp hq
  obtain ⟨mo, k2⟩ := kk h1 q e2
  obtain ⟨n, f, he, h3, hin, rfl⟩ := xuI_spec e1
  have hs : xs (.inl (0, n, .inl (upd f i.toNatClampNeg x))) = xs (.inl (0, n, .inl f)) := rfl
  rw [List.length_set, xz_set he hs] at mo
  refine ⟨mo, fun C R Q a1 a2 a3 a4 hE ad H locs lsA hI hc hl => ?_⟩
  have k2 := k2 C
  obtain ⟨hx, hb, hml, hown, hts, hG, hnm⟩ := C
  have hi := hI
  obtain ⟨i1, i2, i3, -⟩ := hi
  refine va_iast (f := f) hx hb hG.1 i1 i2 i3 (a - 3) 0 (xw_get h3 he) rfl hin hdg (fun H1 locs1 hP hD hS => ?_)
  have hI' := hI.set (e1 := .inl (0, n, .inl (upd f i.toNatClampNeg x))) h3 he hs trivial hP hD hS
  have := k2 R Q a1 a2 a3 a4 hE ad H1 locs1 lsA hI' (by rw [List.length_set]; exact ⟨hc.1, xct (xct (xct hc.2))⟩) hl
  rw [List.length_set, xz_set he hs] at this
  exact this
theorem S_aZ {F : Int32 → Option ρ} {i : Int32} (hdg : decode cc pc = .ok (.baload, 1)) (kk : ∀ v, Sim K L cc own nm nL d hp E (pc + 1) ls (.int v :: st) h (F v)) : Sim K L cc own nm nL d hp E pc ls (.int i :: .ref a :: st) h ((xaZ h a i).bind F) := by
  obtain ⟨p, l, e, s, m, args, below, meth, c⟩ := K
  obtain ⟨D, tA, base, ro, rd, ad0, n0, z0⟩ := L
  intro q hq
  obtain ⟨v, h1, h2⟩ := Option.bind_eq_some_iff.mp hq
  obtain ⟨mo, k2⟩ := kk v q h2
  obtain ⟨n, f, he, hin, rfl⟩ := xaZ_spec h1
  refine ⟨mo, fun C R Q a1 a2 a3 a4 hE ad H locs lsA hI hc hl => ?_⟩
  have k2 := k2 C
  obtain ⟨hx, hb, hml, hown, hts, hG, hnm⟩ := C
  have h3 := hI.arr hG he (Or.inl Nat.one_ne_zero)
  have hi := hI
  obtain ⟨i1, i2, i3, i4, i5, i6, -⟩ := hi
  exact va_zald (f := f) hx hb hG.1 i1 (a - 3) 1 (xw_get h3 he) rfl hin hdg (k2 R Q a1 a2 a3 a4 hE ad H locs lsA hI ⟨hc.1, xcc xcv_i (xct (xct hc.2))⟩ hl)
theorem S_uZ {F : xH → Option ρ} {i x : Int32} (hdg : decode cc pc = .ok (.bastore, 1)) (kk : ∀ h1, Sim K L cc own nm nL d hp E (pc + 1) ls st h1 (F h1)) : Sim K L cc own nm nL d hp E pc ls (.int x :: .int i :: .ref a :: st) h ((xuZ h a i x).bind F) := by
  obtain ⟨p, l, e, s, m, args, below, meth, c⟩ := K
  obtain ⟨D, tA, base, ro, rd, ad0, n0, z0⟩ := L
  intro q hq
  obtain ⟨h1, e1, e2⟩ := Option.bind_eq_some_iff.mp hq
  obtain ⟨mo, k2⟩ := kk h1 q e2
  obtain ⟨n, f, he, hin, rfl⟩ := xuZ_spec e1
  have hs : xs (.inl (1, n, .inl (upd f i.toNatClampNeg (vp_nar .boolean x)))) = xs (.inl (1, n, .inl f)) := rfl
  rw [List.length_set, xz_set he hs] at mo
  refine ⟨mo, fun C R Q a1 a2 a3 a4 hE ad H locs lsA hI hc hl => ?_⟩
  have k2 := k2 C
  obtain ⟨hx, hb, hml, hown, hts, hG, hnm⟩ := C
  have h3 := hI.arr hG he (Or.inl Nat.one_ne_zero)
  have hi := hI
  obtain ⟨i1, i2, i3, -⟩ := hi
  refine va_zast (f := f) hx hb hG.1 i1 i2 i3 (a - 3) 1 (xw_get h3 he) rfl hin hdg (fun H1 locs1 hP hD hS => ?_)
  have hI' := hI.set (e1 := .inl (1, n, .inl (upd f i.toNatClampNeg (vp_nar .boolean x)))) h3 he hs trivial hP hD hS
  have := k2 R Q a1 a2 a3 a4 hE ad H1 locs1 lsA hI' (by rw [List.length_set]; exact ⟨hc.1, xct (xct (xct hc.2))⟩) hl
  rw [List.length_set, xz_set he hs] at this
  exact this
theorem S_aQ {F : Option Nat → Option ρ} {i : Int32} {t : Nat} {Cn : String} (ht : ∀ tA, (xT tA)[t]? = some (tA t, .object Cn)) (hdg : decode cc pc = .ok (.aaload, 1)) (kn : Sim K L cc own nm nL d hp E (pc + 1) ls (.null :: st) h (F none)) (kk : ∀ v, Sim K L cc own nm nL d hp E (pc + 1) ls (.ref v :: st) h (F (some v))) : Sim K L cc own nm nL d hp E pc ls (.int i :: .ref a :: st) h ((xaQ t h a i).bind F) := by
  obtain ⟨p, l, e, s, m, args, below, meth, c⟩ := K
  obtain ⟨D, tA, base, ro, rd, ad0, n0, z0⟩ := L
  intro q hq
  obtain ⟨r, h1, h2⟩ := Option.bind_eq_some_iff.mp hq
  obtain ⟨n, f, he, hin, hr⟩ := xaQ_spec h1
  have key : ∀ (v : Value), v = va_rf r → Sim (p, l, e, s, m, args, below, meth, c) (D, tA, base, ro, rd, ad0, n0, z0) cc own nm nL d hp E (pc + 1) ls (v :: st) h (F r) := by
    intro v hv
    subst hv
    cases r with
    | none => exact kn
    | some w => exact kk w
  obtain ⟨mo, k2⟩ := key _ rfl q h2
  refine ⟨mo, fun C R Q a1 a2 a3 a4 hE ad H locs lsA hI hc hl => ?_⟩
  have k2 := k2 C
  obtain ⟨hx, hb, hml, hown, hts, hG, hnm⟩ := C
  have h3 := hI.arr hG he (Or.inr (fun _ z => by cases z))
  have hi := hI
  obtain ⟨i1, i2, i3, i4, i5, i6, -, -, i9, -⟩ := hi
  have hcv : xcv h.length (va_rf r) := by
    subst hr
    cases hw : f i.toNatClampNeg with
    | none => exact xcv_n
    | some w => exact xcv_r ((i9 _ _ he : ∀ j a, f j = some a → a < h.length) _ _ hw)
  have kf := k2 R Q a1 a2 a3 a4 hE ad H locs lsA hI ⟨hc.1, xcc hcv (xct (xct hc.2))⟩ hl
  refine va_aldq (f := fun j => (f j).map ad) hx hb hG.1 i1 (a - 3) t (xw_get h3 he) (ht tA) hin hdg ?_
  show W p l e R s m args below meth c H locs _ _ Q (F0 m (pc + 1) lsA (va_rf ((f i.toNatClampNeg).map ad) :: st.map (xv ad)))
  rw [← hr, ← xv_rf]
  exact kf
theorem S_aR {F : Nat → Option ρ} {i : Int32} {t : Nat} {Cn : String} (ht : ∀ tA, (xT tA)[t]? = some (tA t, .object Cn)) (hdg : decode cc pc = .ok (.aaload, 1)) (kk : ∀ v, Sim K L cc own nm nL d hp E (pc + 1) ls (.ref v :: st) h (F v)) : Sim K L cc own nm nL d hp E pc ls (.int i :: .ref a :: st) h ((xaR t h a i).bind F) := by
  have e : (xaR t h a i).bind F = (xaQ t h a i).bind (fun r => r.bind F) := by
    unfold xaR
    rw [Option.bind_assoc]
    rfl
  rw [e]
  exact S_aQ ht hdg Sim.none kk
theorem S_uN {F : xH → Option ρ} {i : Int32} {t : Nat} {Cn : String} (ht : ∀ tA, (xT tA)[t]? = some (tA t, .object Cn)) (hdg : decode cc pc = .ok (.aastore, 1)) (kk : ∀ h1, Sim K L cc own nm nL d hp E (pc + 1) ls st h1 (F h1)) : Sim K L cc own nm nL d hp E pc ls (.null :: .int i :: .ref a :: st) h ((xuQ t h a i none).bind F) := by
  obtain ⟨p, l, e, s, m, args, below, meth, c⟩ := K
  obtain ⟨D, tA, base, ro, rd, ad0, n0, z0⟩ := L
  intro q hq
  obtain ⟨h1, e1, e2⟩ := Option.bind_eq_some_iff.mp hq
  obtain ⟨mo, k2⟩ := kk h1 q e2
  obtain ⟨n, f, he, hin, rfl⟩ := xuQ_spec e1
  have hs : xs (.inl (t, n, .inr (.inr (.inr (.inr (va_up f i.toNatClampNeg none)))))) = xs (.inl (t, n, .inr (.inr (.inr (.inr f))))) := rfl
  rw [List.length_set, xz_set he hs] at mo
  refine ⟨mo, fun C R Q a1 a2 a3 a4 hE ad H locs lsA hI hc hl => ?_⟩
  have k2 := k2 C
  obtain ⟨hx, hb, hml, hown, hts, hG, hnm⟩ := C
  have h3 := hI.arr hG he (Or.inr (fun _ z => by cases z))
  have hi := hI
  obtain ⟨i1, i2, i3, -, -, -, -, -, i9, -⟩ := hi
  refine va_astqN (f := fun j => (f j).map ad) hx hb hG.1 i1 i2 i3 (a - 3) t (xw_get h3 he) (ht tA) hin hdg (fun H1 locs1 hP hD hS => ?_)
  have em : va_up (fun j => (f j).map ad) i.toNatClampNeg none = fun j => (va_up f i.toNatClampNeg none j).map ad := by
    funext j
    unfold va_up
    split <;> rfl
  rw [em] at hP hD
  have hce : xce h.length (.inl (t, n, .inr (.inr (.inr (.inr (va_up f i.toNatClampNeg none)))))) := fun j w hw => by
    unfold va_up at hw
    split at hw
    · cases hw
    · exact (i9 _ _ he : ∀ j a, f j = some a → a < h.length) _ _ hw
  have hI' := hI.set h3 he hs hce hP hD hS
  have := k2 R Q a1 a2 a3 a4 hE ad H1 locs1 lsA hI' (by rw [List.length_set]; exact ⟨hc.1, xct (xct (xct hc.2))⟩) hl
  rw [List.length_set, xz_set he hs] at this
  exact this
/-- a reference is stored into an array of its own class, or of one that it can be cast to -/
theorem S_uR {F : xH → Option ρ} {i : Int32} {t b ci : Nat} {q0 : vw_C} {Cn : String} (ht : ∀ tA, (xT tA)[t]? = some (tA t, .object Cn)) (hk : xk h b = some ci) (hq0 : vwCl[ci]? = some q0) (hcst : q0.1 = Cn ∨ (q0.1, Cn) ∈ xNC) (hdg : decode cc pc = .ok (.aastore, 1)) (kk : ∀ h1, Sim K L cc own nm nL d hp E (pc + 1) ls st h1 (F h1)) : Sim K L cc own nm nL d hp E pc ls (.ref b :: .int i :: .ref a :: st) h ((xuQ t h a i (some b)).bind F) := by
  obtain ⟨p, l, e, s, m, args, below, meth, c⟩ := K
  obtain ⟨D, tA, base, ro, rd, ad0, n0, z0⟩ := L
  intro q hq
  obtain ⟨h1, e1, e2⟩ := Option.bind_eq_some_iff.mp hq
  obtain ⟨mo, k2⟩ := kk h1 q e2
  obtain ⟨n, f, he, hin, rfl⟩ := xuQ_spec e1
  obtain ⟨fs, hb0⟩ := xk_spec hk
  have hs : xs (.inl (t, n, .inr (.inr (.inr (.inr (va_up f i.toNatClampNeg (some b))))))) = xs (.inl (t, n, .inr (.inr (.inr (.inr f))))) := rfl
  rw [List.length_set, xz_set he hs] at mo
  refine ⟨mo, fun C R Q a1 a2 a3 a4 hE ad H locs lsA hI hc hl => ?_⟩
  have k2 := k2 C
  obtain ⟨hx, hb, hml, hown, hts, hG, hnm⟩ := C
  have h3 := hI.arr hG he (Or.inr (fun _ z => by cases z))
  have h3b := hI.obj hG hb0
  have hi := hI
  obtain ⟨i1, i2, i3, -, -, -, -, -, i9, -⟩ := hi
  have fin : ∀ (H1 : Heap) (locs1 : List Loc), va_P D vwCl ((xw tA ad h).set (a - 3) (ad a, .inl (tA t, n, .inr (.inr (.inr (.inr (va_up (fun j => (f j).map ad) i.toNatClampNeg (some (ad b))))))))) H1 → va_D (fun q => base ≤ q) ((xw tA ad h).set (a - 3) (ad a, .inl (tA t, n, .inr (.inr (.inr (.inr (va_up (fun j => (f j).map ad) i.toNatClampNeg (some (ad b))))))))) → va_S (fun q => base ≤ q) s.heap H1 locs1 → W p l e R s m args below meth c H1 locs1 (h.length - n0) (xz h - z0) Q (F0 m (pc + 1) lsA (st.map (xv ad))) := by
    intro H1 locs1 hP hD hS
    have em : va_up (fun j => (f j).map ad) i.toNatClampNeg (some (ad b)) = fun j => (va_up f i.toNatClampNeg (some b) j).map ad := by
      funext j
      unfold va_up
      split <;> rfl
    rw [em] at hP hD
    have hce : xce h.length (.inl (t, n, .inr (.inr (.inr (.inr (va_up f i.toNatClampNeg (some b))))))) := fun j w hw => by
      unfold va_up at hw
      split at hw
      · cases hw; exact xch hc.2 b rfl
      · exact (i9 _ _ he : ∀ j a, f j = some a → a < h.length) _ _ hw
    have hI' := hI.set h3 he hs hce hP hD hS
    have := k2 R Q a1 a2 a3 a4 hE ad H1 locs1 lsA hI' (by rw [List.length_set]; exact ⟨hc.1, xct (xct (xct hc.2))⟩) hl
    rw [List.length_set, xz_set he hs] at this
    exact this
  rcases hcst with z | z
  · subst z
    exact va_astq (f := fun j => (f j).map ad) hx hb hG.1 i1 i2 i3 (a - 3) t (b - 3) ci (xw_get h3 he) (ht tA) (xw_get h3b hb0) hq0 hin hdg fin
  · exact va_astqO (f := fun j => (f j).map ad) hx hb hG.1 i1 i2 i3 (a - 3) t (b - 3) ci (xw_get h3 he) (ht tA) (hG.2.2.2.2.2.2.2.2.2.1 _ z) (xw_get h3b hb0) hq0 hin hdg fin
theorem S_aL {F : Int32 → Option ρ} (hdg : decode cc pc = .ok (.arraylength, 1)) (kk : ∀ v, Sim K L cc own nm nL d hp E (pc + 1) ls (.int v :: st) h (F v)) : Sim K L cc own nm nL d hp E pc ls (.ref a :: st) h ((xaL h a).bind F) := by
  obtain ⟨p, l, e, s, m, args, below, meth, c⟩ := K
  obtain ⟨D, tA, base, ro, rd, ad0, n0, z0⟩ := L
  intro q hq
  obtain ⟨v, h1, h2⟩ := Option.bind_eq_some_iff.mp hq
  obtain ⟨mo, k2⟩ := kk v q h2
  obtain ⟨n, f, he, hv⟩ := xaL_spec h1
  refine ⟨mo, fun C R Q a1 a2 a3 a4 hE ad H locs lsA hI hc hl => ?_⟩
  have k2 := k2 C
  obtain ⟨hx, hb, hml, hown, hts, hG, hnm⟩ := C
  have hi := hI
  obtain ⟨i1, i2, i3, i4, i5, i6, -⟩ := hi
  have kf := k2 R Q a1 a2 a3 a4 hE ad H locs lsA hI ⟨hc.1, xcc xcv_i (xct hc.2)⟩ hl
  rcases Nat.lt_or_ge a 3 with hl3 | hl3
  · obtain ⟨n', f', u1, u2⟩ := hG.2.2.2.2.2.1 a hl3
    rw [xtake_at i6 hl3, u1] at he
    cases he
    rw [← i5 a hl3] at u2
    exact va_tlen hx hb u2 i3 hv hdg kf
  · exact va_alen (x := (n, .inl f)) hx hb hG.1 i1 (a - 3) 0 (xw_get hl3 he) (ty := .int) rfl hv hdg kf
end XHEAP
end
section
theorem xT_dom (tA : Nat → Nat) {t : Nat} {ty : FieldType} {cA : ClassId} (h : (xT tA)[t]? = some (cA, ty)) : cA = tA t := by
  match t, h with
  | 0, h => cases h; rfl
  | 1, h => cases h; rfl
  | 2, h => cases h; rfl
  | 3, h => cases h; rfl
  | 4, h => cases h; rfl
section XALLOC
variable {ρ : Type} {K : xK} {L : xL} {nm : String} {nL d : Nat} {hp : ρ → xH} {E : xE ρ} {pc : Nat} {ls : List (Nat × Value)} {st : List Value} {h : xH} {X : Option ρ} {cc : ByteArray} {own : String} {a idx : Nat}
theorem S_new {ci N : Nat} {Cn : String} {T : u_T} {ty0 : Nat → FieldType} {fs : List Value} (f1 : vwCl[ci]? = some (Cn, T, N)) (f4 : ∀ w ∈ u_ws Cn T N, w ∈ lw_gd) (f5 : ∀ k, k < N → parseFieldDescriptor (T k).2.2.1 = some (ty0 k)) (wcl : (Cond.classLink own idx Cn) ∈ lw_gd) (wins : (Cond.instantiable Cn N) ∈ lw_gd) (wini : (Cond.initialized Cn) ∈ lw_gd) (hfs : ∀ j, j < N → defaultValue (ty0 j) = vp_V fs j) (hfl : fs.length = N) (hfm : ∀ ad, fs.map (xv ad) = fs) (hfc : ∀ n, ∀ v ∈ fs, xcv n v) (hdg : decode cc pc = .ok (.new idx, 3)) (k : Sim K L cc own nm nL d hp E (pc + 3) ls (.ref h.length :: st) (h ++ [.inr (ci, fs)]) X) : Sim K L cc own nm nL d hp E pc ls st h X := by
  obtain ⟨p, l, e, s, m, args, below, meth, c⟩ := K
  obtain ⟨D, tA, base, ro, rd, ad0, n0, z0⟩ := L
  have hsz : xz (h ++ [.inr (ci, fs)]) = xz h + N := by rw [xz_push]; show xz h + fs.length = xz h + N; rw [hfl]
  refine Sim.step (h' := h ++ [.inr (ci, fs)]) ⟨by rw [List.length_append]; omega, by rw [hsz]; omega⟩ (fun C R Q b1 b2 b3 b4 k ad H locs lsA hI hc hl => ?_) k
  obtain ⟨hx, hb, hml, hown, hts, hG, hnm⟩ := C
  have hi := hI
  obtain ⟨i1, i2, i3, -, -, -, i7, i8, -, -⟩ := hi
  rw [hsz] at b4
  have b3' : h.length + 1 - n0 ≤ R.cells := by have := b3; rw [List.length_append] at this; exact this
  have b4' : xz h + N - z0 ≤ R.slots := b4
  refine va_new (D := D) (T := T) (fs := fs) hx hb hts f4 ty0 f5 hown (hts _ wcl) (hts _ wins) (hts _ wini) hG.1 i1 i2 i3 (fun q hq => Nat.le_trans hG.2.1 hq) f1 hfs (by show h.length - n0 + 1 ≤ R.cells; omega) (by show xz h - z0 + N ≤ R.slots; omega) hdg (fun q H1 hP hD hS => ?_)
  have em : xe tA ad (.inr (ci, fs)) = .inr (ci, fs) := by show Sum.inr (ci, fs.map (xv ad)) = _; rw [hfm]
  rw [← em] at hP hD
  obtain ⟨hI', hag⟩ := hI.push (e1 := .inr (ci, fs)) (hfc h.length) hP hD hS
  have kf := k (va_up ad h.length q) H1 locs lsA hI' ⟨fun q hq => xcv_le (by rw [List.length_append]; omega) (hc.1 q hq), xcc (xcv_r (by rw [List.length_append]; exact Nat.lt_succ_self _)) (fun v hv => xcv_le (by rw [List.length_append]; omega) (hc.2 v hv))⟩ (by rw [xl_agree hc.1 hag]; exact hl)
  have e1 : (h ++ [(.inr (ci, fs) : va_E)]).length - n0 = h.length - n0 + 1 := by rw [List.length_append]; show h.length + 1 - n0 = _; omega
  have e2 : xz (h ++ [.inr (ci, fs)]) - z0 = xz h - z0 + N := by rw [hsz]; omega
  have e3 : (Value.ref h.length :: st).map (xv (va_up ad h.length q)) = .ref q :: st.map (xv ad) := by
    show Value.ref (va_up ad h.length q h.length) :: st.map (xv (va_up ad h.length q)) = _
    rw [xm_agree hc.2 hag]
    unfold va_up
    rw [if_pos rfl]
  change W p l e R s m args below meth c H1 locs ((h ++ [(.inr (ci, fs) : va_E)]).length - n0) (xz (h ++ [.inr (ci, fs)]) - z0) Q (F0 m (pc + 3) lsA ((Value.ref h.length :: st).map (xv (va_up ad h.length q)))) at kf
  rw [e1, e2, e3] at kf
  exact kf
theorem S_newI {n : Int32} {N : Nat} (w : (Cond.arrayClass .int) ∈ lw_gd) (hn : ¬ n < 0) (hN : n.toNatClampNeg = N) (hb4 : N * componentBytes .int ≤ 536870912) (hdg : decode cc pc = .ok (.newarray .int, 2)) (k : Sim K L cc own nm nL d hp E (pc + 2) ls (.ref h.length :: st) (h ++ [xaI0 N]) X) : Sim K L cc own nm nL d hp E pc ls (.int n :: st) h X := by
  obtain ⟨p, l, e, s, m, args, below, meth, c⟩ := K
  obtain ⟨D, tA, base, ro, rd, ad0, n0, z0⟩ := L
  have hsz : xz (h ++ [xaI0 N]) = xz h + N := by rw [xz_push]; rfl
  refine Sim.step (h' := h ++ [xaI0 N]) ⟨by rw [List.length_append]; omega, by rw [hsz]; omega⟩ (fun C R Q b1 b2 b3 b4 k ad H locs lsA hI hc hl => ?_) k
  obtain ⟨hx, hb, hml, hown, hts, hG, hnm⟩ := C
  have hi := hI
  obtain ⟨i1, i2, i3, -, -, -, i7, i8, -, -⟩ := hi
  rw [hsz] at b4
  have b3' : h.length + 1 - n0 ≤ R.cells := by have := b3; rw [List.length_append] at this; exact this
  have b4' : xz h + N - z0 ≤ R.slots := b4
  refine va_newa (atype := .int) (ty := .int) (a0 := (N, .inl (fun _ => 0))) (D := D) hx hb (hts _ w) rfl hG.1 i1 i2 i3 (fun q hq => Nat.le_trans hG.2.1 hq) (fun _ => rfl) hn hN hb4 (by show h.length - n0 + 1 ≤ R.cells; omega) (by show xz h - z0 + N ≤ R.slots; omega) hdg (fun q cA H1 hK hP hD hS => ?_)
  have hcA : cA = tA 0 := Option.some.inj (((hK.2 5 (cA, .int) rfl).2 : s.vm.findClass _ = some cA).symm.trans ((hG.1.2 0 (tA 0, .int) rfl).2 : s.vm.findClass _ = some (tA 0)))
  subst hcA
  obtain ⟨hI', hag⟩ := hI.push (e1 := xaI0 N) trivial hP hD hS
  have kf := k (va_up ad h.length q) H1 locs lsA hI' ⟨fun q hq => xcv_le (by rw [List.length_append]; omega) (hc.1 q hq), xcc (xcv_r (by rw [List.length_append]; exact Nat.lt_succ_self _)) (fun v hv => xcv_le (by rw [List.length_append]; omega) (xct hc.2 v hv))⟩ (by rw [xl_agree hc.1 hag]; exact hl)
  have e1 : (h ++ [xaI0 N]).length - n0 = h.length - n0 + 1 := by rw [List.length_append]; show h.length + 1 - n0 = _; omega
  have e2 : xz (h ++ [xaI0 N]) - z0 = xz h - z0 + N := by rw [hsz]; omega
  have e3 : (Value.ref h.length :: st).map (xv (va_up ad h.length q)) = .ref q :: st.map (xv ad) := by
    show Value.ref (va_up ad h.length q h.length) :: st.map (xv (va_up ad h.length q)) = _
    rw [xm_agree (xct hc.2) hag]
    unfold va_up
    rw [if_pos rfl]
  change W p l e R s m args below meth c H1 locs ((h ++ [xaI0 N]).length - n0) (xz (h ++ [xaI0 N]) - z0) Q (F0 m (pc + 2) lsA ((Value.ref h.length :: st).map (xv (va_up ad h.length q)))) at kf
  rw [e1, e2, e3] at kf
  exact kf
theorem S_newZ {n : Int32} {N : Nat} (w : (Cond.arrayClass .boolean) ∈ lw_gd) (hn : ¬ n < 0) (hN : n.toNatClampNeg = N) (hb4 : N * componentBytes .boolean ≤ 536870912) (hdg : decode cc pc = .ok (.newarray .boolean, 2)) (k : Sim K L cc own nm nL d hp E (pc + 2) ls (.ref h.length :: st) (h ++ [xaZ0 N]) X) : Sim K L cc own nm nL d hp E pc ls (.int n :: st) h X := by
  obtain ⟨p, l, e, s, m, args, below, meth, c⟩ := K
  obtain ⟨D, tA, base, ro, rd, ad0, n0, z0⟩ := L
  have hsz : xz (h ++ [xaZ0 N]) = xz h + N := by rw [xz_push]; rfl
  refine Sim.step (h' := h ++ [xaZ0 N]) ⟨by rw [List.length_append]; omega, by rw [hsz]; omega⟩ (fun C R Q b1 b2 b3 b4 k ad H locs lsA hI hc hl => ?_) k
  obtain ⟨hx, hb, hml, hown, hts, hG, hnm⟩ := C
  have hi := hI
  obtain ⟨i1, i2, i3, -, -, -, i7, i8, -, -⟩ := hi
  rw [hsz] at b4
  have b3' : h.length + 1 - n0 ≤ R.cells := by have := b3; rw [List.length_append] at this; exact this
  have b4' : xz h + N - z0 ≤ R.slots := b4
  refine va_newa (atype := .boolean) (ty := .boolean) (a0 := (N, .inl (fun _ => 0))) (D := D) hx hb (hts _ w) rfl hG.1 i1 i2 i3 (fun q hq => Nat.le_trans hG.2.1 hq) (fun _ => rfl) hn hN hb4 (by show h.length - n0 + 1 ≤ R.cells; omega) (by show xz h - z0 + N ≤ R.slots; omega) hdg (fun q cA H1 hK hP hD hS => ?_)
  have hcA : cA = tA 1 := Option.some.inj (((hK.2 5 (cA, .boolean) rfl).2 : s.vm.findClass _ = some cA).symm.trans ((hG.1.2 1 (tA 1, .boolean) rfl).2 : s.vm.findClass _ = some (tA 1)))
  subst hcA
  obtain ⟨hI', hag⟩ := hI.push (e1 := xaZ0 N) trivial hP hD hS
  have kf := k (va_up ad h.length q) H1 locs lsA hI' ⟨fun q hq => xcv_le (by rw [List.length_append]; omega) (hc.1 q hq), xcc (xcv_r (by rw [List.length_append]; exact Nat.lt_succ_self _)) (fun v hv => xcv_le (by rw [List.length_append]; omega) (xct hc.2 v hv))⟩ (by rw [xl_agree hc.1 hag]; exact hl)
  have e1 : (h ++ [xaZ0 N]).length - n0 = h.length - n0 + 1 := by rw [List.length_append]; show h.length + 1 - n0 = _; omega
  have e2 : xz (h ++ [xaZ0 N]) - z0 = xz h - z0 + N := by rw [hsz]; omega
  have e3 : (Value.ref h.length :: st).map (xv (va_up ad h.length q)) = .ref q :: st.map (xv ad) := by
    show Value.ref (va_up ad h.length q h.length) :: st.map (xv (va_up ad h.length q)) = _
    rw [xm_agree (xct hc.2) hag]
    unfold va_up
    rw [if_pos rfl]
  change W p l e R s m args below meth c H1 locs ((h ++ [xaZ0 N]).length - n0) (xz (h ++ [xaZ0 N]) - z0) Q (F0 m (pc + 2) lsA ((Value.ref h.length :: st).map (xv (va_up ad h.length q)))) at kf
  rw [e1, e2, e3] at kf
  exact kf
theorem S_newQ {n : Int32} {N t : Nat} {Cn : String} (ht : ∀ tA, (xT tA)[t]? = some (tA t, .object Cn)) (hao : Cn ∈ xAO) (wcl : (Cond.classLink own idx Cn) ∈ lw_gd) (hn : ¬ n < 0) (hN : n.toNatClampNeg = N) (hb4 : N * 4 ≤ 536870912) (hdg : decode cc pc = .ok (.anewarray idx, 3)) (k : Sim K L cc own nm nL d hp E (pc + 3) ls (.ref h.length :: st) (h ++ [xaR0 t N]) X) : Sim K L cc own nm nL d hp E pc ls (.int n :: st) h X := by
  obtain ⟨p, l, e, s, m, args, below, meth, c⟩ := K
  obtain ⟨D, tA, base, ro, rd, ad0, n0, z0⟩ := L
  have hsz : xz (h ++ [xaR0 t N]) = xz h + N := by rw [xz_push]; rfl
  refine Sim.step (h' := h ++ [xaR0 t N]) ⟨by rw [List.length_append]; omega, by rw [hsz]; omega⟩ (fun C R Q b1 b2 b3 b4 k ad H locs lsA hI hc hl => ?_) k
  obtain ⟨hx, hb, hml, hown, hts, hG, hnm⟩ := C
  have hi := hI
  obtain ⟨i1, i2, i3, -, -, -, i7, i8, -, -⟩ := hi
  rw [hsz] at b4
  have b3' : h.length + 1 - n0 ≤ R.cells := by have := b3; rw [List.length_append] at this; exact this
  have b4' : xz h + N - z0 ≤ R.slots := b4
  refine va_newq (D := D) hx hb hown (hts _ wcl) (hG.2.2.2.2.2.2.2.2.2.2.2 _ hao) hG.1 i1 i2 i3 (fun q hq => Nat.le_trans hG.2.1 hq) hn hN hb4 (by show h.length - n0 + 1 ≤ R.cells; omega) (by show xz h - z0 + N ≤ R.slots; omega) hdg (fun q cA H1 hK hP hD hS => ?_)
  have hcA : cA = tA t := by
    obtain ⟨-, -, -, -, -, u1⟩ := ((hK.2 5 (cA, .object Cn) rfl).2 : va_RA s cA (.object Cn))
    obtain ⟨-, -, -, -, -, u2⟩ := ((hG.1.2 t (tA t, .object Cn) (ht tA)).2 : va_RA s (tA t) (.object Cn))
    exact Option.some.inj (u1.symm.trans u2)
  subst hcA
  obtain ⟨hI', hag⟩ := hI.push (e1 := xaR0 t N) (fun j a hj => by cases hj) hP hD hS
  have kf := k (va_up ad h.length q) H1 locs lsA hI' ⟨fun q hq => xcv_le (by rw [List.length_append]; omega) (hc.1 q hq), xcc (xcv_r (by rw [List.length_append]; exact Nat.lt_succ_self _)) (fun v hv => xcv_le (by rw [List.length_append]; omega) (xct hc.2 v hv))⟩ (by rw [xl_agree hc.1 hag]; exact hl)
  have e1 : (h ++ [xaR0 t N]).length - n0 = h.length - n0 + 1 := by rw [List.length_append]; show h.length + 1 - n0 = _; omega
  have e2 : xz (h ++ [xaR0 t N]) - z0 = xz h - z0 + N := by rw [hsz]; omega
  have e3 : (Value.ref h.length :: st).map (xv (va_up ad h.length q)) = .ref q :: st.map (xv ad) := by
    show Value.ref (va_up ad h.length q h.length) :: st.map (xv (va_up ad h.length q)) = _
    rw [xm_agree (xct hc.2) hag]
    unfold va_up
    rw [if_pos rfl]
  change W p l e R s m args below meth c H1 locs ((h ++ [xaR0 t N]).length - n0) (xz (h ++ [xaR0 t N]) - z0) Q (F0 m (pc + 3) lsA ((Value.ref h.length :: st).map (xv (va_up ad h.length q)))) at kf
  rw [e1, e2, e3] at kf
  exact kf
theorem S_objInit (hd : 1 ≤ d) (wl : (Cond.methodLink own idx objectInit) ∈ lw_gd) (wi : (Cond.instanceMethod objectInit) ∈ lw_gd) (wc : (Cond.code objectInit ⟨#[0xb1]⟩ 1 none) ∈ lw_gd) (hcat : (st.map fun v => v.category).sum ≤ 8) (hdg : decode cc pc = .ok (.invokespecial idx, 3)) (k : Sim K L cc own nm nL d hp E (pc + 3) ls st h X) : Sim K L cc own nm nL d hp E pc ls (.ref a :: st) h X := by
  obtain ⟨p, l, e, s, m, args, below, meth, c⟩ := K
  obtain ⟨D, tA, base, ro, rd, ad0, n0, z0⟩ := L
  refine Sim.step0 (fun C R Q b1 b2 _ _ k ad H locs lsA hI hc hl => ?_) k
  obtain ⟨hx, hb, hml, hown, hts, hG, hnm⟩ := C
  have hr : 2 * (F0 m pc lsA ((Value.ref a :: st).map (xv ad))).monitorRoom + ((st.map (xv ad)).map fun v => v.category).sum ≤ 8 := lv_room (by rw [x_cat]; exact hcat)
  refine W.objInit hx hb hown (hts _ wl) (hts _ wi) (hts _ wc) rfl (by rw [hml]; exact hl.1) rfl hdg (by omega) (by omega) ?_
  exact k ad H locs lsA hI ⟨hc.1, xct hc.2⟩ hl
theorem S_acp {F : xH → Option ρ} {b : Nat} {sp dp n : Int32} (hd : 1 ≤ d) (wl : (Cond.methodLink own idx arraycopyName) ∈ lw_gd) (w1 : (Cond.native arraycopyName) ∈ lw_gd) (w2 : (Cond.static arraycopyName) ∈ lw_gd) (w3 : (Cond.initialized "java/lang/System") ∈ lw_gd) (hcat : (st.map fun v => v.category).sum ≤ 8) (hdg : decode cc pc = .ok (.invokestatic idx, 3)) (kk : ∀ h1, Sim K L cc own nm nL d hp E (pc + 3) ls st h1 (F h1)) : Sim K L cc own nm nL d hp E pc ls (.int n :: .int dp :: .ref b :: .int sp :: .ref a :: st) h ((xcp h a sp b dp n).bind F) := by
  obtain ⟨p, l, e, s, m, args, below, meth, c⟩ := K
  obtain ⟨D, tA, base, ro, rd, ad0, n0, z0⟩ := L
  intro q hq
  obtain ⟨h1, e1, e2⟩ := Option.bind_eq_some_iff.mp hq
  obtain ⟨mo, k2⟩ := kk h1 q e2
  obtain ⟨N0, f, N1, g, he, hg, h3a, h3b, g1, g2, g3, g4, g5, rfl⟩ := xcp_spec e1
  have hs : xs (.inl (0, N1, .inl (va_cpy f g sp.toNatClampNeg dp.toNatClampNeg n.toNatClampNeg))) = xs (.inl (0, N1, .inl g)) := rfl
  rw [List.length_set, xz_set hg hs] at mo
  refine ⟨mo, fun C R Q a1 a2 a3 a4 hE ad H locs lsA hI hc hl => ?_⟩
  have k2 := k2 C
  obtain ⟨hx, hb, hml, hown, hts, hG, hnm⟩ := C
  have hi := hI
  obtain ⟨i1, i2, i3, -⟩ := hi
  refine va_copyi (f := f) (g := g) (ty := .int) hx hb (by rw [hml]; exact hl.1.symm) hown (hts _ wl) (hts _ w1) (hts _ w2) (hts _ w3) hG.1 i1 i2 i3 (a - 3) (b - 3) 0 0 (xw_get h3a he) (xw_get h3b hg) rfl rfl rfl g1 g2 g3 g4 g5 (fun _ _ => rfl) (by omega) (by rw [x_cat]; show _ + (7 + 11) ≤ R.locals; omega) hdg (fun H1 locs1 hP hD hS => ?_)
  have hI' := hI.set (e1 := .inl (0, N1, .inl (va_cpy f g sp.toNatClampNeg dp.toNatClampNeg n.toNatClampNeg))) h3b hg hs trivial hP hD hS
  have := k2 R Q a1 a2 a3 a4 hE ad H1 locs1 lsA hI' (by rw [List.length_set]; exact ⟨hc.1, xct (xct (xct (xct (xct hc.2))))⟩) hl
  rw [List.length_set, xz_set hg hs] at this
  exact this
theorem S_mmax {x y : Int32} (hd : 1 ≤ d) (wl : (Cond.methodLink own idx Lib.Math.max.name) ∈ lw_gd) (wt : (Cond.static Lib.Math.max.name) ∈ lw_gd) (wi : (Cond.initialized "java/lang/Math") ∈ lw_gd) (wc : (Cond.code Lib.Math.max.name Lib.Math.max.code 2 (some .int)) ∈ lw_gd) (hcat : (st.map fun v => v.category).sum ≤ 8) (hdg : decode cc pc = .ok (.invokestatic idx, 3)) (k : Sim K L cc own nm nL d hp E (pc + 3) ls (.int (if x < y then y else x) :: st) h X) : Sim K L cc own nm nL d hp E pc ls (.int y :: .int x :: st) h X := by
  obtain ⟨p, l, e, s, m, args, below, meth, c⟩ := K
  obtain ⟨D, tA, base, ro, rd, ad0, n0, z0⟩ := L
  refine Sim.step0 (fun C R Q b1 b2 b3 b4 k ad H locs lsA hI hc hl => ?_) k
  obtain ⟨hx, hb, hml, hown, hts, hG, hnm⟩ := C
  exact va_mmax hx hb (by rw [hml]; exact hl.1.symm) hown (hts _ wl) (hts _ wt) (hts _ wi) (hts _ wc) (by omega) (by rw [x_cat]; omega) b3 b4 hdg (k ad H locs lsA hI ⟨hc.1, xcc xcv_i (xct (xct hc.2))⟩ hl)
theorem S_mmin {x y : Int32} (hd : 1 ≤ d) (wl : (Cond.methodLink own idx Lib.Math.min.name) ∈ lw_gd) (wt : (Cond.static Lib.Math.min.name) ∈ lw_gd) (wi : (Cond.initialized "java/lang/Math") ∈ lw_gd) (wc : (Cond.code Lib.Math.min.name Lib.Math.min.code 2 (some .int)) ∈ lw_gd) (hcat : (st.map fun v => v.category).sum ≤ 8) (hdg : decode cc pc = .ok (.invokestatic idx, 3)) (k : Sim K L cc own nm nL d hp E (pc + 3) ls (.int (if y < x then y else x) :: st) h X) : Sim K L cc own nm nL d hp E pc ls (.int y :: .int x :: st) h X := by
  obtain ⟨p, l, e, s, m, args, below, meth, c⟩ := K
  obtain ⟨D, tA, base, ro, rd, ad0, n0, z0⟩ := L
  refine Sim.step0 (fun C R Q b1 b2 b3 b4 k ad H locs lsA hI hc hl => ?_) k
  obtain ⟨hx, hb, hml, hown, hts, hG, hnm⟩ := C
  exact va_mmin hx hb (by rw [hml]; exact hl.1.symm) hown (hts _ wl) (hts _ wt) (hts _ wi) (hts _ wc) (by omega) (by rw [x_cat]; omega) b3 b4 hdg (k ad H locs lsA hI ⟨hc.1, xcc xcv_i (xct (xct hc.2))⟩ hl)
def xio (ys ns : List Nat) (h : xH) (a : Nat) : Option Int32 := match xk h a with
  | some ci => if ys.elem ci = true then some 1 else if ns.elem ci = true then some 0 else none
  | none => none
theorem S_inst {F : Int32 → Option ρ} {ys ns : List Nat} {tn : String} (wl : (Cond.classLink own idx tn) ∈ lw_gd) (hys : ∀ ci ∈ ys, ∃ q, vwCl[ci]? = some q ∧ (q.1 = tn ∨ (q.1, tn) ∈ xNC)) (hns : ∀ ci ∈ ns, ∃ q, vwCl[ci]? = some q ∧ (q.1, tn) ∈ xNc) (hdg : decode cc pc = .ok (.instanceof idx, 3)) (kk : ∀ v, Sim K L cc own nm nL d hp E (pc + 3) ls (.int v :: st) h (F v)) : Sim K L cc own nm nL d hp E pc ls (.ref a :: st) h ((xio ys ns h a).bind F) := by
  obtain ⟨p, l, e, s, m, args, below, meth, c⟩ := K
  obtain ⟨D, tA, base, ro, rd, ad0, n0, z0⟩ := L
  intro q hq
  obtain ⟨v, e1, e2⟩ := Option.bind_eq_some_iff.mp hq
  obtain ⟨mo, k2⟩ := kk v q e2
  refine ⟨mo, fun C R Q a1 a2 a3 a4 hE ad H locs lsA hI hc hl => ?_⟩
  have k2 := k2 C
  obtain ⟨hx, hb, hml, hown, hts, hG, hnm⟩ := C
  have kf := k2 R Q a1 a2 a3 a4 hE ad H locs lsA hI ⟨hc.1, xcc xcv_i (xct hc.2)⟩ hl
  unfold xio at e1
  split at e1
  · next ci hk =>
    obtain ⟨fs, he⟩ := xk_spec hk
    have h3 := hI.obj hG he
    have hi := hI
    obtain ⟨i1, -⟩ := hi
    split at e1
    · next hy =>
      cases e1
      obtain ⟨q0, u1, u2⟩ := hys ci (List.mem_of_elem_eq_true hy)
      have hrc := va_recv hG.1 i1 u1 (xw_get (tA := tA) (ad := ad) h3 he)
      rcases u2 with z | z
      · subst z
        exact va_instS hx hb hown (hts _ wl) (hG.1.1 ci q0 u1).2 hrc hdg kf
      · exact va_instY hx hb hown (hts _ wl) (hG.2.2.2.2.2.2.2.2.2.1 _ z) hrc hdg kf
    · split at e1
      · next hn =>
        cases e1
        obtain ⟨q0, u1, u2⟩ := hns ci (List.mem_of_elem_eq_true hn)
        have hrc := va_recv hG.1 i1 u1 (xw_get (tA := tA) (ad := ad) h3 he)
        exact va_instNo hx hb hown (hts _ wl) (hG.2.2.2.2.2.2.2.2.2.2.1 _ u2) hrc hdg kf
      · cases e1
  · cases e1
end XALLOC
/-! a method's contract out of the walk of its body -/
theorem xl_args (ad : Nat → Nat) (i : Nat) (av : List Value) : xl ad (lv_args i av) = lv_args i (av.map (xv ad)) := by
  induction av generalizing i with
  | nil => rfl
  | cons v vs ih =>
    show (i, xv ad v) :: xl ad (lv_args (if v.category = 2 then i + 2 else i + 1) vs) = (i, xv ad v) :: lv_args (if (xv ad v).category = 2 then i + 2 else i + 1) (vs.map (xv ad))
    rw [xv_cat, ih]
theorem x_sl (ad : Nat → Nat) (av : List Value) : (lg_sl (av.map (xv ad))).length = (lg_sl av).length := by
  induction av with
  | nil => rfl
  | cons v vs ih =>
    have e : ∀ (w : Value) (ws : List Value), (lg_sl (w :: ws)).length = (if w.category = 2 then 2 else 1) + (lg_sl ws).length := by
      intro w ws
      simp only [lg_sl, List.flatMap_cons, List.length_append]
      split <;> rfl
    rw [List.map_cons, e, e, xv_cat, ih]
theorem lv_args_mem {n : Nat} : ∀ (av : List Value) (i : Nat), (∀ v ∈ av, xcv n v) → ∀ q ∈ lv_args i av, xcv n q.2
  | [], _, _, q, hq => by cases hq
  | v :: vs, i, h, q, hq => by
    rcases List.mem_cons.mp hq with e | e
    · rw [e]; exact h v List.mem_cons_self
    · exact lv_args_mem vs _ (fun w hw => h w (List.mem_cons_of_mem _ hw)) q e
/-- how a method ends: an int, a boolean, a long, a reference, nothing -/
abbrev xRi (cc : ByteArray) : xE (Int32 × xH) := fun q pc _ st h => decode cc pc = .ok (.ireturn, 1) ∧ st = [.int q.1] ∧ h = q.2
abbrev xRz (cc : ByteArray) : xE (Int32 × xH) := fun q pc _ st h => decode cc pc = .ok (.ireturn, 1) ∧ st = [.int q.1] ∧ h = q.2 ∧ narrow .boolean (.int q.1) = .int q.1
abbrev xRl (cc : ByteArray) : xE (Int64 × xH) := fun q pc _ st h => decode cc pc = .ok (.lreturn, 1) ∧ st = [.long q.1] ∧ h = q.2
abbrev xRr (cc : ByteArray) : xE (Nat × xH) := fun q pc _ st h => decode cc pc = .ok (.areturn, 1) ∧ st = [.ref q.1] ∧ h = q.2
abbrev xRv (cc : ByteArray) : xE xH := fun q pc _ st h => decode cc pc = .ok (.return_, 1) ∧ st = [] ∧ h = q
theorem xM_of {ρ : Type} {l : Launch} {y : MethodName} {cc : ByteArray} {nL d : Nat} {ret : Option FieldType} {av : List Value} {h : xH} {Y : Option ρ} {hp : ρ → xH} {rv : ρ → Option Value} {E : xE ρ} (hy : plainName y.cls = true) (hlen : (lg_sl av).length ≤ nL)
    (hS : ∀ K L, Sim K L cc y.cls y.name nL d hp E 0 (lv_args 0 av) [] h Y)
    (hret : ∀ (p : Program) (e : Env) (s : State) (m : MethodId) (args : Array Value) (below : List Frame) (meth : Method) (c : Code) (R : Room) (q : ρ) (pc : Nat) (ls' : List (Nat × Value)) (st' : List Value) (h' : xH) (H : Heap) (locs : List Loc) (lsA : Array Slot) (ad : Nat → Nat) (cells slots : Nat) (Qc : Array Value → State → Outcome → State → Prop) (free : Addr → Prop), E q pc ls' st' h' → p.tables.exec = Jvm.exec → c.code = cc → meth.sig.returnType = ret → meth.locks = false → (∀ t : State, t.heap = H → s.WarmedH t.vm → Qc args s (.returned ((rv q).map (xv ad))) t) → (∀ q ∈ locs, free q.base) → W p l e R s m args below meth c H locs cells slots (MQ below Qc args s cells slots free) (F0 m pc lsA (st'.map (xv ad))))
    (hE : ∀ q pc ls' st' h', E q pc ls' st' h' → h' = hp q ∧ st' = (rv q).toList) {q : ρ} (hq : Y = some q) : xM l y cc nL ret d av h (rv q) (hp q) := by
  refine ⟨fun K => (hS K ((fun _ => 0, fun _ _ => 0), id, 0, [], id, id, 0, 0) q hq).1, fun D tA base ro rd ad => ?_⟩
  refine Met.ofW (cc := cc) (maxL := nL) (ret := ret) hy rfl ?_
  intro p e s m args below meth c s₁ B hml hv
  obtain ⟨rfl, v1, v2, v3, v4, v5, v6, v7, v8⟩ := hv
  have hts := atoms_spec (ws := Cond.code y cc nL ret :: lw_gd) B.pre
  have hown : s.vm.findClass y.cls = some m.cls := findClass_of_methodNamed B.named
  have hnm : meth.name = y.name := (name_of_methodNamed B.named B.method).1
  have hlocks := B.notSynchronized
  obtain ⟨mo, k⟩ := hS (p, l, e, s, m, (av.map (xv ad)).toArray, below, meth, c) (D, tA, base, ro, rd, ad, h.length, xz h) q hq
  have hS0 : va_S (fun q => base ≤ q) s.heap s.heap [] := va_S.rf
  have kk := k ⟨B.exec, B.bytes, hml, hown, fun w hw => hts w (List.mem_cons_of_mem _ hw), v1, hnm⟩ { frames := d, cells := (hp q).length - h.length, slots := xz (hp q) - xz h, locals := 32 * d } (MQ below (xQc D tA base ro ad h (rv q) (hp q)) (av.map (xv ad)).toArray s ((hp q).length - h.length) (xz (hp q) - xz h) (fun q => base ≤ q)) (Nat.le_refl _) (Nat.le_refl _) (Nat.le_refl _) (Nat.le_refl _) (fun pc' ls' st' h' hEq => ?_)
  · have hl := lv_entry (av.map (xv ad)) (n := nL) (by rw [x_sl]; exact hlen)
    rw [lg_entry_eq]
    have := kk ad s.heap [] ((lg_sl (av.map (xv ad)) ++ List.replicate (nL - (lg_sl (av.map (xv ad))).length) Slot.unset).toArray) ⟨v2, v3, hS0, fun _ _ => rfl, v4, v5, Nat.le_refl _, Nat.le_refl _, v7, v6⟩ ⟨lv_args_mem av 0 v8, fun v hv => by cases hv⟩ (by rw [xl_args]; exact hl)
    change W p l e _ s m _ below meth c s.heap [] (h.length - h.length) (xz h - xz h) _ _ at this
    rw [Nat.sub_self, Nat.sub_self] at this
    exact this
  · obtain ⟨rfl, e2⟩ := hE q pc' ls' st' h' hEq
    intro ad' H locs lsA hI hc hl
    obtain ⟨i1, i2, i3, i4, i5, i6, i7, i8, i9, i10⟩ := hI
    refine hret p e s m _ below meth c _ q pc' ls' st' _ H locs lsA ad' _ _ _ _ hEq B.exec B.bytes B.returns hlocks (fun t ht hW => ⟨⟨ad', rfl, i4, by rw [ht]; exact i1, i2, i6, i9, fun v hv => hc.2 v ?_⟩, i3.F ht⟩) i3.2.2
    rw [e2, hv]
    exact List.mem_cons_self
theorem xM_i {l : Launch} {y : MethodName} {cc : ByteArray} {nL d : Nat} {av : List Value} {h : xH} {Y : Option (Int32 × xH)} (hy : plainName y.cls = true) (hlen : (lg_sl av).length ≤ nL) (hS : ∀ K L, Sim K L cc y.cls y.name nL d (fun q : Int32 × xH => q.2) (xRi cc) 0 (lv_args 0 av) [] h Y) {q : Int32 × xH} (hq : Y = some q) : xM l y cc nL (some .int) d av h (some (.int q.1)) q.2 := by
  refine xM_of (hp := fun q : Int32 × xH => q.2) (rv := fun q : Int32 × xH => some (.int q.1)) hy hlen hS ?_ ?_ hq
  · intro p e s m args below meth c R q pc ls' st' h' H locs lsA ad cells slots Qc free hE hx hb hr hlocks hQ hf
    obtain ⟨e1, rfl, rfl⟩ := hE
    exact W.iret hx hb hr hQ hf e1 hlocks
  · rintro q pc ls' st' h' ⟨-, e2, e3⟩
    exact ⟨e3, e2⟩
theorem xM_z {l : Launch} {y : MethodName} {cc : ByteArray} {nL d : Nat} {av : List Value} {h : xH} {Y : Option (Int32 × xH)} (hy : plainName y.cls = true) (hlen : (lg_sl av).length ≤ nL) (hS : ∀ K L, Sim K L cc y.cls y.name nL d (fun q : Int32 × xH => q.2) (xRz cc) 0 (lv_args 0 av) [] h Y) {q : Int32 × xH} (hq : Y = some q) : xM l y cc nL (some .boolean) d av h (some (.int q.1)) q.2 := by
  refine xM_of (hp := fun q : Int32 × xH => q.2) (rv := fun q : Int32 × xH => some (.int q.1)) hy hlen hS ?_ ?_ hq
  · intro p e s m args below meth c R q pc ls' st' h' H locs lsA ad cells slots Qc free hE hx hb hr hlocks hQ hf
    obtain ⟨e1, rfl, rfl, hn⟩ := hE
    exact W.zret hx hb hr hn hQ hf e1 hlocks
  · rintro q pc ls' st' h' ⟨-, e2, e3, -⟩
    exact ⟨e3, e2⟩
theorem xM_l {l : Launch} {y : MethodName} {cc : ByteArray} {nL d : Nat} {av : List Value} {h : xH} {Y : Option (Int64 × xH)} (hy : plainName y.cls = true) (hlen : (lg_sl av).length ≤ nL) (hS : ∀ K L, Sim K L cc y.cls y.name nL d (fun q : Int64 × xH => q.2) (xRl cc) 0 (lv_args 0 av) [] h Y) {q : Int64 × xH} (hq : Y = some q) : xM l y cc nL (some .long) d av h (some (.long q.1)) q.2 := by
  refine xM_of (hp := fun q : Int64 × xH => q.2) (rv := fun q : Int64 × xH => some (.long q.1)) hy hlen hS ?_ ?_ hq
  · intro p e s m args below meth c R q pc ls' st' h' H locs lsA ad cells slots Qc free hE hx hb hr hlocks hQ hf
    obtain ⟨e1, rfl, rfl⟩ := hE
    exact W.lret hx hb hr hQ hf e1 hlocks
  · rintro q pc ls' st' h' ⟨-, e2, e3⟩
    exact ⟨e3, e2⟩
theorem xM_r {l : Launch} {y : MethodName} {cc : ByteArray} {nL d : Nat} {rt : String} {av : List Value} {h : xH} {Y : Option (Nat × xH)} (hy : plainName y.cls = true) (hlen : (lg_sl av).length ≤ nL) (hS : ∀ K L, Sim K L cc y.cls y.name nL d (fun q : Nat × xH => q.2) (xRr cc) 0 (lv_args 0 av) [] h Y) {q : Nat × xH} (hq : Y = some q) : xM l y cc nL (some (.object rt)) d av h (some (.ref q.1)) q.2 := by
  refine xM_of (hp := fun q : Nat × xH => q.2) (rv := fun q : Nat × xH => some (.ref q.1)) hy hlen hS ?_ ?_ hq
  · intro p e s m args below meth c R q pc ls' st' h' H locs lsA ad cells slots Qc free hE hx hb hr hlocks hQ hf
    obtain ⟨e1, rfl, rfl⟩ := hE
    exact W.aret (v := .ref (ad q.1)) hx hb hr (Or.inl ⟨rt, rfl⟩) (Or.inr ⟨_, rfl⟩) hQ hf e1 hlocks
  · rintro q pc ls' st' h' ⟨-, e2, e3⟩
    exact ⟨e3, e2⟩
theorem xM_v {l : Launch} {y : MethodName} {cc : ByteArray} {nL d : Nat} {av : List Value} {h : xH} {Y : Option xH} (hy : plainName y.cls = true) (hlen : (lg_sl av).length ≤ nL) (hS : ∀ K L, Sim K L cc y.cls y.name nL d (fun q : xH => q) (xRv cc) 0 (lv_args 0 av) [] h Y) {q : xH} (hq : Y = some q) : xM l y cc nL none d av h none q := by
  refine xM_of (hp := fun q : xH => q) (rv := fun _ : xH => none) hy hlen hS ?_ ?_ hq
  · intro p e s m args below meth c R q pc ls' st' h' H locs lsA ad cells slots Qc free hE hx hb hr hlocks hQ hf
    obtain ⟨e1, rfl, rfl⟩ := hE
    exact W.vret hx hb hr hQ hf e1 hlocks
  · rintro q pc ls' st' h' ⟨-, e2, e3⟩
    exact ⟨e3, e2⟩
end
section
def xN : Nat := 2000
theorem x_inc {x k : Int32} {n : Int} (h : Int32.ofInt n = k) : x + Int32.ofInt n = x + k := by rw [h]
theorem x_nar {v : Int32} (h : v = 0 ∨ v = 1) : narrow .boolean (.int v) = .int v := by
  rcases h with h | h <;> subst h <;> rfl
theorem x_if {α : Type} {c : Prop} [Decidable c] {A B : Option α} {q : α} (h : (if c then A else B) = some q) : (c ∧ A = some q) ∨ B = some q := by
  by_cases hc : c
  · rw [if_pos hc] at h; exact Or.inl ⟨hc, h⟩
  · rw [if_neg hc] at h; exact Or.inr h
def x_noref : Value → Bool
  | .ref _ => false
  | _ => true
theorem xc_all {fs : List Value} (h : fs.all x_noref = true) : ∀ n, ∀ v ∈ fs, xcv n v := by
  intro n v hv a e
  have := List.all_eq_true.mp h v hv
  rw [e] at this
  cases this
theorem wdm_max : (Cond.code Lib.Math.max.name Lib.Math.max.code 2 (some .int)) ∈ lw_gd := x_w 477 (by decide +kernel) rfl
theorem wdm_min : (Cond.code Lib.Math.min.name Lib.Math.min.code 2 (some .int)) ∈ lw_gd := x_w 474 (by decide +kernel) rfl
theorem fd_X6_number : xFd [0, 2, 4, 7, 9] 0 "ClassBits$Run" "number" "I" true .int := List.forall_mem_cons.mpr ⟨⟨RX0, TX0, 2, tyX0, rfl, by decide, rfl, inG0, tyX0_ok, nmX0, by decide +kernel⟩, List.forall_mem_cons.mpr ⟨⟨RX2, TX2, 2, tyX2, rfl, by decide, rfl, inG2, tyX2_ok, nmX2, by decide +kernel⟩, List.forall_mem_cons.mpr ⟨⟨RX4, TX4, 2, tyX4, rfl, by decide, rfl, inG4, tyX4_ok, nmX4, by decide +kernel⟩, List.forall_mem_cons.mpr ⟨⟨RX8, TX8, 2, tyX8, rfl, by decide, rfl, inG8, tyX8_ok, nmX8, by decide +kernel⟩, List.forall_mem_cons.mpr ⟨⟨RX10, TX10, 2, tyX10, rfl, by decide, rfl, inG10, tyX10_ok, nmX10, by decide +kernel⟩, (fun _ h => absurd h List.not_mem_nil)⟩⟩⟩⟩⟩
theorem fd_X6_length : xFd [0, 2, 4, 7, 9] 1 "ClassBits$Run" "length" "I" true .int := List.forall_mem_cons.mpr ⟨⟨RX0, TX0, 2, tyX0, rfl, by decide, rfl, inG0, tyX0_ok, nmX0, by decide +kernel⟩, List.forall_mem_cons.mpr ⟨⟨RX2, TX2, 2, tyX2, rfl, by decide, rfl, inG2, tyX2_ok, nmX2, by decide +kernel⟩, List.forall_mem_cons.mpr ⟨⟨RX4, TX4, 2, tyX4, rfl, by decide, rfl, inG4, tyX4_ok, nmX4, by decide +kernel⟩, List.forall_mem_cons.mpr ⟨⟨RX8, TX8, 2, tyX8, rfl, by decide, rfl, inG8, tyX8_ok, nmX8, by decide +kernel⟩, List.forall_mem_cons.mpr ⟨⟨RX10, TX10, 2, tyX10, rfl, by decide, rfl, inG10, tyX10_ok, nmX10, by decide +kernel⟩, (fun _ h => absurd h List.not_mem_nil)⟩⟩⟩⟩⟩
theorem fd_X1_masks : xFd [1] 0 "ClassBits$BitVector" "masks" "[I" true (.array .int) := List.forall_mem_cons.mpr ⟨⟨RX1, TX1, 2, tyX1, rfl, by decide, rfl, inG1, tyX1_ok, nmX1, by decide +kernel⟩, (fun _ h => absurd h List.not_mem_nil)⟩
theorem fd_X1_length : xFd [1] 1 "ClassBits$BitVector" "length" "I" false .int := List.forall_mem_cons.mpr ⟨⟨RX1, TX1, 2, tyX1, rfl, by decide, rfl, inG1, tyX1_ok, nmX1, by decide +kernel⟩, (fun _ h => absurd h List.not_mem_nil)⟩
theorem fd_X3_before : xFd [3] 0 "ClassBits$History" "before" "[LClassBits$BitVector;" true (.array (.object "ClassBits$BitVector")) := List.forall_mem_cons.mpr ⟨⟨RX3, TX3, 4, tyX3, rfl, by decide, rfl, inG3, tyX3_ok, nmX3, by decide +kernel⟩, (fun _ h => absurd h List.not_mem_nil)⟩
theorem fd_X3_changed : xFd [3] 1 "ClassBits$History" "changed" "[I" true (.array .int) := List.forall_mem_cons.mpr ⟨⟨RX3, TX3, 4, tyX3, rfl, by decide, rfl, inG3, tyX3_ok, nmX3, by decide +kernel⟩, (fun _ h => absurd h List.not_mem_nil)⟩
theorem fd_X3_oldest : xFd [3] 2 "ClassBits$History" "oldest" "I" false .int := List.forall_mem_cons.mpr ⟨⟨RX3, TX3, 4, tyX3, rfl, by decide, rfl, inG3, tyX3_ok, nmX3, by decide +kernel⟩, (fun _ h => absurd h List.not_mem_nil)⟩
theorem fd_X3_held : xFd [3] 3 "ClassBits$History" "held" "I" false .int := List.forall_mem_cons.mpr ⟨⟨RX3, TX3, 4, tyX3, rfl, by decide, rfl, inG3, tyX3_ok, nmX3, by decide +kernel⟩, (fun _ h => absurd h List.not_mem_nil)⟩
theorem fd_X5_items : xFd [5] 0 "ClassBits$Row" "items" "[I" true (.array .int) := List.forall_mem_cons.mpr ⟨⟨RX5, TX5, 4, tyX5, rfl, by decide, rfl, inG5, tyX5_ok, nmX5, by decide +kernel⟩, (fun _ h => absurd h List.not_mem_nil)⟩
theorem fd_X5_missing : xFd [5] 1 "ClassBits$Row" "missing" "Z" false .boolean := List.forall_mem_cons.mpr ⟨⟨RX5, TX5, 4, tyX5, rfl, by decide, rfl, inG5, tyX5_ok, nmX5, by decide +kernel⟩, (fun _ h => absurd h List.not_mem_nil)⟩
theorem fd_X5_lane : xFd [5] 2 "ClassBits$Row" "lane" "I" false .int := List.forall_mem_cons.mpr ⟨⟨RX5, TX5, 4, tyX5, rfl, by decide, rfl, inG5, tyX5_ok, nmX5, by decide +kernel⟩, (fun _ h => absurd h List.not_mem_nil)⟩
theorem fd_X5_length : xFd [5] 3 "ClassBits$Row" "length" "I" false .int := List.forall_mem_cons.mpr ⟨⟨RX5, TX5, 4, tyX5, rfl, by decide, rfl, inG5, tyX5_ok, nmX5, by decide +kernel⟩, (fun _ h => absurd h List.not_mem_nil)⟩
theorem fd_X7_tape : xFd [6] 0 "ClassBits$TextReader" "tape" "[I" true (.array .int) := List.forall_mem_cons.mpr ⟨⟨RX7, TX7, 9, tyX7, rfl, by decide, rfl, inG7, tyX7_ok, nmX7, by decide +kernel⟩, (fun _ h => absurd h List.not_mem_nil)⟩
theorem fd_X7_kinds : xFd [6] 1 "ClassBits$TextReader" "kinds" "[I" true (.array .int) := List.forall_mem_cons.mpr ⟨⟨RX7, TX7, 9, tyX7, rfl, by decide, rfl, inG7, tyX7_ok, nmX7, by decide +kernel⟩, (fun _ h => absurd h List.not_mem_nil)⟩
theorem fd_X7_lengths : xFd [6] 2 "ClassBits$TextReader" "lengths" "[I" true (.array .int) := List.forall_mem_cons.mpr ⟨⟨RX7, TX7, 9, tyX7, rfl, by decide, rfl, inG7, tyX7_ok, nmX7, by decide +kernel⟩, (fun _ h => absurd h List.not_mem_nil)⟩
theorem fd_X7_tapeLength : xFd [6] 3 "ClassBits$TextReader" "tapeLength" "I" false .int := List.forall_mem_cons.mpr ⟨⟨RX7, TX7, 9, tyX7, rfl, by decide, rfl, inG7, tyX7_ok, nmX7, by decide +kernel⟩, (fun _ h => absurd h List.not_mem_nil)⟩
theorem fd_X7_place : xFd [6] 4 "ClassBits$TextReader" "place" "I" false .int := List.forall_mem_cons.mpr ⟨⟨RX7, TX7, 9, tyX7, rfl, by decide, rfl, inG7, tyX7_ok, nmX7, by decide +kernel⟩, (fun _ h => absurd h List.not_mem_nil)⟩
theorem fd_X7_runCount : xFd [6] 5 "ClassBits$TextReader" "runCount" "I" false .int := List.forall_mem_cons.mpr ⟨⟨RX7, TX7, 9, tyX7, rfl, by decide, rfl, inG7, tyX7_ok, nmX7, by decide +kernel⟩, (fun _ h => absurd h List.not_mem_nil)⟩
theorem fd_X7_bitSum : xFd [6] 6 "ClassBits$TextReader" "bitSum" "I" false .int := List.forall_mem_cons.mpr ⟨⟨RX7, TX7, 9, tyX7, rfl, by decide, rfl, inG7, tyX7_ok, nmX7, by decide +kernel⟩, (fun _ h => absurd h List.not_mem_nil)⟩
theorem fd_X7_currentKind : xFd [6] 7 "ClassBits$TextReader" "currentKind" "I" false .int := List.forall_mem_cons.mpr ⟨⟨RX7, TX7, 9, tyX7, rfl, by decide, rfl, inG7, tyX7_ok, nmX7, by decide +kernel⟩, (fun _ h => absurd h List.not_mem_nil)⟩
theorem fd_X7_currentLength : xFd [6] 8 "ClassBits$TextReader" "currentLength" "I" false .int := List.forall_mem_cons.mpr ⟨⟨RX7, TX7, 9, tyX7, rfl, by decide, rfl, inG7, tyX7_ok, nmX7, by decide +kernel⟩, (fun _ h => absurd h List.not_mem_nil)⟩
theorem fd_X9_numbers : xFd [8] 0 "ClassBits$Trace" "numbers" "[I" true (.array .int) := List.forall_mem_cons.mpr ⟨⟨RX9, TX9, 2, tyX9, rfl, by decide, rfl, inG9, tyX9_ok, nmX9, by decide +kernel⟩, (fun _ h => absurd h List.not_mem_nil)⟩
theorem fd_X9_held : xFd [8] 1 "ClassBits$Trace" "held" "I" false .int := List.forall_mem_cons.mpr ⟨⟨RX9, TX9, 2, tyX9, rfl, by decide, rfl, inG9, tyX9_ok, nmX9, by decide +kernel⟩, (fun _ h => absurd h List.not_mem_nil)⟩
theorem fd_X11_rows : xFd [10] 0 "ClassBits" "rows" "[LClassBits$Row;" true (.array (.object "ClassBits$Row")) := List.forall_mem_cons.mpr ⟨⟨RX11, TX11, 12, tyX11, rfl, by decide, rfl, inG11, tyX11_ok, nmX11, by decide +kernel⟩, (fun _ h => absurd h List.not_mem_nil)⟩
theorem fd_X11_vectors : xFd [10] 1 "ClassBits" "vectors" "[LClassBits$BitVector;" true (.array (.object "ClassBits$BitVector")) := List.forall_mem_cons.mpr ⟨⟨RX11, TX11, 12, tyX11, rfl, by decide, rfl, inG11, tyX11_ok, nmX11, by decide +kernel⟩, (fun _ h => absurd h List.not_mem_nil)⟩
theorem fd_X11_images : xFd [10] 2 "ClassBits" "images" "[LClassBits$BitVector;" true (.array (.object "ClassBits$BitVector")) := List.forall_mem_cons.mpr ⟨⟨RX11, TX11, 12, tyX11, rfl, by decide, rfl, inG11, tyX11_ok, nmX11, by decide +kernel⟩, (fun _ h => absurd h List.not_mem_nil)⟩
theorem fd_X11_imageKept : xFd [10] 3 "ClassBits" "imageKept" "[Z" true (.array .boolean) := List.forall_mem_cons.mpr ⟨⟨RX11, TX11, 12, tyX11, rfl, by decide, rfl, inG11, tyX11_ok, nmX11, by decide +kernel⟩, (fun _ h => absurd h List.not_mem_nil)⟩
theorem fd_X11_scratch : xFd [10] 4 "ClassBits" "scratch" "LClassBits$BitVector;" true (.object "ClassBits$BitVector") := List.forall_mem_cons.mpr ⟨⟨RX11, TX11, 12, tyX11, rfl, by decide, rfl, inG11, tyX11_ok, nmX11, by decide +kernel⟩, (fun _ h => absurd h List.not_mem_nil)⟩
theorem fd_X11_history : xFd [10] 5 "ClassBits" "history" "LClassBits$History;" true (.object "ClassBits$History") := List.forall_mem_cons.mpr ⟨⟨RX11, TX11, 12, tyX11, rfl, by decide, rfl, inG11, tyX11_ok, nmX11, by decide +kernel⟩, (fun _ h => absurd h List.not_mem_nil)⟩
theorem fd_X11_reader : xFd [10] 6 "ClassBits" "reader" "LClassBits$TextReader;" true (.object "ClassBits$TextReader") := List.forall_mem_cons.mpr ⟨⟨RX11, TX11, 12, tyX11, rfl, by decide, rfl, inG11, tyX11_ok, nmX11, by decide +kernel⟩, (fun _ h => absurd h List.not_mem_nil)⟩
theorem fd_X11_runs : xFd [10] 7 "ClassBits" "runs" "[LClassBits$Run;" true (.array (.object "ClassBits$Run")) := List.forall_mem_cons.mpr ⟨⟨RX11, TX11, 12, tyX11, rfl, by decide, rfl, inG11, tyX11_ok, nmX11, by decide +kernel⟩, (fun _ h => absurd h List.not_mem_nil)⟩
theorem fd_X11_asked : xFd [10] 8 "ClassBits" "asked" "LClassBits$Trace;" true (.object "ClassBits$Trace") := List.forall_mem_cons.mpr ⟨⟨RX11, TX11, 12, tyX11, rfl, by decide, rfl, inG11, tyX11_ok, nmX11, by decide +kernel⟩, (fun _ h => absurd h List.not_mem_nil)⟩
theorem fd_X11_runCount : xFd [10] 9 "ClassBits" "runCount" "I" false .int := List.forall_mem_cons.mpr ⟨⟨RX11, TX11, 12, tyX11, rfl, by decide, rfl, inG11, tyX11_ok, nmX11, by decide +kernel⟩, (fun _ h => absurd h List.not_mem_nil)⟩
theorem fd_X11_latestFault : xFd [10] 10 "ClassBits" "latestFault" "I" false .int := List.forall_mem_cons.mpr ⟨⟨RX11, TX11, 12, tyX11, rfl, by decide, rfl, inG11, tyX11_ok, nmX11, by decide +kernel⟩, (fun _ h => absurd h List.not_mem_nil)⟩
theorem fd_X11_latestFinding : xFd [10] 11 "ClassBits" "latestFinding" "I" false .int := List.forall_mem_cons.mpr ⟨⟨RX11, TX11, 12, tyX11, rfl, by decide, rfl, inG11, tyX11_ok, nmX11, by decide +kernel⟩, (fun _ h => absurd h List.not_mem_nil)⟩
theorem fd_X12_lane : xFd [11] 0 "ClassBitsModel" "lane" "[I" true (.array .int) := List.forall_mem_cons.mpr ⟨⟨RX12, TX12, 28, tyX12, rfl, by decide, rfl, inG12, tyX12_ok, nmX12, by decide +kernel⟩, (fun _ h => absurd h List.not_mem_nil)⟩
theorem fd_X12_many : xFd [11] 1 "ClassBitsModel" "many" "[I" true (.array .int) := List.forall_mem_cons.mpr ⟨⟨RX12, TX12, 28, tyX12, rfl, by decide, rfl, inG12, tyX12_ok, nmX12, by decide +kernel⟩, (fun _ h => absurd h List.not_mem_nil)⟩
theorem fd_X12_items : xFd [11] 2 "ClassBitsModel" "items" "[I" true (.array .int) := List.forall_mem_cons.mpr ⟨⟨RX12, TX12, 28, tyX12, rfl, by decide, rfl, inG12, tyX12_ok, nmX12, by decide +kernel⟩, (fun _ h => absurd h List.not_mem_nil)⟩
theorem fd_X12_spare : xFd [11] 3 "ClassBitsModel" "spare" "[I" true (.array .int) := List.forall_mem_cons.mpr ⟨⟨RX12, TX12, 28, tyX12, rfl, by decide, rfl, inG12, tyX12_ok, nmX12, by decide +kernel⟩, (fun _ h => absurd h List.not_mem_nil)⟩
theorem fd_X12_status : xFd [11] 4 "ClassBitsModel" "status" "I" false .int := List.forall_mem_cons.mpr ⟨⟨RX12, TX12, 28, tyX12, rfl, by decide, rfl, inG12, tyX12_ok, nmX12, by decide +kernel⟩, (fun _ h => absurd h List.not_mem_nil)⟩
theorem fd_X12_tape : xFd [11] 5 "ClassBitsModel" "tape" "[I" true (.array .int) := List.forall_mem_cons.mpr ⟨⟨RX12, TX12, 28, tyX12, rfl, by decide, rfl, inG12, tyX12_ok, nmX12, by decide +kernel⟩, (fun _ h => absurd h List.not_mem_nil)⟩
theorem fd_X12_taped : xFd [11] 6 "ClassBitsModel" "taped" "I" false .int := List.forall_mem_cons.mpr ⟨⟨RX12, TX12, 28, tyX12, rfl, by decide, rfl, inG12, tyX12_ok, nmX12, by decide +kernel⟩, (fun _ h => absurd h List.not_mem_nil)⟩
theorem fd_X12_faultKind : xFd [11] 7 "ClassBitsModel" "faultKind" "I" false .int := List.forall_mem_cons.mpr ⟨⟨RX12, TX12, 28, tyX12, rfl, by decide, rfl, inG12, tyX12_ok, nmX12, by decide +kernel⟩, (fun _ h => absurd h List.not_mem_nil)⟩
theorem fd_X12_faultPlace : xFd [11] 8 "ClassBitsModel" "faultPlace" "I" false .int := List.forall_mem_cons.mpr ⟨⟨RX12, TX12, 28, tyX12, rfl, by decide, rfl, inG12, tyX12_ok, nmX12, by decide +kernel⟩, (fun _ h => absurd h List.not_mem_nil)⟩
theorem fd_X12_at : xFd [11] 9 "ClassBitsModel" "at" "I" false .int := List.forall_mem_cons.mpr ⟨⟨RX12, TX12, 28, tyX12, rfl, by decide, rfl, inG12, tyX12_ok, nmX12, by decide +kernel⟩, (fun _ h => absurd h List.not_mem_nil)⟩
theorem fd_X12_start : xFd [11] 10 "ClassBitsModel" "start" "I" false .int := List.forall_mem_cons.mpr ⟨⟨RX12, TX12, 28, tyX12, rfl, by decide, rfl, inG12, tyX12_ok, nmX12, by decide +kernel⟩, (fun _ h => absurd h List.not_mem_nil)⟩
theorem fd_X12_token : xFd [11] 11 "ClassBitsModel" "token" "I" false .int := List.forall_mem_cons.mpr ⟨⟨RX12, TX12, 28, tyX12, rfl, by decide, rfl, inG12, tyX12_ok, nmX12, by decide +kernel⟩, (fun _ h => absurd h List.not_mem_nil)⟩
theorem fd_X12_value : xFd [11] 12 "ClassBitsModel" "value" "I" false .int := List.forall_mem_cons.mpr ⟨⟨RX12, TX12, 28, tyX12, rfl, by decide, rfl, inG12, tyX12_ok, nmX12, by decide +kernel⟩, (fun _ h => absurd h List.not_mem_nil)⟩
theorem fd_X12_now : xFd [11] 13 "ClassBitsModel" "now" "[I" true (.array .int) := List.forall_mem_cons.mpr ⟨⟨RX12, TX12, 28, tyX12, rfl, by decide, rfl, inG12, tyX12_ok, nmX12, by decide +kernel⟩, (fun _ h => absurd h List.not_mem_nil)⟩
theorem fd_X12_tried : xFd [11] 14 "ClassBitsModel" "tried" "[I" true (.array .int) := List.forall_mem_cons.mpr ⟨⟨RX12, TX12, 28, tyX12, rfl, by decide, rfl, inG12, tyX12_ok, nmX12, by decide +kernel⟩, (fun _ h => absurd h List.not_mem_nil)⟩
theorem fd_X12_past : xFd [11] 15 "ClassBitsModel" "past" "[I" true (.array .int) := List.forall_mem_cons.mpr ⟨⟨RX12, TX12, 28, tyX12, rfl, by decide, rfl, inG12, tyX12_ok, nmX12, by decide +kernel⟩, (fun _ h => absurd h List.not_mem_nil)⟩
theorem fd_X12_acts : xFd [11] 16 "ClassBitsModel" "acts" "I" false .int := List.forall_mem_cons.mpr ⟨⟨RX12, TX12, 28, tyX12, rfl, by decide, rfl, inG12, tyX12_ok, nmX12, by decide +kernel⟩, (fun _ h => absurd h List.not_mem_nil)⟩
theorem fd_X12_images : xFd [11] 17 "ClassBitsModel" "images" "[I" true (.array .int) := List.forall_mem_cons.mpr ⟨⟨RX12, TX12, 28, tyX12, rfl, by decide, rfl, inG12, tyX12_ok, nmX12, by decide +kernel⟩, (fun _ h => absurd h List.not_mem_nil)⟩
theorem fd_X12_kept : xFd [11] 18 "ClassBitsModel" "kept" "[Z" true (.array .boolean) := List.forall_mem_cons.mpr ⟨⟨RX12, TX12, 28, tyX12, rfl, by decide, rfl, inG12, tyX12_ok, nmX12, by decide +kernel⟩, (fun _ h => absurd h List.not_mem_nil)⟩
theorem fd_X12_runs : xFd [11] 19 "ClassBitsModel" "runs" "I" false .int := List.forall_mem_cons.mpr ⟨⟨RX12, TX12, 28, tyX12, rfl, by decide, rfl, inG12, tyX12_ok, nmX12, by decide +kernel⟩, (fun _ h => absurd h List.not_mem_nil)⟩
theorem fd_X12_kinds : xFd [11] 20 "ClassBitsModel" "kinds" "[I" true (.array .int) := List.forall_mem_cons.mpr ⟨⟨RX12, TX12, 28, tyX12, rfl, by decide, rfl, inG12, tyX12_ok, nmX12, by decide +kernel⟩, (fun _ h => absurd h List.not_mem_nil)⟩
theorem fd_X12_length : xFd [11] 21 "ClassBitsModel" "length" "[I" true (.array .int) := List.forall_mem_cons.mpr ⟨⟨RX12, TX12, 28, tyX12, rfl, by decide, rfl, inG12, tyX12_ok, nmX12, by decide +kernel⟩, (fun _ h => absurd h List.not_mem_nil)⟩
theorem fd_X12_some : xFd [11] 22 "ClassBitsModel" "some" "I" false .int := List.forall_mem_cons.mpr ⟨⟨RX12, TX12, 28, tyX12, rfl, by decide, rfl, inG12, tyX12_ok, nmX12, by decide +kernel⟩, (fun _ h => absurd h List.not_mem_nil)⟩
theorem fd_X12_someKinds : xFd [11] 23 "ClassBitsModel" "someKinds" "[I" true (.array .int) := List.forall_mem_cons.mpr ⟨⟨RX12, TX12, 28, tyX12, rfl, by decide, rfl, inG12, tyX12_ok, nmX12, by decide +kernel⟩, (fun _ h => absurd h List.not_mem_nil)⟩
theorem fd_X12_someLength : xFd [11] 24 "ClassBitsModel" "someLength" "[I" true (.array .int) := List.forall_mem_cons.mpr ⟨⟨RX12, TX12, 28, tyX12, rfl, by decide, rfl, inG12, tyX12_ok, nmX12, by decide +kernel⟩, (fun _ h => absurd h List.not_mem_nil)⟩
theorem fd_X12_chosen : xFd [11] 25 "ClassBitsModel" "chosen" "[I" true (.array .int) := List.forall_mem_cons.mpr ⟨⟨RX12, TX12, 28, tyX12, rfl, by decide, rfl, inG12, tyX12_ok, nmX12, by decide +kernel⟩, (fun _ h => absurd h List.not_mem_nil)⟩
theorem fd_X12_trace : xFd [11] 26 "ClassBitsModel" "trace" "[I" true (.array .int) := List.forall_mem_cons.mpr ⟨⟨RX12, TX12, 28, tyX12, rfl, by decide, rfl, inG12, tyX12_ok, nmX12, by decide +kernel⟩, (fun _ h => absurd h List.not_mem_nil)⟩
theorem fd_X12_traced : xFd [11] 27 "ClassBitsModel" "traced" "I" false .int := List.forall_mem_cons.mpr ⟨⟨RX12, TX12, 28, tyX12, rfl, by decide, rfl, inG12, tyX12_ok, nmX12, by decide +kernel⟩, (fun _ h => absurd h List.not_mem_nil)⟩
theorem nf_0 : ∀ j, j < 2 → defaultValue (tyX0 j) = vp_V [.int 0, .int 0] j := by decide +kernel
theorem nc_0 : ∀ n, ∀ v ∈ ([.int 0, .int 0] : List Value), xcv n v := xc_all (by decide)
theorem nf_1 : ∀ j, j < 2 → defaultValue (tyX1 j) = vp_V [.null, .int 0] j := by decide +kernel
theorem nc_1 : ∀ n, ∀ v ∈ ([.null, .int 0] : List Value), xcv n v := xc_all (by decide)
theorem nf_2 : ∀ j, j < 2 → defaultValue (tyX2 j) = vp_V [.int 0, .int 0] j := by decide +kernel
theorem nc_2 : ∀ n, ∀ v ∈ ([.int 0, .int 0] : List Value), xcv n v := xc_all (by decide)
theorem nf_3 : ∀ j, j < 4 → defaultValue (tyX3 j) = vp_V [.null, .null, .int 0, .int 0] j := by decide +kernel
theorem nc_3 : ∀ n, ∀ v ∈ ([.null, .null, .int 0, .int 0] : List Value), xcv n v := xc_all (by decide)
theorem nf_4 : ∀ j, j < 2 → defaultValue (tyX4 j) = vp_V [.int 0, .int 0] j := by decide +kernel
theorem nc_4 : ∀ n, ∀ v ∈ ([.int 0, .int 0] : List Value), xcv n v := xc_all (by decide)
theorem nf_5 : ∀ j, j < 4 → defaultValue (tyX5 j) = vp_V [.null, .int 0, .int 0, .int 0] j := by decide +kernel
theorem nc_5 : ∀ n, ∀ v ∈ ([.null, .int 0, .int 0, .int 0] : List Value), xcv n v := xc_all (by decide)
theorem nf_6 : ∀ j, j < 9 → defaultValue (tyX7 j) = vp_V [.null, .null, .null, .int 0, .int 0, .int 0, .int 0, .int 0, .int 0] j := by decide +kernel
theorem nc_6 : ∀ n, ∀ v ∈ ([.null, .null, .null, .int 0, .int 0, .int 0, .int 0, .int 0, .int 0] : List Value), xcv n v := xc_all (by decide)
theorem nf_7 : ∀ j, j < 2 → defaultValue (tyX8 j) = vp_V [.int 0, .int 0] j := by decide +kernel
theorem nc_7 : ∀ n, ∀ v ∈ ([.int 0, .int 0] : List Value), xcv n v := xc_all (by decide)
theorem nf_8 : ∀ j, j < 2 → defaultValue (tyX9 j) = vp_V [.null, .int 0] j := by decide +kernel
theorem nc_8 : ∀ n, ∀ v ∈ ([.null, .int 0] : List Value), xcv n v := xc_all (by decide)
theorem nf_9 : ∀ j, j < 2 → defaultValue (tyX10 j) = vp_V [.int 0, .int 0] j := by decide +kernel
theorem nc_9 : ∀ n, ∀ v ∈ ([.int 0, .int 0] : List Value), xcv n v := xc_all (by decide)
theorem nf_10 : ∀ j, j < 12 → defaultValue (tyX11 j) = vp_V [.null, .null, .null, .null, .null, .null, .null, .null, .null, .int 0, .int 0, .int 0] j := by decide +kernel
theorem nc_10 : ∀ n, ∀ v ∈ ([.null, .null, .null, .null, .null, .null, .null, .null, .null, .int 0, .int 0, .int 0] : List Value), xcv n v := xc_all (by decide)
theorem nf_11 : ∀ j, j < 28 → defaultValue (tyX12 j) = vp_V [.null, .null, .null, .null, .int 0, .null, .int 0, .int 0, .int 0, .int 0, .int 0, .int 0, .int 0, .null, .null, .null, .int 0, .null, .null, .int 0, .null, .null, .int 0, .null, .null, .null, .null, .int 0] j := by decide +kernel
theorem nc_11 : ∀ n, ∀ v ∈ ([.null, .null, .null, .null, .int 0, .null, .int 0, .int 0, .int 0, .int 0, .int 0, .int 0, .int 0, .null, .null, .null, .int 0, .null, .null, .int 0, .null, .null, .int 0, .null, .null, .null, .null, .int 0] : List Value), xcv n v := xc_all (by decide)
theorem hd_X1_init : yX1_init.cls ≠ "java/lang/invoke/MethodHandle" ∧ yX1_init.cls ≠ "java/lang/invoke/VarHandle" ∧ (parseMethodDescriptor yX1_init.desc).map (fun d => d.parameters.length) = some 0 := by decide +kernel
theorem hd_X3_init : yX3_init.cls ≠ "java/lang/invoke/MethodHandle" ∧ yX3_init.cls ≠ "java/lang/invoke/VarHandle" ∧ (parseMethodDescriptor yX3_init.desc).map (fun d => d.parameters.length) = some 0 := by decide +kernel
theorem hd_X5_init : yX5_init.cls ≠ "java/lang/invoke/MethodHandle" ∧ yX5_init.cls ≠ "java/lang/invoke/VarHandle" ∧ (parseMethodDescriptor yX5_init.desc).map (fun d => d.parameters.length) = some 0 := by decide +kernel
theorem hd_X7_init : yX7_init.cls ≠ "java/lang/invoke/MethodHandle" ∧ yX7_init.cls ≠ "java/lang/invoke/VarHandle" ∧ (parseMethodDescriptor yX7_init.desc).map (fun d => d.parameters.length) = some 0 := by decide +kernel
theorem hd_X9_init : yX9_init.cls ≠ "java/lang/invoke/MethodHandle" ∧ yX9_init.cls ≠ "java/lang/invoke/VarHandle" ∧ (parseMethodDescriptor yX9_init.desc).map (fun d => d.parameters.length) = some 0 := by decide +kernel
theorem hd_X11_init : yX11_init.cls ≠ "java/lang/invoke/MethodHandle" ∧ yX11_init.cls ≠ "java/lang/invoke/VarHandle" ∧ (parseMethodDescriptor yX11_init.desc).map (fun d => d.parameters.length) = some 0 := by decide +kernel
theorem hd_X11_isValue : yX11_isValue.cls ≠ "java/lang/invoke/MethodHandle" ∧ yX11_isValue.cls ≠ "java/lang/invoke/VarHandle" ∧ (parseMethodDescriptor yX11_isValue.desc).map (fun d => d.parameters.length) = some 1 := by decide +kernel
theorem hd_X11_isVector : yX11_isVector.cls ≠ "java/lang/invoke/MethodHandle" ∧ yX11_isVector.cls ≠ "java/lang/invoke/VarHandle" ∧ (parseMethodDescriptor yX11_isVector.desc).map (fun d => d.parameters.length) = some 1 := by decide +kernel
theorem hd_X1_copyFrom : yX1_copyFrom.cls ≠ "java/lang/invoke/MethodHandle" ∧ yX1_copyFrom.cls ≠ "java/lang/invoke/VarHandle" ∧ (parseMethodDescriptor yX1_copyFrom.desc).map (fun d => d.parameters.length) = some 1 := by decide +kernel
theorem hd_X3_keep : yX3_keep.cls ≠ "java/lang/invoke/MethodHandle" ∧ yX3_keep.cls ≠ "java/lang/invoke/VarHandle" ∧ (parseMethodDescriptor yX3_keep.desc).map (fun d => d.parameters.length) = some 2 := by decide +kernel
theorem hd_X11_vectorToChange : yX11_vectorToChange.cls ≠ "java/lang/invoke/MethodHandle" ∧ yX11_vectorToChange.cls ≠ "java/lang/invoke/VarHandle" ∧ (parseMethodDescriptor yX11_vectorToChange.desc).map (fun d => d.parameters.length) = some 1 := by decide +kernel
theorem hd_X1_write : yX1_write.cls ≠ "java/lang/invoke/MethodHandle" ∧ yX1_write.cls ≠ "java/lang/invoke/VarHandle" ∧ (parseMethodDescriptor yX1_write.desc).map (fun d => d.parameters.length) = some 2 := by decide +kernel
theorem hd_X1_append : yX1_append.cls ≠ "java/lang/invoke/MethodHandle" ∧ yX1_append.cls ≠ "java/lang/invoke/VarHandle" ∧ (parseMethodDescriptor yX1_append.desc).map (fun d => d.parameters.length) = some 1 := by decide +kernel
theorem hd_X11_add : yX11_add.cls ≠ "java/lang/invoke/MethodHandle" ∧ yX11_add.cls ≠ "java/lang/invoke/VarHandle" ∧ (parseMethodDescriptor yX11_add.desc).map (fun d => d.parameters.length) = some 3 := by decide +kernel
theorem hd_X11_commonDivisor : yX11_commonDivisor.cls ≠ "java/lang/invoke/MethodHandle" ∧ yX11_commonDivisor.cls ≠ "java/lang/invoke/VarHandle" ∧ (parseMethodDescriptor yX11_commonDivisor.desc).map (fun d => d.parameters.length) = some 2 := by decide +kernel
theorem hd_X1_joinedMask : yX1_joinedMask.cls ≠ "java/lang/invoke/MethodHandle" ∧ yX1_joinedMask.cls ≠ "java/lang/invoke/VarHandle" ∧ (parseMethodDescriptor yX1_joinedMask.desc).map (fun d => d.parameters.length) = some 3 := by decide +kernel
theorem hd_X1_becomeJoined : yX1_becomeJoined.cls ≠ "java/lang/invoke/MethodHandle" ∧ yX1_becomeJoined.cls ≠ "java/lang/invoke/VarHandle" ∧ (parseMethodDescriptor yX1_becomeJoined.desc).map (fun d => d.parameters.length) = some 3 := by decide +kernel
theorem hd_X11_firstPlaces : yX11_firstPlaces.cls ≠ "java/lang/invoke/MethodHandle" ∧ yX11_firstPlaces.cls ≠ "java/lang/invoke/VarHandle" ∧ (parseMethodDescriptor yX11_firstPlaces.desc).map (fun d => d.parameters.length) = some 1 := by decide +kernel
theorem hd_J6_bitCount_0f7a4 : yJ6_bitCount_0f7a4.cls ≠ "java/lang/invoke/MethodHandle" ∧ yJ6_bitCount_0f7a4.cls ≠ "java/lang/invoke/VarHandle" ∧ (parseMethodDescriptor yJ6_bitCount_0f7a4.desc).map (fun d => d.parameters.length) = some 1 := by decide +kernel
theorem hd_X1_onesAhead : yX1_onesAhead.cls ≠ "java/lang/invoke/MethodHandle" ∧ yX1_onesAhead.cls ≠ "java/lang/invoke/VarHandle" ∧ (parseMethodDescriptor yX1_onesAhead.desc).map (fun d => d.parameters.length) = some 1 := by decide +kernel
theorem hd_X1_countOnes : yX1_countOnes.cls ≠ "java/lang/invoke/MethodHandle" ∧ yX1_countOnes.cls ≠ "java/lang/invoke/VarHandle" ∧ (parseMethodDescriptor yX1_countOnes.desc).map (fun d => d.parameters.length) = some 0 := by decide +kernel
theorem hd_X11_alike : yX11_alike.cls ≠ "java/lang/invoke/MethodHandle" ∧ yX11_alike.cls ≠ "java/lang/invoke/VarHandle" ∧ (parseMethodDescriptor yX11_alike.desc).map (fun d => d.parameters.length) = some 3 := by decide +kernel
theorem hd_X11_fine : yX11_fine.cls ≠ "java/lang/invoke/MethodHandle" ∧ yX11_fine.cls ≠ "java/lang/invoke/VarHandle" ∧ (parseMethodDescriptor yX11_fine.desc).map (fun d => d.parameters.length) = some 1 := by decide +kernel
theorem hd_X11_found : yX11_found.cls ≠ "java/lang/invoke/MethodHandle" ∧ yX11_found.cls ≠ "java/lang/invoke/VarHandle" ∧ (parseMethodDescriptor yX11_found.desc).map (fun d => d.parameters.length) = some 1 := by decide +kernel
theorem hd_X11_isOfKind : yX11_isOfKind.cls ≠ "java/lang/invoke/MethodHandle" ∧ yX11_isOfKind.cls ≠ "java/lang/invoke/VarHandle" ∧ (parseMethodDescriptor yX11_isOfKind.desc).map (fun d => d.parameters.length) = some 2 := by decide +kernel
theorem hd_X11_isRun : yX11_isRun.cls ≠ "java/lang/invoke/MethodHandle" ∧ yX11_isRun.cls ≠ "java/lang/invoke/VarHandle" ∧ (parseMethodDescriptor yX11_isRun.desc).map (fun d => d.parameters.length) = some 1 := by decide +kernel
theorem hd_X11_as : yX11_as.cls ≠ "java/lang/invoke/MethodHandle" ∧ yX11_as.cls ≠ "java/lang/invoke/VarHandle" ∧ (parseMethodDescriptor yX11_as.desc).map (fun d => d.parameters.length) = some 2 := by decide +kernel
theorem hd_X9_note : yX9_note.cls ≠ "java/lang/invoke/MethodHandle" ∧ yX9_note.cls ≠ "java/lang/invoke/VarHandle" ∧ (parseMethodDescriptor yX9_note.desc).map (fun d => d.parameters.length) = some 1 := by decide +kernel
theorem hd_X6_tellSize : yX6_tellSize.cls ≠ "java/lang/invoke/MethodHandle" ∧ yX6_tellSize.cls ≠ "java/lang/invoke/VarHandle" ∧ (parseMethodDescriptor yX6_tellSize.desc).map (fun d => d.parameters.length) = some 1 := by decide +kernel
theorem hd_X0_tellSize : yX0_tellSize.cls ≠ "java/lang/invoke/MethodHandle" ∧ yX0_tellSize.cls ≠ "java/lang/invoke/VarHandle" ∧ (parseMethodDescriptor yX0_tellSize.desc).map (fun d => d.parameters.length) = some 1 := by decide +kernel
theorem hd_X2_tellSize : yX2_tellSize.cls ≠ "java/lang/invoke/MethodHandle" ∧ yX2_tellSize.cls ≠ "java/lang/invoke/VarHandle" ∧ (parseMethodDescriptor yX2_tellSize.desc).map (fun d => d.parameters.length) = some 1 := by decide +kernel
theorem hd_X6_tellMark : yX6_tellMark.cls ≠ "java/lang/invoke/MethodHandle" ∧ yX6_tellMark.cls ≠ "java/lang/invoke/VarHandle" ∧ (parseMethodDescriptor yX6_tellMark.desc).map (fun d => d.parameters.length) = some 1 := by decide +kernel
theorem hd_X0_tellMark : yX0_tellMark.cls ≠ "java/lang/invoke/MethodHandle" ∧ yX0_tellMark.cls ≠ "java/lang/invoke/VarHandle" ∧ (parseMethodDescriptor yX0_tellMark.desc).map (fun d => d.parameters.length) = some 1 := by decide +kernel
theorem hd_X0_bitOf : yX0_bitOf.cls ≠ "java/lang/invoke/MethodHandle" ∧ yX0_bitOf.cls ≠ "java/lang/invoke/VarHandle" ∧ (parseMethodDescriptor yX0_bitOf.desc).map (fun d => d.parameters.length) = some 1 := by decide +kernel
theorem hd_X2_bitOf : yX2_bitOf.cls ≠ "java/lang/invoke/MethodHandle" ∧ yX2_bitOf.cls ≠ "java/lang/invoke/VarHandle" ∧ (parseMethodDescriptor yX2_bitOf.desc).map (fun d => d.parameters.length) = some 1 := by decide +kernel
theorem hd_X4_bitOf : yX4_bitOf.cls ≠ "java/lang/invoke/MethodHandle" ∧ yX4_bitOf.cls ≠ "java/lang/invoke/VarHandle" ∧ (parseMethodDescriptor yX4_bitOf.desc).map (fun d => d.parameters.length) = some 1 := by decide +kernel
theorem hd_X8_bitOf : yX8_bitOf.cls ≠ "java/lang/invoke/MethodHandle" ∧ yX8_bitOf.cls ≠ "java/lang/invoke/VarHandle" ∧ (parseMethodDescriptor yX8_bitOf.desc).map (fun d => d.parameters.length) = some 1 := by decide +kernel
theorem hd_X10_bitOf : yX10_bitOf.cls ≠ "java/lang/invoke/MethodHandle" ∧ yX10_bitOf.cls ≠ "java/lang/invoke/VarHandle" ∧ (parseMethodDescriptor yX10_bitOf.desc).map (fun d => d.parameters.length) = some 1 := by decide +kernel
theorem hd_X6_onesWithin : yX6_onesWithin.cls ≠ "java/lang/invoke/MethodHandle" ∧ yX6_onesWithin.cls ≠ "java/lang/invoke/VarHandle" ∧ (parseMethodDescriptor yX6_onesWithin.desc).map (fun d => d.parameters.length) = some 0 := by decide +kernel
theorem hd_X10_tellMark : yX10_tellMark.cls ≠ "java/lang/invoke/MethodHandle" ∧ yX10_tellMark.cls ≠ "java/lang/invoke/VarHandle" ∧ (parseMethodDescriptor yX10_tellMark.desc).map (fun d => d.parameters.length) = some 1 := by decide +kernel
theorem hd_X4_tellMark : yX4_tellMark.cls ≠ "java/lang/invoke/MethodHandle" ∧ yX4_tellMark.cls ≠ "java/lang/invoke/VarHandle" ∧ (parseMethodDescriptor yX4_tellMark.desc).map (fun d => d.parameters.length) = some 1 := by decide +kernel
theorem hd_X8_tellMark : yX8_tellMark.cls ≠ "java/lang/invoke/MethodHandle" ∧ yX8_tellMark.cls ≠ "java/lang/invoke/VarHandle" ∧ (parseMethodDescriptor yX8_tellMark.desc).map (fun d => d.parameters.length) = some 1 := by decide +kernel
theorem hd_X10_tellSize : yX10_tellSize.cls ≠ "java/lang/invoke/MethodHandle" ∧ yX10_tellSize.cls ≠ "java/lang/invoke/VarHandle" ∧ (parseMethodDescriptor yX10_tellSize.desc).map (fun d => d.parameters.length) = some 1 := by decide +kernel
theorem hd_X4_tellSize : yX4_tellSize.cls ≠ "java/lang/invoke/MethodHandle" ∧ yX4_tellSize.cls ≠ "java/lang/invoke/VarHandle" ∧ (parseMethodDescriptor yX4_tellSize.desc).map (fun d => d.parameters.length) = some 1 := by decide +kernel
theorem hd_X11_ask : yX11_ask.cls ≠ "java/lang/invoke/MethodHandle" ∧ yX11_ask.cls ≠ "java/lang/invoke/VarHandle" ∧ (parseMethodDescriptor yX11_ask.desc).map (fun d => d.parameters.length) = some 2 := by decide +kernel
theorem hd_X11_bits : yX11_bits.cls ≠ "java/lang/invoke/MethodHandle" ∧ yX11_bits.cls ≠ "java/lang/invoke/VarHandle" ∧ (parseMethodDescriptor yX11_bits.desc).map (fun d => d.parameters.length) = some 1 := by decide +kernel
theorem hd_X11_bitsOfAll : yX11_bitsOfAll.cls ≠ "java/lang/invoke/MethodHandle" ∧ yX11_bitsOfAll.cls ≠ "java/lang/invoke/VarHandle" ∧ (parseMethodDescriptor yX11_bitsOfAll.desc).map (fun d => d.parameters.length) = some 0 := by decide +kernel
theorem hd_X11_choices : yX11_choices.cls ≠ "java/lang/invoke/MethodHandle" ∧ yX11_choices.cls ≠ "java/lang/invoke/VarHandle" ∧ (parseMethodDescriptor yX11_choices.desc).map (fun d => d.parameters.length) = some 2 := by decide +kernel
theorem hd_X11_offsetOf : yX11_offsetOf.cls ≠ "java/lang/invoke/MethodHandle" ∧ yX11_offsetOf.cls ≠ "java/lang/invoke/VarHandle" ∧ (parseMethodDescriptor yX11_offsetOf.desc).map (fun d => d.parameters.length) = some 1 := by decide +kernel
theorem hd_X1_classOf : yX1_classOf.cls ≠ "java/lang/invoke/MethodHandle" ∧ yX1_classOf.cls ≠ "java/lang/invoke/VarHandle" ∧ (parseMethodDescriptor yX1_classOf.desc).map (fun d => d.parameters.length) = some 1 := by decide +kernel
theorem hd_X1_beginOf : yX1_beginOf.cls ≠ "java/lang/invoke/MethodHandle" ∧ yX1_beginOf.cls ≠ "java/lang/invoke/VarHandle" ∧ (parseMethodDescriptor yX1_beginOf.desc).map (fun d => d.parameters.length) = some 1 := by decide +kernel
theorem hd_X1_blockCount : yX1_blockCount.cls ≠ "java/lang/invoke/MethodHandle" ∧ yX1_blockCount.cls ≠ "java/lang/invoke/VarHandle" ∧ (parseMethodDescriptor yX1_blockCount.desc).map (fun d => d.parameters.length) = some 0 := by decide +kernel
theorem hd_X11_block : yX11_block.cls ≠ "java/lang/invoke/MethodHandle" ∧ yX11_block.cls ≠ "java/lang/invoke/VarHandle" ∧ (parseMethodDescriptor yX11_block.desc).map (fun d => d.parameters.length) = some 3 := by decide +kernel
theorem hd_X11_choose : yX11_choose.cls ≠ "java/lang/invoke/MethodHandle" ∧ yX11_choose.cls ≠ "java/lang/invoke/VarHandle" ∧ (parseMethodDescriptor yX11_choose.desc).map (fun d => d.parameters.length) = some 2 := by decide +kernel
theorem hd_X11_isRow : yX11_isRow.cls ≠ "java/lang/invoke/MethodHandle" ∧ yX11_isRow.cls ≠ "java/lang/invoke/VarHandle" ∧ (parseMethodDescriptor yX11_isRow.desc).map (fun d => d.parameters.length) = some 1 := by decide +kernel
theorem hd_X5_hasPart : yX5_hasPart.cls ≠ "java/lang/invoke/MethodHandle" ∧ yX5_hasPart.cls ≠ "java/lang/invoke/VarHandle" ∧ (parseMethodDescriptor yX5_hasPart.desc).map (fun d => d.parameters.length) = some 2 := by decide +kernel
theorem hd_X11_copy : yX11_copy.cls ≠ "java/lang/invoke/MethodHandle" ∧ yX11_copy.cls ≠ "java/lang/invoke/VarHandle" ∧ (parseMethodDescriptor yX11_copy.desc).map (fun d => d.parameters.length) = some 5 := by decide +kernel
theorem hd_X11_onesOfAll : yX11_onesOfAll.cls ≠ "java/lang/invoke/MethodHandle" ∧ yX11_onesOfAll.cls ≠ "java/lang/invoke/VarHandle" ∧ (parseMethodDescriptor yX11_onesOfAll.desc).map (fun d => d.parameters.length) = some 0 := by decide +kernel
theorem hd_X11_rowsThatAreThere : yX11_rowsThatAreThere.cls ≠ "java/lang/invoke/MethodHandle" ∧ yX11_rowsThatAreThere.cls ≠ "java/lang/invoke/VarHandle" ∧ (parseMethodDescriptor yX11_rowsThatAreThere.desc).map (fun d => d.parameters.length) = some 0 := by decide +kernel
theorem hd_X11_count : yX11_count.cls ≠ "java/lang/invoke/MethodHandle" ∧ yX11_count.cls ≠ "java/lang/invoke/VarHandle" ∧ (parseMethodDescriptor yX11_count.desc).map (fun d => d.parameters.length) = some 1 := by decide +kernel
theorem hd_X1_shorten : yX1_shorten.cls ≠ "java/lang/invoke/MethodHandle" ∧ yX1_shorten.cls ≠ "java/lang/invoke/VarHandle" ∧ (parseMethodDescriptor yX1_shorten.desc).map (fun d => d.parameters.length) = some 1 := by decide +kernel
theorem hd_X11_cut : yX11_cut.cls ≠ "java/lang/invoke/MethodHandle" ∧ yX11_cut.cls ≠ "java/lang/invoke/VarHandle" ∧ (parseMethodDescriptor yX11_cut.desc).map (fun d => d.parameters.length) = some 2 := by decide +kernel
theorem hd_X1_bitAt : yX1_bitAt.cls ≠ "java/lang/invoke/MethodHandle" ∧ yX1_bitAt.cls ≠ "java/lang/invoke/VarHandle" ∧ (parseMethodDescriptor yX1_bitAt.desc).map (fun d => d.parameters.length) = some 1 := by decide +kernel
theorem hd_X1_payloadBits : yX1_payloadBits.cls ≠ "java/lang/invoke/MethodHandle" ∧ yX1_payloadBits.cls ≠ "java/lang/invoke/VarHandle" ∧ (parseMethodDescriptor yX1_payloadBits.desc).map (fun d => d.parameters.length) = some 0 := by decide +kernel
theorem hd_X11_drawn : yX11_drawn.cls ≠ "java/lang/invoke/MethodHandle" ∧ yX11_drawn.cls ≠ "java/lang/invoke/VarHandle" ∧ (parseMethodDescriptor yX11_drawn.desc).map (fun d => d.parameters.length) = some 4 := by decide +kernel
theorem hd_X11_drop : yX11_drop.cls ≠ "java/lang/invoke/MethodHandle" ∧ yX11_drop.cls ≠ "java/lang/invoke/VarHandle" ∧ (parseMethodDescriptor yX11_drop.desc).map (fun d => d.parameters.length) = some 1 := by decide +kernel
theorem hd_X1_entryCount : yX1_entryCount.cls ≠ "java/lang/invoke/MethodHandle" ∧ yX1_entryCount.cls ≠ "java/lang/invoke/VarHandle" ∧ (parseMethodDescriptor yX1_entryCount.desc).map (fun d => d.parameters.length) = some 0 := by decide +kernel
theorem hd_X11_entry : yX11_entry.cls ≠ "java/lang/invoke/MethodHandle" ∧ yX11_entry.cls ≠ "java/lang/invoke/VarHandle" ∧ (parseMethodDescriptor yX11_entry.desc).map (fun d => d.parameters.length) = some 3 := by decide +kernel
theorem hd_X11_fault : yX11_fault.cls ≠ "java/lang/invoke/MethodHandle" ∧ yX11_fault.cls ≠ "java/lang/invoke/VarHandle" ∧ (parseMethodDescriptor yX11_fault.desc).map (fun d => d.parameters.length) = some 0 := by decide +kernel
theorem hd_X7_hasRoom : yX7_hasRoom.cls ≠ "java/lang/invoke/MethodHandle" ∧ yX7_hasRoom.cls ≠ "java/lang/invoke/VarHandle" ∧ (parseMethodDescriptor yX7_hasRoom.desc).map (fun d => d.parameters.length) = some 0 := by decide +kernel
theorem hd_X7_append : yX7_append.cls ≠ "java/lang/invoke/MethodHandle" ∧ yX7_append.cls ≠ "java/lang/invoke/VarHandle" ∧ (parseMethodDescriptor yX7_append.desc).map (fun d => d.parameters.length) = some 1 := by decide +kernel
theorem hd_X11_feed : yX11_feed.cls ≠ "java/lang/invoke/MethodHandle" ∧ yX11_feed.cls ≠ "java/lang/invoke/VarHandle" ∧ (parseMethodDescriptor yX11_feed.desc).map (fun d => d.parameters.length) = some 1 := by decide +kernel
theorem hd_X11_get : yX11_get.cls ≠ "java/lang/invoke/MethodHandle" ∧ yX11_get.cls ≠ "java/lang/invoke/VarHandle" ∧ (parseMethodDescriptor yX11_get.desc).map (fun d => d.parameters.length) = some 2 := by decide +kernel
theorem hd_X11_image : yX11_image.cls ≠ "java/lang/invoke/MethodHandle" ∧ yX11_image.cls ≠ "java/lang/invoke/VarHandle" ∧ (parseMethodDescriptor yX11_image.desc).map (fun d => d.parameters.length) = some 1 := by decide +kernel
theorem hd_X11_isInt : yX11_isInt.cls ≠ "java/lang/invoke/MethodHandle" ∧ yX11_isInt.cls ≠ "java/lang/invoke/VarHandle" ∧ (parseMethodDescriptor yX11_isInt.desc).map (fun d => d.parameters.length) = some 1 := by decide +kernel
theorem hd_X11_isPlaceOrEnd : yX11_isPlaceOrEnd.cls ≠ "java/lang/invoke/MethodHandle" ∧ yX11_isPlaceOrEnd.cls ≠ "java/lang/invoke/VarHandle" ∧ (parseMethodDescriptor yX11_isPlaceOrEnd.desc).map (fun d => d.parameters.length) = some 2 := by decide +kernel
theorem hd_X11_join : yX11_join.cls ≠ "java/lang/invoke/MethodHandle" ∧ yX11_join.cls ≠ "java/lang/invoke/VarHandle" ∧ (parseMethodDescriptor yX11_join.desc).map (fun d => d.parameters.length) = some 4 := by decide +kernel
theorem hd_X0_kindNumber : yX0_kindNumber.cls ≠ "java/lang/invoke/MethodHandle" ∧ yX0_kindNumber.cls ≠ "java/lang/invoke/VarHandle" ∧ (parseMethodDescriptor yX0_kindNumber.desc).map (fun d => d.parameters.length) = some 0 := by decide +kernel
theorem hd_X2_kindNumber : yX2_kindNumber.cls ≠ "java/lang/invoke/MethodHandle" ∧ yX2_kindNumber.cls ≠ "java/lang/invoke/VarHandle" ∧ (parseMethodDescriptor yX2_kindNumber.desc).map (fun d => d.parameters.length) = some 0 := by decide +kernel
theorem hd_X4_kindNumber : yX4_kindNumber.cls ≠ "java/lang/invoke/MethodHandle" ∧ yX4_kindNumber.cls ≠ "java/lang/invoke/VarHandle" ∧ (parseMethodDescriptor yX4_kindNumber.desc).map (fun d => d.parameters.length) = some 0 := by decide +kernel
theorem hd_X8_kindNumber : yX8_kindNumber.cls ≠ "java/lang/invoke/MethodHandle" ∧ yX8_kindNumber.cls ≠ "java/lang/invoke/VarHandle" ∧ (parseMethodDescriptor yX8_kindNumber.desc).map (fun d => d.parameters.length) = some 0 := by decide +kernel
theorem hd_X10_kindNumber : yX10_kindNumber.cls ≠ "java/lang/invoke/MethodHandle" ∧ yX10_kindNumber.cls ≠ "java/lang/invoke/VarHandle" ∧ (parseMethodDescriptor yX10_kindNumber.desc).map (fun d => d.parameters.length) = some 0 := by decide +kernel
theorem hd_X11_kind : yX11_kind.cls ≠ "java/lang/invoke/MethodHandle" ∧ yX11_kind.cls ≠ "java/lang/invoke/VarHandle" ∧ (parseMethodDescriptor yX11_kind.desc).map (fun d => d.parameters.length) = some 1 := by decide +kernel
theorem hd_X11_last : yX11_last.cls ≠ "java/lang/invoke/MethodHandle" ∧ yX11_last.cls ≠ "java/lang/invoke/VarHandle" ∧ (parseMethodDescriptor yX11_last.desc).map (fun d => d.parameters.length) = some 3 := by decide +kernel
theorem hd_X6_init : yX6_init.cls ≠ "java/lang/invoke/MethodHandle" ∧ yX6_init.cls ≠ "java/lang/invoke/VarHandle" ∧ (parseMethodDescriptor yX6_init.desc).map (fun d => d.parameters.length) = some 2 := by decide +kernel
theorem hd_X0_init : yX0_init.cls ≠ "java/lang/invoke/MethodHandle" ∧ yX0_init.cls ≠ "java/lang/invoke/VarHandle" ∧ (parseMethodDescriptor yX0_init.desc).map (fun d => d.parameters.length) = some 2 := by decide +kernel
theorem hd_X2_init : yX2_init.cls ≠ "java/lang/invoke/MethodHandle" ∧ yX2_init.cls ≠ "java/lang/invoke/VarHandle" ∧ (parseMethodDescriptor yX2_init.desc).map (fun d => d.parameters.length) = some 2 := by decide +kernel
theorem hd_X10_init : yX10_init.cls ≠ "java/lang/invoke/MethodHandle" ∧ yX10_init.cls ≠ "java/lang/invoke/VarHandle" ∧ (parseMethodDescriptor yX10_init.desc).map (fun d => d.parameters.length) = some 2 := by decide +kernel
theorem hd_X4_init : yX4_init.cls ≠ "java/lang/invoke/MethodHandle" ∧ yX4_init.cls ≠ "java/lang/invoke/VarHandle" ∧ (parseMethodDescriptor yX4_init.desc).map (fun d => d.parameters.length) = some 2 := by decide +kernel
theorem hd_X8_init : yX8_init.cls ≠ "java/lang/invoke/MethodHandle" ∧ yX8_init.cls ≠ "java/lang/invoke/VarHandle" ∧ (parseMethodDescriptor yX8_init.desc).map (fun d => d.parameters.length) = some 2 := by decide +kernel
theorem hd_X11_newRun : yX11_newRun.cls ≠ "java/lang/invoke/MethodHandle" ∧ yX11_newRun.cls ≠ "java/lang/invoke/VarHandle" ∧ (parseMethodDescriptor yX11_newRun.desc).map (fun d => d.parameters.length) = some 3 := by decide +kernel
theorem hd_X11_takeOverRuns : yX11_takeOverRuns.cls ≠ "java/lang/invoke/MethodHandle" ∧ yX11_takeOverRuns.cls ≠ "java/lang/invoke/VarHandle" ∧ (parseMethodDescriptor yX11_takeOverRuns.desc).map (fun d => d.parameters.length) = some 0 := by decide +kernel
theorem hd_X1_appendRun : yX1_appendRun.cls ≠ "java/lang/invoke/MethodHandle" ∧ yX1_appendRun.cls ≠ "java/lang/invoke/VarHandle" ∧ (parseMethodDescriptor yX1_appendRun.desc).map (fun d => d.parameters.length) = some 1 := by decide +kernel
theorem hd_J7_fill_53178 : yJ7_fill_53178.cls ≠ "java/lang/invoke/MethodHandle" ∧ yJ7_fill_53178.cls ≠ "java/lang/invoke/VarHandle" ∧ (parseMethodDescriptor yJ7_fill_53178.desc).map (fun d => d.parameters.length) = some 2 := by decide +kernel
theorem hd_X1_clearTo : yX1_clearTo.cls ≠ "java/lang/invoke/MethodHandle" ∧ yX1_clearTo.cls ≠ "java/lang/invoke/VarHandle" ∧ (parseMethodDescriptor yX1_clearTo.desc).map (fun d => d.parameters.length) = some 1 := by decide +kernel
theorem hd_X7_emptyTape : yX7_emptyTape.cls ≠ "java/lang/invoke/MethodHandle" ∧ yX7_emptyTape.cls ≠ "java/lang/invoke/VarHandle" ∧ (parseMethodDescriptor yX7_emptyTape.desc).map (fun d => d.parameters.length) = some 0 := by decide +kernel
theorem hd_X7_byteAt : yX7_byteAt.cls ≠ "java/lang/invoke/MethodHandle" ∧ yX7_byteAt.cls ≠ "java/lang/invoke/VarHandle" ∧ (parseMethodDescriptor yX7_byteAt.desc).map (fun d => d.parameters.length) = some 1 := by decide +kernel
theorem hd_X7_isFigure : yX7_isFigure.cls ≠ "java/lang/invoke/MethodHandle" ∧ yX7_isFigure.cls ≠ "java/lang/invoke/VarHandle" ∧ (parseMethodDescriptor yX7_isFigure.desc).map (fun d => d.parameters.length) = some 1 := by decide +kernel
theorem hd_X7_readNumber : yX7_readNumber.cls ≠ "java/lang/invoke/MethodHandle" ∧ yX7_readNumber.cls ≠ "java/lang/invoke/VarHandle" ∧ (parseMethodDescriptor yX7_readNumber.desc).map (fun d => d.parameters.length) = some 0 := by decide +kernel
theorem hd_X7_readSemicolon : yX7_readSemicolon.cls ≠ "java/lang/invoke/MethodHandle" ∧ yX7_readSemicolon.cls ≠ "java/lang/invoke/VarHandle" ∧ (parseMethodDescriptor yX7_readSemicolon.desc).map (fun d => d.parameters.length) = some 0 := by decide +kernel
theorem hd_X7_kindOfLetter : yX7_kindOfLetter.cls ≠ "java/lang/invoke/MethodHandle" ∧ yX7_kindOfLetter.cls ≠ "java/lang/invoke/VarHandle" ∧ (parseMethodDescriptor yX7_kindOfLetter.desc).map (fun d => d.parameters.length) = some 1 := by decide +kernel
theorem hd_X7_readSort : yX7_readSort.cls ≠ "java/lang/invoke/MethodHandle" ∧ yX7_readSort.cls ≠ "java/lang/invoke/VarHandle" ∧ (parseMethodDescriptor yX7_readSort.desc).map (fun d => d.parameters.length) = some 0 := by decide +kernel
theorem hd_X7_readRun : yX7_readRun.cls ≠ "java/lang/invoke/MethodHandle" ∧ yX7_readRun.cls ≠ "java/lang/invoke/VarHandle" ∧ (parseMethodDescriptor yX7_readRun.desc).map (fun d => d.parameters.length) = some 0 := by decide +kernel
theorem hd_X7_readTape : yX7_readTape.cls ≠ "java/lang/invoke/MethodHandle" ∧ yX7_readTape.cls ≠ "java/lang/invoke/VarHandle" ∧ (parseMethodDescriptor yX7_readTape.desc).map (fun d => d.parameters.length) = some 0 := by decide +kernel
theorem hd_X11_load : yX11_load.cls ≠ "java/lang/invoke/MethodHandle" ∧ yX11_load.cls ≠ "java/lang/invoke/VarHandle" ∧ (parseMethodDescriptor yX11_load.desc).map (fun d => d.parameters.length) = some 1 := by decide +kernel
theorem hd_X11_longest : yX11_longest.cls ≠ "java/lang/invoke/MethodHandle" ∧ yX11_longest.cls ≠ "java/lang/invoke/VarHandle" ∧ (parseMethodDescriptor yX11_longest.desc).map (fun d => d.parameters.length) = some 3 := by decide +kernel
theorem hd_X11_maskOf : yX11_maskOf.cls ≠ "java/lang/invoke/MethodHandle" ∧ yX11_maskOf.cls ≠ "java/lang/invoke/VarHandle" ∧ (parseMethodDescriptor yX11_maskOf.desc).map (fun d => d.parameters.length) = some 2 := by decide +kernel
theorem hd_X11_mask : yX11_mask.cls ≠ "java/lang/invoke/MethodHandle" ∧ yX11_mask.cls ≠ "java/lang/invoke/VarHandle" ∧ (parseMethodDescriptor yX11_mask.desc).map (fun d => d.parameters.length) = some 2 := by decide +kernel
theorem hd_X11_next : yX11_next.cls ≠ "java/lang/invoke/MethodHandle" ∧ yX11_next.cls ≠ "java/lang/invoke/VarHandle" ∧ (parseMethodDescriptor yX11_next.desc).map (fun d => d.parameters.length) = some 3 := by decide +kernel
theorem hd_X11_offset : yX11_offset.cls ≠ "java/lang/invoke/MethodHandle" ∧ yX11_offset.cls ≠ "java/lang/invoke/VarHandle" ∧ (parseMethodDescriptor yX11_offset.desc).map (fun d => d.parameters.length) = some 1 := by decide +kernel
theorem hd_X11_ones : yX11_ones.cls ≠ "java/lang/invoke/MethodHandle" ∧ yX11_ones.cls ≠ "java/lang/invoke/VarHandle" ∧ (parseMethodDescriptor yX11_ones.desc).map (fun d => d.parameters.length) = some 1 := by decide +kernel
theorem hd_X1_payloadWord : yX1_payloadWord.cls ≠ "java/lang/invoke/MethodHandle" ∧ yX1_payloadWord.cls ≠ "java/lang/invoke/VarHandle" ∧ (parseMethodDescriptor yX1_payloadWord.desc).map (fun d => d.parameters.length) = some 1 := by decide +kernel
theorem hd_X11_payload : yX11_payload.cls ≠ "java/lang/invoke/MethodHandle" ∧ yX11_payload.cls ≠ "java/lang/invoke/VarHandle" ∧ (parseMethodDescriptor yX11_payload.desc).map (fun d => d.parameters.length) = some 2 := by decide +kernel
theorem hd_X11_put : yX11_put.cls ≠ "java/lang/invoke/MethodHandle" ∧ yX11_put.cls ≠ "java/lang/invoke/VarHandle" ∧ (parseMethodDescriptor yX11_put.desc).map (fun d => d.parameters.length) = some 3 := by decide +kernel
theorem hd_X11_rank : yX11_rank.cls ≠ "java/lang/invoke/MethodHandle" ∧ yX11_rank.cls ≠ "java/lang/invoke/VarHandle" ∧ (parseMethodDescriptor yX11_rank.desc).map (fun d => d.parameters.length) = some 3 := by decide +kernel
theorem hd_X3_forgetAll : yX3_forgetAll.cls ≠ "java/lang/invoke/MethodHandle" ∧ yX3_forgetAll.cls ≠ "java/lang/invoke/VarHandle" ∧ (parseMethodDescriptor yX3_forgetAll.desc).map (fun d => d.parameters.length) = some 0 := by decide +kernel
theorem hd_X11_restore : yX11_restore.cls ≠ "java/lang/invoke/MethodHandle" ∧ yX11_restore.cls ≠ "java/lang/invoke/VarHandle" ∧ (parseMethodDescriptor yX11_restore.desc).map (fun d => d.parameters.length) = some 1 := by decide +kernel
theorem hd_X5_begin : yX5_begin.cls ≠ "java/lang/invoke/MethodHandle" ∧ yX5_begin.cls ≠ "java/lang/invoke/VarHandle" ∧ (parseMethodDescriptor yX5_begin.desc).map (fun d => d.parameters.length) = some 2 := by decide +kernel
theorem hd_X11_row : yX11_row.cls ≠ "java/lang/invoke/MethodHandle" ∧ yX11_row.cls ≠ "java/lang/invoke/VarHandle" ∧ (parseMethodDescriptor yX11_row.desc).map (fun d => d.parameters.length) = some 3 := by decide +kernel
theorem hd_X11_select : yX11_select.cls ≠ "java/lang/invoke/MethodHandle" ∧ yX11_select.cls ≠ "java/lang/invoke/VarHandle" ∧ (parseMethodDescriptor yX11_select.desc).map (fun d => d.parameters.length) = some 3 := by decide +kernel
theorem hd_X5_store : yX5_store.cls ≠ "java/lang/invoke/MethodHandle" ∧ yX5_store.cls ≠ "java/lang/invoke/VarHandle" ∧ (parseMethodDescriptor yX5_store.desc).map (fun d => d.parameters.length) = some 2 := by decide +kernel
theorem hd_X11_set : yX11_set.cls ≠ "java/lang/invoke/MethodHandle" ∧ yX11_set.cls ≠ "java/lang/invoke/VarHandle" ∧ (parseMethodDescriptor yX11_set.desc).map (fun d => d.parameters.length) = some 3 := by decide +kernel
theorem hd_X11_size : yX11_size.cls ≠ "java/lang/invoke/MethodHandle" ∧ yX11_size.cls ≠ "java/lang/invoke/VarHandle" ∧ (parseMethodDescriptor yX11_size.desc).map (fun d => d.parameters.length) = some 2 := by decide +kernel
theorem hd_X11_status : yX11_status.cls ≠ "java/lang/invoke/MethodHandle" ∧ yX11_status.cls ≠ "java/lang/invoke/VarHandle" ∧ (parseMethodDescriptor yX11_status.desc).map (fun d => d.parameters.length) = some 0 := by decide +kernel
theorem hd_X11_stretches : yX11_stretches.cls ≠ "java/lang/invoke/MethodHandle" ∧ yX11_stretches.cls ≠ "java/lang/invoke/VarHandle" ∧ (parseMethodDescriptor yX11_stretches.desc).map (fun d => d.parameters.length) = some 1 := by decide +kernel
theorem hd_X5_tellsPlaces : yX5_tellsPlaces.cls ≠ "java/lang/invoke/MethodHandle" ∧ yX5_tellsPlaces.cls ≠ "java/lang/invoke/VarHandle" ∧ (parseMethodDescriptor yX5_tellsPlaces.desc).map (fun d => d.parameters.length) = some 2 := by decide +kernel
theorem hd_X11_take : yX11_take.cls ≠ "java/lang/invoke/MethodHandle" ∧ yX11_take.cls ≠ "java/lang/invoke/VarHandle" ∧ (parseMethodDescriptor yX11_take.desc).map (fun d => d.parameters.length) = some 4 := by decide +kernel
theorem hd_X11_tell : yX11_tell.cls ≠ "java/lang/invoke/MethodHandle" ∧ yX11_tell.cls ≠ "java/lang/invoke/VarHandle" ∧ (parseMethodDescriptor yX11_tell.desc).map (fun d => d.parameters.length) = some 4 := by decide +kernel
theorem hd_X11_trace : yX11_trace.cls ≠ "java/lang/invoke/MethodHandle" ∧ yX11_trace.cls ≠ "java/lang/invoke/VarHandle" ∧ (parseMethodDescriptor yX11_trace.desc).map (fun d => d.parameters.length) = some 1 := by decide +kernel
theorem hd_X1_invert : yX1_invert.cls ≠ "java/lang/invoke/MethodHandle" ∧ yX1_invert.cls ≠ "java/lang/invoke/VarHandle" ∧ (parseMethodDescriptor yX1_invert.desc).map (fun d => d.parameters.length) = some 0 := by decide +kernel
theorem hd_X11_turn : yX11_turn.cls ≠ "java/lang/invoke/MethodHandle" ∧ yX11_turn.cls ≠ "java/lang/invoke/VarHandle" ∧ (parseMethodDescriptor yX11_turn.desc).map (fun d => d.parameters.length) = some 1 := by decide +kernel
theorem hd_X3_giveBack : yX3_giveBack.cls ≠ "java/lang/invoke/MethodHandle" ∧ yX3_giveBack.cls ≠ "java/lang/invoke/VarHandle" ∧ (parseMethodDescriptor yX3_giveBack.desc).map (fun d => d.parameters.length) = some 1 := by decide +kernel
theorem hd_X11_undo : yX11_undo.cls ≠ "java/lang/invoke/MethodHandle" ∧ yX11_undo.cls ≠ "java/lang/invoke/VarHandle" ∧ (parseMethodDescriptor yX11_undo.desc).map (fun d => d.parameters.length) = some 0 := by decide +kernel
theorem hd_X11_weight : yX11_weight.cls ≠ "java/lang/invoke/MethodHandle" ∧ yX11_weight.cls ≠ "java/lang/invoke/VarHandle" ∧ (parseMethodDescriptor yX11_weight.desc).map (fun d => d.parameters.length) = some 2 := by decide +kernel
theorem hd_X12_init : yX12_init.cls ≠ "java/lang/invoke/MethodHandle" ∧ yX12_init.cls ≠ "java/lang/invoke/VarHandle" ∧ (parseMethodDescriptor yX12_init.desc).map (fun d => d.parameters.length) = some 0 := by decide +kernel
theorem hd_X12_puts : yX12_puts.cls ≠ "java/lang/invoke/MethodHandle" ∧ yX12_puts.cls ≠ "java/lang/invoke/VarHandle" ∧ (parseMethodDescriptor yX12_puts.desc).map (fun d => d.parameters.length) = some 4 := by decide +kernel
theorem hd_X12_appends : yX12_appends.cls ≠ "java/lang/invoke/MethodHandle" ∧ yX12_appends.cls ≠ "java/lang/invoke/VarHandle" ∧ (parseMethodDescriptor yX12_appends.desc).map (fun d => d.parameters.length) = some 2 := by decide +kernel
theorem hd_X12_bitsOf : yX12_bitsOf.cls ≠ "java/lang/invoke/MethodHandle" ∧ yX12_bitsOf.cls ≠ "java/lang/invoke/VarHandle" ∧ (parseMethodDescriptor yX12_bitsOf.desc).map (fun d => d.parameters.length) = some 1 := by decide +kernel
theorem hd_X12_in : yX12_in.cls ≠ "java/lang/invoke/MethodHandle" ∧ yX12_in.cls ≠ "java/lang/invoke/VarHandle" ∧ (parseMethodDescriptor yX12_in.desc).map (fun d => d.parameters.length) = some 3 := by decide +kernel
theorem hd_X12_isValue : yX12_isValue.cls ≠ "java/lang/invoke/MethodHandle" ∧ yX12_isValue.cls ≠ "java/lang/invoke/VarHandle" ∧ (parseMethodDescriptor yX12_isValue.desc).map (fun d => d.parameters.length) = some 1 := by decide +kernel
theorem hd_X12_isVector : yX12_isVector.cls ≠ "java/lang/invoke/MethodHandle" ∧ yX12_isVector.cls ≠ "java/lang/invoke/VarHandle" ∧ (parseMethodDescriptor yX12_isVector.desc).map (fun d => d.parameters.length) = some 1 := by decide +kernel
theorem hd_X12_copies : yX12_copies.cls ≠ "java/lang/invoke/MethodHandle" ∧ yX12_copies.cls ≠ "java/lang/invoke/VarHandle" ∧ (parseMethodDescriptor yX12_copies.desc).map (fun d => d.parameters.length) = some 4 := by decide +kernel
theorem hd_X12_notes : yX12_notes.cls ≠ "java/lang/invoke/MethodHandle" ∧ yX12_notes.cls ≠ "java/lang/invoke/VarHandle" ∧ (parseMethodDescriptor yX12_notes.desc).map (fun d => d.parameters.length) = some 0 := by decide +kernel
theorem hd_X12_add : yX12_add.cls ≠ "java/lang/invoke/MethodHandle" ∧ yX12_add.cls ≠ "java/lang/invoke/VarHandle" ∧ (parseMethodDescriptor yX12_add.desc).map (fun d => d.parameters.length) = some 3 := by decide +kernel
theorem hd_X12_byteAt : yX12_byteAt.cls ≠ "java/lang/invoke/MethodHandle" ∧ yX12_byteAt.cls ≠ "java/lang/invoke/VarHandle" ∧ (parseMethodDescriptor yX12_byteAt.desc).map (fun d => d.parameters.length) = some 1 := by decide +kernel
theorem hd_X12_advances : yX12_advances.cls ≠ "java/lang/invoke/MethodHandle" ∧ yX12_advances.cls ≠ "java/lang/invoke/VarHandle" ∧ (parseMethodDescriptor yX12_advances.desc).map (fun d => d.parameters.length) = some 0 := by decide +kernel
theorem hd_X12_sortOf : yX12_sortOf.cls ≠ "java/lang/invoke/MethodHandle" ∧ yX12_sortOf.cls ≠ "java/lang/invoke/VarHandle" ∧ (parseMethodDescriptor yX12_sortOf.desc).map (fun d => d.parameters.length) = some 1 := by decide +kernel
theorem hd_X12_alike : yX12_alike.cls ≠ "java/lang/invoke/MethodHandle" ∧ yX12_alike.cls ≠ "java/lang/invoke/VarHandle" ∧ (parseMethodDescriptor yX12_alike.desc).map (fun d => d.parameters.length) = some 3 := by decide +kernel
theorem hd_X12_bit : yX12_bit.cls ≠ "java/lang/invoke/MethodHandle" ∧ yX12_bit.cls ≠ "java/lang/invoke/VarHandle" ∧ (parseMethodDescriptor yX12_bit.desc).map (fun d => d.parameters.length) = some 3 := by decide +kernel
theorem hd_X12_onesAhead : yX12_onesAhead.cls ≠ "java/lang/invoke/MethodHandle" ∧ yX12_onesAhead.cls ≠ "java/lang/invoke/VarHandle" ∧ (parseMethodDescriptor yX12_onesAhead.desc).map (fun d => d.parameters.length) = some 3 := by decide +kernel
theorem hd_X12_allOnes : yX12_allOnes.cls ≠ "java/lang/invoke/MethodHandle" ∧ yX12_allOnes.cls ≠ "java/lang/invoke/VarHandle" ∧ (parseMethodDescriptor yX12_allOnes.desc).map (fun d => d.parameters.length) = some 1 := by decide +kernel
theorem hd_X12_kindIn : yX12_kindIn.cls ≠ "java/lang/invoke/MethodHandle" ∧ yX12_kindIn.cls ≠ "java/lang/invoke/VarHandle" ∧ (parseMethodDescriptor yX12_kindIn.desc).map (fun d => d.parameters.length) = some 1 := by decide +kernel
theorem hd_X12_traces : yX12_traces.cls ≠ "java/lang/invoke/MethodHandle" ∧ yX12_traces.cls ≠ "java/lang/invoke/VarHandle" ∧ (parseMethodDescriptor yX12_traces.desc).map (fun d => d.parameters.length) = some 1 := by decide +kernel
theorem hd_X12_alternateSize : yX12_alternateSize.cls ≠ "java/lang/invoke/MethodHandle" ∧ yX12_alternateSize.cls ≠ "java/lang/invoke/VarHandle" ∧ (parseMethodDescriptor yX12_alternateSize.desc).map (fun d => d.parameters.length) = some 1 := by decide +kernel
theorem hd_X12_alternateMark : yX12_alternateMark.cls ≠ "java/lang/invoke/MethodHandle" ∧ yX12_alternateMark.cls ≠ "java/lang/invoke/VarHandle" ∧ (parseMethodDescriptor yX12_alternateMark.desc).map (fun d => d.parameters.length) = some 1 := by decide +kernel
theorem hd_X12_found : yX12_found.cls ≠ "java/lang/invoke/MethodHandle" ∧ yX12_found.cls ≠ "java/lang/invoke/VarHandle" ∧ (parseMethodDescriptor yX12_found.desc).map (fun d => d.parameters.length) = some 1 := by decide +kernel
theorem hd_X12_isRun : yX12_isRun.cls ≠ "java/lang/invoke/MethodHandle" ∧ yX12_isRun.cls ≠ "java/lang/invoke/VarHandle" ∧ (parseMethodDescriptor yX12_isRun.desc).map (fun d => d.parameters.length) = some 1 := by decide +kernel
theorem hd_X12_well : yX12_well.cls ≠ "java/lang/invoke/MethodHandle" ∧ yX12_well.cls ≠ "java/lang/invoke/VarHandle" ∧ (parseMethodDescriptor yX12_well.desc).map (fun d => d.parameters.length) = some 1 := by decide +kernel
theorem hd_X12_as : yX12_as.cls ≠ "java/lang/invoke/MethodHandle" ∧ yX12_as.cls ≠ "java/lang/invoke/VarHandle" ∧ (parseMethodDescriptor yX12_as.desc).map (fun d => d.parameters.length) = some 2 := by decide +kernel
theorem hd_X12_bitOf : yX12_bitOf.cls ≠ "java/lang/invoke/MethodHandle" ∧ yX12_bitOf.cls ≠ "java/lang/invoke/VarHandle" ∧ (parseMethodDescriptor yX12_bitOf.desc).map (fun d => d.parameters.length) = some 2 := by decide +kernel
theorem hd_X12_onesOf : yX12_onesOf.cls ≠ "java/lang/invoke/MethodHandle" ∧ yX12_onesOf.cls ≠ "java/lang/invoke/VarHandle" ∧ (parseMethodDescriptor yX12_onesOf.desc).map (fun d => d.parameters.length) = some 1 := by decide +kernel
theorem hd_X12_zerosMark : yX12_zerosMark.cls ≠ "java/lang/invoke/MethodHandle" ∧ yX12_zerosMark.cls ≠ "java/lang/invoke/VarHandle" ∧ (parseMethodDescriptor yX12_zerosMark.desc).map (fun d => d.parameters.length) = some 1 := by decide +kernel
theorem hd_X12_zerosSize : yX12_zerosSize.cls ≠ "java/lang/invoke/MethodHandle" ∧ yX12_zerosSize.cls ≠ "java/lang/invoke/VarHandle" ∧ (parseMethodDescriptor yX12_zerosSize.desc).map (fun d => d.parameters.length) = some 1 := by decide +kernel
theorem hd_X12_ask : yX12_ask.cls ≠ "java/lang/invoke/MethodHandle" ∧ yX12_ask.cls ≠ "java/lang/invoke/VarHandle" ∧ (parseMethodDescriptor yX12_ask.desc).map (fun d => d.parameters.length) = some 2 := by decide +kernel
theorem hd_X12_widthOf : yX12_widthOf.cls ≠ "java/lang/invoke/MethodHandle" ∧ yX12_widthOf.cls ≠ "java/lang/invoke/VarHandle" ∧ (parseMethodDescriptor yX12_widthOf.desc).map (fun d => d.parameters.length) = some 1 := by decide +kernel
theorem hd_X12_begins : yX12_begins.cls ≠ "java/lang/invoke/MethodHandle" ∧ yX12_begins.cls ≠ "java/lang/invoke/VarHandle" ∧ (parseMethodDescriptor yX12_begins.desc).map (fun d => d.parameters.length) = some 3 := by decide +kernel
theorem hd_X12_bits : yX12_bits.cls ≠ "java/lang/invoke/MethodHandle" ∧ yX12_bits.cls ≠ "java/lang/invoke/VarHandle" ∧ (parseMethodDescriptor yX12_bits.desc).map (fun d => d.parameters.length) = some 1 := by decide +kernel
theorem hd_X12_blocks : yX12_blocks.cls ≠ "java/lang/invoke/MethodHandle" ∧ yX12_blocks.cls ≠ "java/lang/invoke/VarHandle" ∧ (parseMethodDescriptor yX12_blocks.desc).map (fun d => d.parameters.length) = some 2 := by decide +kernel
theorem hd_X12_offsetOf : yX12_offsetOf.cls ≠ "java/lang/invoke/MethodHandle" ∧ yX12_offsetOf.cls ≠ "java/lang/invoke/VarHandle" ∧ (parseMethodDescriptor yX12_offsetOf.desc).map (fun d => d.parameters.length) = some 1 := by decide +kernel
theorem hd_X12_block : yX12_block.cls ≠ "java/lang/invoke/MethodHandle" ∧ yX12_block.cls ≠ "java/lang/invoke/VarHandle" ∧ (parseMethodDescriptor yX12_block.desc).map (fun d => d.parameters.length) = some 3 := by decide +kernel
theorem hd_X12_choose : yX12_choose.cls ≠ "java/lang/invoke/MethodHandle" ∧ yX12_choose.cls ≠ "java/lang/invoke/VarHandle" ∧ (parseMethodDescriptor yX12_choose.desc).map (fun d => d.parameters.length) = some 2 := by decide +kernel
theorem hd_X12_isMissing : yX12_isMissing.cls ≠ "java/lang/invoke/MethodHandle" ∧ yX12_isMissing.cls ≠ "java/lang/invoke/VarHandle" ∧ (parseMethodDescriptor yX12_isMissing.desc).map (fun d => d.parameters.length) = some 1 := by decide +kernel
theorem hd_X12_isPart : yX12_isPart.cls ≠ "java/lang/invoke/MethodHandle" ∧ yX12_isPart.cls ≠ "java/lang/invoke/VarHandle" ∧ (parseMethodDescriptor yX12_isPart.desc).map (fun d => d.parameters.length) = some 3 := by decide +kernel
theorem hd_X12_isRow : yX12_isRow.cls ≠ "java/lang/invoke/MethodHandle" ∧ yX12_isRow.cls ≠ "java/lang/invoke/VarHandle" ∧ (parseMethodDescriptor yX12_isRow.desc).map (fun d => d.parameters.length) = some 1 := by decide +kernel
theorem hd_X12_copy : yX12_copy.cls ≠ "java/lang/invoke/MethodHandle" ∧ yX12_copy.cls ≠ "java/lang/invoke/VarHandle" ∧ (parseMethodDescriptor yX12_copy.desc).map (fun d => d.parameters.length) = some 5 := by decide +kernel
theorem hd_X12_onesOfAll : yX12_onesOfAll.cls ≠ "java/lang/invoke/MethodHandle" ∧ yX12_onesOfAll.cls ≠ "java/lang/invoke/VarHandle" ∧ (parseMethodDescriptor yX12_onesOfAll.desc).map (fun d => d.parameters.length) = some 0 := by decide +kernel
theorem hd_X12_count : yX12_count.cls ≠ "java/lang/invoke/MethodHandle" ∧ yX12_count.cls ≠ "java/lang/invoke/VarHandle" ∧ (parseMethodDescriptor yX12_count.desc).map (fun d => d.parameters.length) = some 1 := by decide +kernel
theorem hd_X12_cut : yX12_cut.cls ≠ "java/lang/invoke/MethodHandle" ∧ yX12_cut.cls ≠ "java/lang/invoke/VarHandle" ∧ (parseMethodDescriptor yX12_cut.desc).map (fun d => d.parameters.length) = some 2 := by decide +kernel
theorem hd_X12_drawn : yX12_drawn.cls ≠ "java/lang/invoke/MethodHandle" ∧ yX12_drawn.cls ≠ "java/lang/invoke/VarHandle" ∧ (parseMethodDescriptor yX12_drawn.desc).map (fun d => d.parameters.length) = some 4 := by decide +kernel
theorem hd_X12_drop : yX12_drop.cls ≠ "java/lang/invoke/MethodHandle" ∧ yX12_drop.cls ≠ "java/lang/invoke/VarHandle" ∧ (parseMethodDescriptor yX12_drop.desc).map (fun d => d.parameters.length) = some 1 := by decide +kernel
theorem hd_X12_empties : yX12_empties.cls ≠ "java/lang/invoke/MethodHandle" ∧ yX12_empties.cls ≠ "java/lang/invoke/VarHandle" ∧ (parseMethodDescriptor yX12_empties.desc).map (fun d => d.parameters.length) = some 2 := by decide +kernel
theorem hd_X12_entry : yX12_entry.cls ≠ "java/lang/invoke/MethodHandle" ∧ yX12_entry.cls ≠ "java/lang/invoke/VarHandle" ∧ (parseMethodDescriptor yX12_entry.desc).map (fun d => d.parameters.length) = some 3 := by decide +kernel
theorem hd_X12_fault : yX12_fault.cls ≠ "java/lang/invoke/MethodHandle" ∧ yX12_fault.cls ≠ "java/lang/invoke/VarHandle" ∧ (parseMethodDescriptor yX12_fault.desc).map (fun d => d.parameters.length) = some 0 := by decide +kernel
theorem hd_X12_feed : yX12_feed.cls ≠ "java/lang/invoke/MethodHandle" ∧ yX12_feed.cls ≠ "java/lang/invoke/VarHandle" ∧ (parseMethodDescriptor yX12_feed.desc).map (fun d => d.parameters.length) = some 1 := by decide +kernel
theorem hd_X12_isWell : yX12_isWell.cls ≠ "java/lang/invoke/MethodHandle" ∧ yX12_isWell.cls ≠ "java/lang/invoke/VarHandle" ∧ (parseMethodDescriptor yX12_isWell.desc).map (fun d => d.parameters.length) = some 0 := by decide +kernel
theorem hd_X12_takes : yX12_takes.cls ≠ "java/lang/invoke/MethodHandle" ∧ yX12_takes.cls ≠ "java/lang/invoke/VarHandle" ∧ (parseMethodDescriptor yX12_takes.desc).map (fun d => d.parameters.length) = some 2 := by decide +kernel
theorem hd_X12_figure : yX12_figure.cls ≠ "java/lang/invoke/MethodHandle" ∧ yX12_figure.cls ≠ "java/lang/invoke/VarHandle" ∧ (parseMethodDescriptor yX12_figure.desc).map (fun d => d.parameters.length) = some 2 := by decide +kernel
theorem hd_X12_isBit : yX12_isBit.cls ≠ "java/lang/invoke/MethodHandle" ∧ yX12_isBit.cls ≠ "java/lang/invoke/VarHandle" ∧ (parseMethodDescriptor yX12_isBit.desc).map (fun d => d.parameters.length) = some 2 := by decide +kernel
theorem hd_X12_get : yX12_get.cls ≠ "java/lang/invoke/MethodHandle" ∧ yX12_get.cls ≠ "java/lang/invoke/VarHandle" ∧ (parseMethodDescriptor yX12_get.desc).map (fun d => d.parameters.length) = some 2 := by decide +kernel
theorem hd_X12_image : yX12_image.cls ≠ "java/lang/invoke/MethodHandle" ∧ yX12_image.cls ≠ "java/lang/invoke/VarHandle" ∧ (parseMethodDescriptor yX12_image.desc).map (fun d => d.parameters.length) = some 1 := by decide +kernel
theorem hd_X12_isInt : yX12_isInt.cls ≠ "java/lang/invoke/MethodHandle" ∧ yX12_isInt.cls ≠ "java/lang/invoke/VarHandle" ∧ (parseMethodDescriptor yX12_isInt.desc).map (fun d => d.parameters.length) = some 1 := by decide +kernel
theorem hd_X12_isPlace : yX12_isPlace.cls ≠ "java/lang/invoke/MethodHandle" ∧ yX12_isPlace.cls ≠ "java/lang/invoke/VarHandle" ∧ (parseMethodDescriptor yX12_isPlace.desc).map (fun d => d.parameters.length) = some 2 := by decide +kernel
theorem hd_X12_join : yX12_join.cls ≠ "java/lang/invoke/MethodHandle" ∧ yX12_join.cls ≠ "java/lang/invoke/VarHandle" ∧ (parseMethodDescriptor yX12_join.desc).map (fun d => d.parameters.length) = some 4 := by decide +kernel
theorem hd_X12_kind : yX12_kind.cls ≠ "java/lang/invoke/MethodHandle" ∧ yX12_kind.cls ≠ "java/lang/invoke/VarHandle" ∧ (parseMethodDescriptor yX12_kind.desc).map (fun d => d.parameters.length) = some 1 := by decide +kernel
theorem hd_X12_kindOf : yX12_kindOf.cls ≠ "java/lang/invoke/MethodHandle" ∧ yX12_kindOf.cls ≠ "java/lang/invoke/VarHandle" ∧ (parseMethodDescriptor yX12_kindOf.desc).map (fun d => d.parameters.length) = some 1 := by decide +kernel
theorem hd_X12_last : yX12_last.cls ≠ "java/lang/invoke/MethodHandle" ∧ yX12_last.cls ≠ "java/lang/invoke/VarHandle" ∧ (parseMethodDescriptor yX12_last.desc).map (fun d => d.parameters.length) = some 3 := by decide +kernel
theorem hd_X12_longer : yX12_longer.cls ≠ "java/lang/invoke/MethodHandle" ∧ yX12_longer.cls ≠ "java/lang/invoke/VarHandle" ∧ (parseMethodDescriptor yX12_longer.desc).map (fun d => d.parameters.length) = some 1 := by decide +kernel
theorem hd_X12_load : yX12_load.cls ≠ "java/lang/invoke/MethodHandle" ∧ yX12_load.cls ≠ "java/lang/invoke/VarHandle" ∧ (parseMethodDescriptor yX12_load.desc).map (fun d => d.parameters.length) = some 1 := by decide +kernel
theorem hd_X12_longest : yX12_longest.cls ≠ "java/lang/invoke/MethodHandle" ∧ yX12_longest.cls ≠ "java/lang/invoke/VarHandle" ∧ (parseMethodDescriptor yX12_longest.desc).map (fun d => d.parameters.length) = some 3 := by decide +kernel
theorem hd_X12_lowest : yX12_lowest.cls ≠ "java/lang/invoke/MethodHandle" ∧ yX12_lowest.cls ≠ "java/lang/invoke/VarHandle" ∧ (parseMethodDescriptor yX12_lowest.desc).map (fun d => d.parameters.length) = some 2 := by decide +kernel
theorem hd_X12_mask : yX12_mask.cls ≠ "java/lang/invoke/MethodHandle" ∧ yX12_mask.cls ≠ "java/lang/invoke/VarHandle" ∧ (parseMethodDescriptor yX12_mask.desc).map (fun d => d.parameters.length) = some 2 := by decide +kernel
theorem hd_X12_next : yX12_next.cls ≠ "java/lang/invoke/MethodHandle" ∧ yX12_next.cls ≠ "java/lang/invoke/VarHandle" ∧ (parseMethodDescriptor yX12_next.desc).map (fun d => d.parameters.length) = some 3 := by decide +kernel
theorem hd_X12_offset : yX12_offset.cls ≠ "java/lang/invoke/MethodHandle" ∧ yX12_offset.cls ≠ "java/lang/invoke/VarHandle" ∧ (parseMethodDescriptor yX12_offset.desc).map (fun d => d.parameters.length) = some 1 := by decide +kernel
theorem hd_X12_ones : yX12_ones.cls ≠ "java/lang/invoke/MethodHandle" ∧ yX12_ones.cls ≠ "java/lang/invoke/VarHandle" ∧ (parseMethodDescriptor yX12_ones.desc).map (fun d => d.parameters.length) = some 1 := by decide +kernel
theorem hd_X12_payload : yX12_payload.cls ≠ "java/lang/invoke/MethodHandle" ∧ yX12_payload.cls ≠ "java/lang/invoke/VarHandle" ∧ (parseMethodDescriptor yX12_payload.desc).map (fun d => d.parameters.length) = some 2 := by decide +kernel
theorem hd_X12_put : yX12_put.cls ≠ "java/lang/invoke/MethodHandle" ∧ yX12_put.cls ≠ "java/lang/invoke/VarHandle" ∧ (parseMethodDescriptor yX12_put.desc).map (fun d => d.parameters.length) = some 3 := by decide +kernel
theorem hd_X12_rank : yX12_rank.cls ≠ "java/lang/invoke/MethodHandle" ∧ yX12_rank.cls ≠ "java/lang/invoke/VarHandle" ∧ (parseMethodDescriptor yX12_rank.desc).map (fun d => d.parameters.length) = some 3 := by decide +kernel
theorem hd_X12_restore : yX12_restore.cls ≠ "java/lang/invoke/MethodHandle" ∧ yX12_restore.cls ≠ "java/lang/invoke/VarHandle" ∧ (parseMethodDescriptor yX12_restore.desc).map (fun d => d.parameters.length) = some 1 := by decide +kernel
theorem hd_X12_row : yX12_row.cls ≠ "java/lang/invoke/MethodHandle" ∧ yX12_row.cls ≠ "java/lang/invoke/VarHandle" ∧ (parseMethodDescriptor yX12_row.desc).map (fun d => d.parameters.length) = some 3 := by decide +kernel
theorem hd_X12_select : yX12_select.cls ≠ "java/lang/invoke/MethodHandle" ∧ yX12_select.cls ≠ "java/lang/invoke/VarHandle" ∧ (parseMethodDescriptor yX12_select.desc).map (fun d => d.parameters.length) = some 3 := by decide +kernel
theorem hd_X12_set : yX12_set.cls ≠ "java/lang/invoke/MethodHandle" ∧ yX12_set.cls ≠ "java/lang/invoke/VarHandle" ∧ (parseMethodDescriptor yX12_set.desc).map (fun d => d.parameters.length) = some 3 := by decide +kernel
theorem hd_X12_size : yX12_size.cls ≠ "java/lang/invoke/MethodHandle" ∧ yX12_size.cls ≠ "java/lang/invoke/VarHandle" ∧ (parseMethodDescriptor yX12_size.desc).map (fun d => d.parameters.length) = some 2 := by decide +kernel
theorem hd_X12_status : yX12_status.cls ≠ "java/lang/invoke/MethodHandle" ∧ yX12_status.cls ≠ "java/lang/invoke/VarHandle" ∧ (parseMethodDescriptor yX12_status.desc).map (fun d => d.parameters.length) = some 0 := by decide +kernel
theorem hd_X12_stretches : yX12_stretches.cls ≠ "java/lang/invoke/MethodHandle" ∧ yX12_stretches.cls ≠ "java/lang/invoke/VarHandle" ∧ (parseMethodDescriptor yX12_stretches.desc).map (fun d => d.parameters.length) = some 1 := by decide +kernel
theorem hd_X12_take : yX12_take.cls ≠ "java/lang/invoke/MethodHandle" ∧ yX12_take.cls ≠ "java/lang/invoke/VarHandle" ∧ (parseMethodDescriptor yX12_take.desc).map (fun d => d.parameters.length) = some 4 := by decide +kernel
theorem hd_X12_tell : yX12_tell.cls ≠ "java/lang/invoke/MethodHandle" ∧ yX12_tell.cls ≠ "java/lang/invoke/VarHandle" ∧ (parseMethodDescriptor yX12_tell.desc).map (fun d => d.parameters.length) = some 4 := by decide +kernel
theorem hd_X12_trace : yX12_trace.cls ≠ "java/lang/invoke/MethodHandle" ∧ yX12_trace.cls ≠ "java/lang/invoke/VarHandle" ∧ (parseMethodDescriptor yX12_trace.desc).map (fun d => d.parameters.length) = some 1 := by decide +kernel
theorem hd_X12_turn : yX12_turn.cls ≠ "java/lang/invoke/MethodHandle" ∧ yX12_turn.cls ≠ "java/lang/invoke/VarHandle" ∧ (parseMethodDescriptor yX12_turn.desc).map (fun d => d.parameters.length) = some 1 := by decide +kernel
theorem hd_X12_undo : yX12_undo.cls ≠ "java/lang/invoke/MethodHandle" ∧ yX12_undo.cls ≠ "java/lang/invoke/VarHandle" ∧ (parseMethodDescriptor yX12_undo.desc).map (fun d => d.parameters.length) = some 0 := by decide +kernel
theorem hd_X12_weight : yX12_weight.cls ≠ "java/lang/invoke/MethodHandle" ∧ yX12_weight.cls ≠ "java/lang/invoke/VarHandle" ∧ (parseMethodDescriptor yX12_weight.desc).map (fun d => d.parameters.length) = some 2 := by decide +kernel
theorem bi_10 : (Int8.ofInt 10).toInt32 = 10 := by decide
theorem bi_100 : (Int8.ofInt 100).toInt32 = 100 := by decide
theorem bi_11 : (Int8.ofInt 11).toInt32 = 11 := by decide
theorem bi_111 : (Int8.ofInt 111).toInt32 = 111 := by decide
theorem bi_116 : (Int8.ofInt 116).toInt32 = 116 := by decide
theorem bi_12 : (Int8.ofInt 12).toInt32 = 12 := by decide
theorem bi_122 : (Int8.ofInt 122).toInt32 = 122 := by decide
theorem bi_13 : (Int8.ofInt 13).toInt32 = 13 := by decide
theorem bi_14 : (Int8.ofInt 14).toInt32 = 14 := by decide
theorem bi_15 : (Int8.ofInt 15).toInt32 = 15 := by decide
theorem bi_16 : (Int8.ofInt 16).toInt32 = 16 := by decide
theorem bi_18 : (Int8.ofInt 18).toInt32 = 18 := by decide
theorem bi_20 : (Int8.ofInt 20).toInt32 = 20 := by decide
theorem bi_21 : (Int8.ofInt 21).toInt32 = 21 := by decide
theorem bi_22 : (Int8.ofInt 22).toInt32 = 22 := by decide
theorem bi_23 : (Int8.ofInt 23).toInt32 = 23 := by decide
theorem bi_24 : (Int8.ofInt 24).toInt32 = 24 := by decide
theorem bi_32 : (Int8.ofInt 32).toInt32 = 32 := by decide
theorem bi_33 : (Int8.ofInt 33).toInt32 = 33 := by decide
theorem bi_40 : (Int8.ofInt 40).toInt32 = 40 := by decide
theorem bi_44 : (Int8.ofInt 44).toInt32 = 44 := by decide
theorem bi_48 : (Int8.ofInt 48).toInt32 = 48 := by decide
theorem bi_57 : (Int8.ofInt 57).toInt32 = 57 := by decide
theorem bi_59 : (Int8.ofInt 59).toInt32 = 59 := by decide
theorem bi_6 : (Int8.ofInt 6).toInt32 = 6 := by decide
theorem bi_60 : (Int8.ofInt 60).toInt32 = 60 := by decide
theorem bi_63 : (Int8.ofInt 63).toInt32 = 63 := by decide
theorem bi_64 : (Int8.ofInt 64).toInt32 = 64 := by decide
theorem bi_7 : (Int8.ofInt 7).toInt32 = 7 := by decide
theorem bi_8 : (Int8.ofInt 8).toInt32 = 8 := by decide
theorem bi_97 : (Int8.ofInt 97).toInt32 = 97 := by decide
theorem bi_98 : (Int8.ofInt 98).toInt32 = 98 := by decide
theorem bi_99 : (Int8.ofInt 99).toInt32 = 99 := by decide
theorem ic_0 : Int32.ofInt 0 = 0 := by decide
theorem ic_1 : Int32.ofInt 1 = 1 := by decide
theorem ic_2 : Int32.ofInt 2 = 2 := by decide
theorem ic_3 : Int32.ofInt 3 = 3 := by decide
theorem ic_4 : Int32.ofInt 4 = 4 := by decide
theorem ic_5 : Int32.ofInt 5 = 5 := by decide
theorem ic_m1 : Int32.ofInt (-1) = (-1) := by decide
theorem lc_0 : Int64.ofNat ((0 : Fin 2) : Nat) = 0 := by decide
theorem lc_1 : Int64.ofNat ((1 : Fin 2) : Nat) = 1 := by decide
theorem si_1000 : (Int16.ofInt 1000).toInt32 = 1000 := by decide
theorem si_132 : (Int16.ofInt 132).toInt32 = 132 := by decide
theorem si_1452 : (Int16.ofInt 1452).toInt32 = 1452 := by decide
theorem si_1584 : (Int16.ofInt 1584).toInt32 = 1584 := by decide
theorem si_200 : (Int16.ofInt 200).toInt32 = 200 := by decide
theorem si_240 : (Int16.ofInt 240).toInt32 = 240 := by decide
theorem si_255 : (Int16.ofInt 255).toInt32 = 255 := by decide
theorem si_256 : (Int16.ofInt 256).toInt32 = 256 := by decide
theorem si_264 : (Int16.ofInt 264).toInt32 = 264 := by decide
theorem si_320 : (Int16.ofInt 320).toInt32 = 320 := by decide
theorem si_32767 : (Int16.ofInt 32767).toInt32 = 32767 := by decide
theorem si_480 : (Int16.ofInt 480).toInt32 = 480 := by decide
end
section
def f_X1_init (a0 : Nat) (h : xH) : Option (xH) := (xpR [1] (h ++ [xaI0 32]) a0 0 h.length).bind fun h1 => some h1
def f_X3_init_L23 : Nat → Nat → Int32 → xH → Option (Int32 × xH)
  | 0, _, _, _ => none
  | n + 1, a0, a1, h => if (12 : Int32) ≤ a1 then (some (a1, h)) else ((xgR [3] h a0 0).bind fun v3 => (f_X1_init h.length (h ++ [.inr (1, [.null, .int 0])])).bind fun q4 => if xk q4 h.length = some 1 then ((xuQ 3 q4 v3 a1 (some h.length)).bind fun h6 => f_X3_init_L23 n a0 (a1 + (1 : Int32)) h6) else none)
def f_X3_init (a0 : Nat) (h : xH) : Option (xH) := (xpR [3] (h ++ [xaR0 3 12]) a0 0 h.length).bind fun h1 => (xpR [3] (h1 ++ [xaI0 12]) a0 1 h1.length).bind fun h2 => (f_X3_init_L23 xN a0 (0 : Int32) h2).bind fun q8 => some q8.2
def f_X5_init (a0 : Nat) (h : xH) : Option (xH) := (xpR [5] (h ++ [xaI0 40]) a0 0 h.length).bind fun h1 => (xpI [5] h1 a0 1 (1 : Int32)).bind fun h2 => some h2
def f_X7_init (a0 : Nat) (h : xH) : Option (xH) := (xpR [6] (h ++ [xaI0 60]) a0 0 h.length).bind fun h1 => (xpR [6] (h1 ++ [xaI0 12]) a0 1 h1.length).bind fun h2 => (xpR [6] (h2 ++ [xaI0 12]) a0 2 h2.length).bind fun h3 => some h3
def f_X9_init (a0 : Nat) (h : xH) : Option (xH) := (xpR [8] (h ++ [xaI0 16]) a0 0 h.length).bind fun h1 => some h1
def f_X11_init_L92 : Nat → Nat → Int32 → xH → Option (Int32 × xH)
  | 0, _, _, _ => none
  | n + 1, a0, a1, h => if (8 : Int32) ≤ a1 then (some (a1, h)) else ((xgR [10] h a0 0).bind fun v14 => (f_X5_init h.length (h ++ [.inr (5, [.null, .int 0, .int 0, .int 0])])).bind fun q15 => if xk q15 h.length = some 5 then ((xuQ 2 q15 v14 a1 (some h.length)).bind fun h17 => f_X11_init_L92 n a0 (a1 + (1 : Int32)) h17) else none)
def f_X11_init_L119 : Nat → Nat → Int32 → xH → Option (Int32 × xH)
  | 0, _, _, _ => none
  | n + 1, a0, a1, h => if (4 : Int32) ≤ a1 then (some (a1, h)) else ((xgR [10] h a0 1).bind fun v20 => (f_X1_init h.length (h ++ [.inr (1, [.null, .int 0])])).bind fun q21 => if xk q21 h.length = some 1 then ((xuQ 3 q21 v20 a1 (some h.length)).bind fun h23 => f_X11_init_L119 n a0 (a1 + (1 : Int32)) h23) else none)
def f_X11_init_L145 : Nat → Nat → Int32 → xH → Option (Int32 × xH)
  | 0, _, _, _ => none
  | n + 1, a0, a1, h => if (8 : Int32) ≤ a1 then (some (a1, h)) else ((xgR [10] h a0 2).bind fun v26 => (f_X1_init h.length (h ++ [.inr (1, [.null, .int 0])])).bind fun q27 => if xk q27 h.length = some 1 then ((xuQ 3 q27 v26 a1 (some h.length)).bind fun h29 => f_X11_init_L145 n a0 (a1 + (1 : Int32)) h29) else none)
def f_X11_init (a0 : Nat) (h : xH) : Option (xH) := (xpR [10] (h ++ [xaR0 2 8]) a0 0 h.length).bind fun h1 => (xpR [10] (h1 ++ [xaR0 3 4]) a0 1 h1.length).bind fun h2 => (xpR [10] (h2 ++ [xaR0 3 8]) a0 2 h2.length).bind fun h3 => (xpR [10] (h3 ++ [xaZ0 2]) a0 3 h3.length).bind fun h4 => (f_X1_init h4.length (h4 ++ [.inr (1, [.null, .int 0])])).bind fun q5 => (xpR [10] q5 a0 4 h4.length).bind fun h6 => (f_X3_init h6.length (h6 ++ [.inr (3, [.null, .null, .int 0, .int 0])])).bind fun q7 => (xpR [10] q7 a0 5 h6.length).bind fun h8 => (f_X7_init h8.length (h8 ++ [.inr (6, [.null, .null, .null, .int 0, .int 0, .int 0, .int 0, .int 0, .int 0])])).bind fun q9 => (xpR [10] q9 a0 6 h8.length).bind fun h10 => (xpR [10] (h10 ++ [xaR0 4 12]) a0 7 h10.length).bind fun h11 => (f_X9_init h11.length (h11 ++ [.inr (8, [.null, .int 0])])).bind fun q12 => (xpR [10] q12 a0 8 h11.length).bind fun h13 => (f_X11_init_L92 xN a0 (0 : Int32) h13).bind fun q19 => (f_X11_init_L119 xN a0 (0 : Int32) q19.2).bind fun q25 => (f_X11_init_L145 xN a0 (0 : Int32) q25.2).bind fun q31 => some q31.2
def f_X11_isValue (a0 : Int32) (h : xH) : Option (Int32 × xH) := if a0 = 0 then (some ((1 : Int32), h)) else (if a0 = (1 : Int32) then (some ((1 : Int32), h)) else (some ((0 : Int32), h)))
def f_X11_isVector (a0 : Int32) (h : xH) : Option (Int32 × xH) := if a0 < 0 then (some ((0 : Int32), h)) else (if (4 : Int32) ≤ a0 then (some ((0 : Int32), h)) else (some ((1 : Int32), h)))
def f_X1_copyFrom (a0 : Nat) (a1 : Nat) (h : xH) : Option (xH) := (xgI [1] h a1 1).bind fun v1 => (xpI [1] h a0 1 v1).bind fun h2 => (xgR [1] h2 a1 0).bind fun v3 => (xgR [1] h2 a0 0).bind fun v4 => (xcp h2 v3 (0 : Int32) v4 (0 : Int32) (32 : Int32)).bind fun h5 => some h5
def f_X3_keep (a0 : Nat) (a1 : Int32) (a2 : Nat) (h : xH) : Option (xH) := (xgI [3] h a0 2).bind fun v1 => (xgI [3] h a0 3).bind fun v2 => (xgR [3] h a0 0).bind fun v3 => (xaR 3 h v3 ((v1 + v2) - (v1 + v2) / (12 : Int32) * (12 : Int32))).bind fun v4 => (if xk h v4 = some 1 then f_X1_copyFrom v4 a2 h else none).bind fun q5 => (xgR [3] q5 a0 1).bind fun v6 => (xuI q5 v6 ((v1 + v2) - (v1 + v2) / (12 : Int32) * (12 : Int32)) a1).bind fun h7 => (xgI [3] h7 a0 3).bind fun v8 => if (12 : Int32) ≤ v8 then ((xgI [3] h7 a0 2).bind fun v9 => (xpI [3] h7 a0 2 ((v9 + (1 : Int32)) - (v9 + (1 : Int32)) / (12 : Int32) * (12 : Int32))).bind fun h10 => some h10) else ((xgI [3] h7 a0 3).bind fun v11 => (xpI [3] h7 a0 3 (v11 + (1 : Int32))).bind fun h12 => some h12)
def f_X11_vectorToChange (a0 : Nat) (a1 : Int32) (h : xH) : Option (Nat × xH) := (xgR [10] h a0 5).bind fun v1 => (xgR [10] h a0 1).bind fun v2 => (xaR 3 h v2 a1).bind fun v3 => (if xk h v1 = some 3 then f_X3_keep v1 a1 v3 h else none).bind fun q4 => (xgR [10] q4 a0 1).bind fun v5 => (xaR 3 q4 v5 a1).bind fun v6 => some (v6, q4)
def f_X1_write (a0 : Nat) (a1 : Int32) (a2 : Int32) (h : xH) : Option (xH) := if a1 < 0 then (some h) else ((xgI [1] h a0 1).bind fun v1 => if a1 < v1 then ((xgR [1] h a0 0).bind fun v2 => if a2 = (1 : Int32) then ((xgR [1] h a0 0).bind fun v3 => (xaI h v3 (a1 / (15 : Int32))).bind fun v4 => (xuI h v2 (a1 / (15 : Int32)) (v4 ||| ((1 : Int32) <<< ((a1 - a1 / (15 : Int32) * (15 : Int32)) &&& 31)))).bind fun h5 => some h5) else ((xgR [1] h a0 0).bind fun v6 => (xaI h v6 (a1 / (15 : Int32))).bind fun v7 => (xuI h v2 (a1 / (15 : Int32)) (v7 &&& (((1 : Int32) <<< ((a1 - a1 / (15 : Int32) * (15 : Int32)) &&& 31)) ^^^ (-1 : Int32)))).bind fun h8 => some h8)) else (some h))
def f_X1_append (a0 : Nat) (a1 : Int32) (h : xH) : Option (xH) := (xgI [1] h a0 1).bind fun v1 => if (480 : Int32) ≤ v1 then (some h) else ((xgI [1] h a0 1).bind fun v2 => (xpI [1] h a0 1 (v2 + (1 : Int32))).bind fun h3 => (xgI [1] h3 a0 1).bind fun v4 => (if xk h3 a0 = some 1 then f_X1_write a0 (v4 - (1 : Int32)) a1 h3 else none).bind fun q5 => some q5)
def f_X11_add_L59 : Nat → Int32 → Int32 → Nat → Int32 → xH → Option (Int32 × xH)
  | 0, _, _, _, _, _ => none
  | n + 1, a2, a3, a4, a5, h => if a3 ≤ a5 then (some (a5, h)) else ((if xk h a4 = some 1 then f_X1_append a4 a2 h else none).bind fun q7 => f_X11_add_L59 n a2 a3 a4 (a5 + (1 : Int32)) q7)
def f_X11_add (a0 : Nat) (a1 : Int32) (a2 : Int32) (a3 : Int32) (h : xH) : Option (Int32 × xH) := (f_X11_isVector a1 h).bind fun q1 => if q1.1 = 0 then (some ((-1000001 : Int32), q1.2)) else ((f_X11_isValue a2 q1.2).bind fun q2 => if q2.1 = 0 then (some ((-1000001 : Int32), q2.2)) else (if a3 < (1 : Int32) then (some ((-1000001 : Int32), q2.2)) else (if a3 ≤ (480 : Int32) then ((xgR [10] q2.2 a0 1).bind fun v3 => (xaR 3 q2.2 v3 a1).bind fun v4 => (xgI [1] q2.2 v4 1).bind fun v5 => if (v5 + a3) ≤ (480 : Int32) then ((if xk q2.2 a0 = some 10 then f_X11_vectorToChange a0 a1 q2.2 else none).bind fun q6 => (f_X11_add_L59 xN a2 a3 q6.1 (0 : Int32) q6.2).bind fun q8 => (xgI [1] q8.2 q6.1 1).bind fun v9 => some (v9, q8.2)) else (some ((-1000003 : Int32), q2.2))) else (some ((-1000001 : Int32), q2.2)))))
def f_X11_commonDivisor_L7 : Nat → Int32 → Int32 → Int32 → xH → Option (Int32 × Int32 × Int32 × xH)
  | 0, _, _, _, _ => none
  | n + 1, a2, a3, a4, h => if (480 : Int32) ≤ a4 then (some (a2, a3, a4, h)) else (if a3 = 0 then (some (a2, a3, a4, h)) else (if a3 = 0 then none else f_X11_commonDivisor_L7 n a3 (a2 - a2 / a3 * a3) (a4 + (1 : Int32)) h))
def f_X11_commonDivisor (a0 : Int32) (a1 : Int32) (h : xH) : Option (Int32 × xH) := (f_X11_commonDivisor_L7 xN a0 a1 (0 : Int32) h).bind fun q2 => some ((if (1 : Int32) < q2.1 then q2.1 else (1 : Int32)), q2.2.2.2)
def f_X1_joinedMask (a0 : Int32) (a1 : Int32) (a2 : Int32) (h : xH) : Option (Int32 × xH) := if a0 = 0 then (some (a1 &&& a2, h)) else if a0 = 1 then (some (a1 ||| a2, h)) else if a0 = 2 then (some (a1 ^^^ a2, h)) else (some (a1 &&& (a2 ^^^ (-1 : Int32)), h))
def f_X1_becomeJoined_L18 : Nat → Nat → Int32 → Nat → Nat → Int32 → xH → Option (Int32 × xH)
  | 0, _, _, _, _, _, _ => none
  | n + 1, a0, a1, a2, a3, a4, h => if (32 : Int32) ≤ a4 then (some (a4, h)) else ((xgR [1] h a0 0).bind fun v4 => (xgR [1] h a2 0).bind fun v5 => (xaI h v5 a4).bind fun v6 => (xgR [1] h a3 0).bind fun v7 => (xaI h v7 a4).bind fun v8 => (f_X1_joinedMask a1 v6 v8 h).bind fun q9 => (xuI q9.2 v4 a4 q9.1).bind fun h10 => f_X1_becomeJoined_L18 n a0 a1 a2 a3 (a4 + (1 : Int32)) h10)
def f_X1_becomeJoined (a0 : Nat) (a1 : Int32) (a2 : Nat) (a3 : Nat) (h : xH) : Option (xH) := (xgI [1] h a2 1).bind fun v1 => (xgI [1] h a3 1).bind fun v2 => (xpI [1] h a0 1 (if v1 < v2 then v2 else v1)).bind fun h3 => (f_X1_becomeJoined_L18 xN a0 a1 a2 a3 (0 : Int32) h3).bind fun q11 => some q11.2
def f_X11_firstPlaces (a0 : Int32) (h : xH) : Option (Int32 × xH) := some (((1 : Int32) <<< ((if (0 : Int32) < (if (15 : Int32) < a0 then (15 : Int32) else a0) then (if (15 : Int32) < a0 then (15 : Int32) else a0) else (0 : Int32)) &&& 31)) - (1 : Int32), h)
def f_J6_bitCount_0f7a4 (a0 : Int32) (h : xH) : Option (Int32 × xH) := some ((((((((a0 - (((a0.toUInt32 >>> ((1 : Int32).toUInt32 &&& Int32.toUInt32 31)).toInt32) &&& (1431655765 : Int32))) &&& (858993459 : Int32)) + ((((a0 - (((a0.toUInt32 >>> ((1 : Int32).toUInt32 &&& Int32.toUInt32 31)).toInt32) &&& (1431655765 : Int32))).toUInt32 >>> ((2 : Int32).toUInt32 &&& Int32.toUInt32 31)).toInt32) &&& (858993459 : Int32))) + (((((a0 - (((a0.toUInt32 >>> ((1 : Int32).toUInt32 &&& Int32.toUInt32 31)).toInt32) &&& (1431655765 : Int32))) &&& (858993459 : Int32)) + ((((a0 - (((a0.toUInt32 >>> ((1 : Int32).toUInt32 &&& Int32.toUInt32 31)).toInt32) &&& (1431655765 : Int32))).toUInt32 >>> ((2 : Int32).toUInt32 &&& Int32.toUInt32 31)).toInt32) &&& (858993459 : Int32))).toUInt32 >>> ((4 : Int32).toUInt32 &&& Int32.toUInt32 31)).toInt32)) &&& (252645135 : Int32)) + (((((((a0 - (((a0.toUInt32 >>> ((1 : Int32).toUInt32 &&& Int32.toUInt32 31)).toInt32) &&& (1431655765 : Int32))) &&& (858993459 : Int32)) + ((((a0 - (((a0.toUInt32 >>> ((1 : Int32).toUInt32 &&& Int32.toUInt32 31)).toInt32) &&& (1431655765 : Int32))).toUInt32 >>> ((2 : Int32).toUInt32 &&& Int32.toUInt32 31)).toInt32) &&& (858993459 : Int32))) + (((((a0 - (((a0.toUInt32 >>> ((1 : Int32).toUInt32 &&& Int32.toUInt32 31)).toInt32) &&& (1431655765 : Int32))) &&& (858993459 : Int32)) + ((((a0 - (((a0.toUInt32 >>> ((1 : Int32).toUInt32 &&& Int32.toUInt32 31)).toInt32) &&& (1431655765 : Int32))).toUInt32 >>> ((2 : Int32).toUInt32 &&& Int32.toUInt32 31)).toInt32) &&& (858993459 : Int32))).toUInt32 >>> ((4 : Int32).toUInt32 &&& Int32.toUInt32 31)).toInt32)) &&& (252645135 : Int32)).toUInt32 >>> ((8 : Int32).toUInt32 &&& Int32.toUInt32 31)).toInt32)) + ((((((((a0 - (((a0.toUInt32 >>> ((1 : Int32).toUInt32 &&& Int32.toUInt32 31)).toInt32) &&& (1431655765 : Int32))) &&& (858993459 : Int32)) + ((((a0 - (((a0.toUInt32 >>> ((1 : Int32).toUInt32 &&& Int32.toUInt32 31)).toInt32) &&& (1431655765 : Int32))).toUInt32 >>> ((2 : Int32).toUInt32 &&& Int32.toUInt32 31)).toInt32) &&& (858993459 : Int32))) + (((((a0 - (((a0.toUInt32 >>> ((1 : Int32).toUInt32 &&& Int32.toUInt32 31)).toInt32) &&& (1431655765 : Int32))) &&& (858993459 : Int32)) + ((((a0 - (((a0.toUInt32 >>> ((1 : Int32).toUInt32 &&& Int32.toUInt32 31)).toInt32) &&& (1431655765 : Int32))).toUInt32 >>> ((2 : Int32).toUInt32 &&& Int32.toUInt32 31)).toInt32) &&& (858993459 : Int32))).toUInt32 >>> ((4 : Int32).toUInt32 &&& Int32.toUInt32 31)).toInt32)) &&& (252645135 : Int32)) + (((((((a0 - (((a0.toUInt32 >>> ((1 : Int32).toUInt32 &&& Int32.toUInt32 31)).toInt32) &&& (1431655765 : Int32))) &&& (858993459 : Int32)) + ((((a0 - (((a0.toUInt32 >>> ((1 : Int32).toUInt32 &&& Int32.toUInt32 31)).toInt32) &&& (1431655765 : Int32))).toUInt32 >>> ((2 : Int32).toUInt32 &&& Int32.toUInt32 31)).toInt32) &&& (858993459 : Int32))) + (((((a0 - (((a0.toUInt32 >>> ((1 : Int32).toUInt32 &&& Int32.toUInt32 31)).toInt32) &&& (1431655765 : Int32))) &&& (858993459 : Int32)) + ((((a0 - (((a0.toUInt32 >>> ((1 : Int32).toUInt32 &&& Int32.toUInt32 31)).toInt32) &&& (1431655765 : Int32))).toUInt32 >>> ((2 : Int32).toUInt32 &&& Int32.toUInt32 31)).toInt32) &&& (858993459 : Int32))).toUInt32 >>> ((4 : Int32).toUInt32 &&& Int32.toUInt32 31)).toInt32)) &&& (252645135 : Int32)).toUInt32 >>> ((8 : Int32).toUInt32 &&& Int32.toUInt32 31)).toInt32)).toUInt32 >>> ((16 : Int32).toUInt32 &&& Int32.toUInt32 31)).toInt32)) &&& (63 : Int32), h)
def f_X1_onesAhead_L4 : Nat → Nat → Int32 → Int32 → Int32 → xH → Option (Int32 × Int32 × xH)
  | 0, _, _, _, _, _ => none
  | n + 1, a0, a1, a2, a3, h => if (32 : Int32) ≤ a3 then (some (a2, a3, h)) else ((xgR [1] h a0 0).bind fun v1 => (xaI h v1 a3).bind fun v2 => (f_X11_firstPlaces (a1 - ((15 : Int32) * a3)) h).bind fun q3 => (f_J6_bitCount_0f7a4 (v2 &&& q3.1) q3.2).bind fun q4 => f_X1_onesAhead_L4 n a0 a1 (a2 + q4.1) (a3 + (1 : Int32)) q4.2)
def f_X1_onesAhead (a0 : Nat) (a1 : Int32) (h : xH) : Option (Int32 × xH) := (f_X1_onesAhead_L4 xN a0 a1 (0 : Int32) (0 : Int32) h).bind fun q5 => some (q5.1, q5.2.2)
def f_X1_countOnes (a0 : Nat) (h : xH) : Option (Int32 × xH) := (xgI [1] h a0 1).bind fun v1 => (if xk h a0 = some 1 then f_X1_onesAhead a0 v1 h else none).bind fun q2 => some (q2.1, q2.2)
def f_X11_alike (a0 : Nat) (a1 : Int32) (a2 : Int32) (a3 : Int32) (h : xH) : Option (Int32 × xH) := (f_X11_isVector a1 h).bind fun q1 => if q1.1 = 0 then (some ((-1000001 : Int32), q1.2)) else ((f_X11_isVector a2 q1.2).bind fun q2 => if q2.1 = 0 then (some ((-1000001 : Int32), q2.2)) else (if a3 < 0 then (some ((-1000001 : Int32), q2.2)) else (if a3 ≤ (1 : Int32) then ((xgR [10] q2.2 a0 4).bind fun v3 => (xgR [10] q2.2 a0 1).bind fun v4 => (xaR 3 q2.2 v4 a1).bind fun v5 => (xgR [10] q2.2 a0 1).bind fun v6 => (xaR 3 q2.2 v6 a2).bind fun v7 => (if xk q2.2 v3 = some 1 then f_X1_becomeJoined v3 (0 : Int32) v5 v7 q2.2 else none).bind fun q8 => (xgR [10] q8 a0 4).bind fun v9 => (if xk q8 v9 = some 1 then f_X1_countOnes v9 q8 else none).bind fun q10 => (xgR [10] q10.2 a0 4).bind fun v11 => (xgR [10] q10.2 a0 1).bind fun v12 => (xaR 3 q10.2 v12 a1).bind fun v13 => (xgR [10] q10.2 a0 1).bind fun v14 => (xaR 3 q10.2 v14 a2).bind fun v15 => (if xk q10.2 v11 = some 1 then f_X1_becomeJoined v11 (1 : Int32) v13 v15 q10.2 else none).bind fun q16 => (xgR [10] q16 a0 4).bind fun v17 => (if xk q16 v17 = some 1 then f_X1_countOnes v17 q16 else none).bind fun q18 => if q10.1 = 0 then (some (a3, q18.2)) else ((f_X11_commonDivisor q18.1 q10.1 q18.2).bind fun q19 => if a3 = 0 then (if q19.1 = 0 then none else some (q10.1 / q19.1, q19.2)) else (if q19.1 = 0 then none else some (q18.1 / q19.1, q19.2)))) else (some ((-1000001 : Int32), q2.2)))))
def f_X11_fine (a0 : Nat) (a1 : Int32) (h : xH) : Option (Int32 × xH) := (xpI [10] h a0 11 (0 : Int32)).bind fun h1 => some (a1, h1)
def f_X11_found (a0 : Nat) (a1 : Int32) (h : xH) : Option (Int32 × xH) := (xpI [10] h a0 11 a1).bind fun h1 => some ((-1000010 : Int32) - a1, h1)
def f_X11_isOfKind (a0 : Nat) (a1 : Int32) (h : xH) : Option (Int32 × xH) := if a1 = 1 then ((xio [4, 7, 9] [0, 2] h a0).bind fun v1 => if v1 = 0 ∨ v1 = 1 then some (v1, h) else none) else if a1 = 2 then ((xio [4] [0, 2, 7, 9] h a0).bind fun v4 => if v4 = 0 ∨ v4 = 1 then some (v4, h) else none) else if a1 = 3 then ((xio [7] [0, 2, 4, 9] h a0).bind fun v7 => if v7 = 0 ∨ v7 = 1 then some (v7, h) else none) else if a1 = 4 then ((xio [0, 2] [4, 7, 9] h a0).bind fun v10 => if v10 = 0 ∨ v10 = 1 then some (v10, h) else none) else if a1 = 5 then ((xio [2] [0, 4, 7, 9] h a0).bind fun v13 => if v13 = 0 ∨ v13 = 1 then some (v13, h) else none) else (if a1 = 0 then (some ((1 : Int32), h)) else (some ((0 : Int32), h)))
def f_X11_isRun (a0 : Nat) (a1 : Int32) (h : xH) : Option (Int32 × xH) := if a1 < 0 then (some ((0 : Int32), h)) else ((xgI [10] h a0 9).bind fun v1 => if v1 ≤ a1 then (some ((0 : Int32), h)) else ((xgR [10] h a0 7).bind fun v2 => (xaQ 4 h v2 a1).bind fun r4 => match r4 with
    | none => some ((0 : Int32), h)
    | some v3 => some ((1 : Int32), h)))
def f_X11_as (a0 : Nat) (a1 : Int32) (a2 : Int32) (h : xH) : Option (Int32 × xH) := (if xk h a0 = some 10 then f_X11_isRun a0 a1 h else none).bind fun q1 => if q1.1 = 0 then (some ((-1000001 : Int32), q1.2)) else (if a2 < 0 then (some ((-1000001 : Int32), q1.2)) else (if a2 ≤ (5 : Int32) then ((xgR [10] q1.2 a0 7).bind fun v2 => (xaR 4 q1.2 v2 a1).bind fun v3 => (f_X11_isOfKind v3 a2 q1.2).bind fun q4 => if q4.1 = 0 then ((if xk q4.2 a0 = some 10 then f_X11_found a0 (3 : Int32) q4.2 else none).bind fun q5 => some (q5.1, q5.2)) else ((xgR [10] q4.2 a0 7).bind fun v6 => (xaR 4 q4.2 v6 a1).bind fun v7 => (xgI [0, 2, 4, 7, 9] q4.2 v7 0).bind fun v8 => (if xk q4.2 a0 = some 10 then f_X11_fine a0 v8 q4.2 else none).bind fun q9 => some (q9.1, q9.2))) else (some ((-1000001 : Int32), q1.2))))
def f_X9_note (a0 : Nat) (a1 : Int32) (h : xH) : Option (xH) := (xgI [8] h a0 1).bind fun v1 => if (16 : Int32) ≤ v1 then (some h) else ((xgR [8] h a0 0).bind fun v2 => (xgI [8] h a0 1).bind fun v3 => (xuI h v2 v3 a1).bind fun h4 => (xgI [8] h4 a0 1).bind fun v5 => (xpI [8] h4 a0 1 (v5 + (1 : Int32))).bind fun h6 => some h6)
def f_X6_tellSize (a0 : Nat) (a1 : Nat) (h : xH) : Option (Int32 × xH) := (if xk h a1 = some 8 then f_X9_note a1 (10 : Int32) h else none).bind fun q1 => (xgI [0, 2, 4, 7, 9] q1 a0 1).bind fun v2 => some (v2, q1)
def f_X0_tellSize (a0 : Nat) (a1 : Nat) (h : xH) : Option (Int32 × xH) := (if xk h a1 = some 8 then f_X9_note a1 (13 : Int32) h else none).bind fun q1 => (if xk q1 a0 = some 0 then f_X6_tellSize a0 a1 q1 else if xk q1 a0 = some 2 then f_X6_tellSize a0 a1 q1 else none).bind fun q2 => some (q2.1 - (100 : Int32), q2.2)
def f_X2_tellSize (a0 : Nat) (a1 : Nat) (h : xH) : Option (Int32 × xH) := (if xk h a1 = some 8 then f_X9_note a1 (14 : Int32) h else none).bind fun q1 => (if xk q1 a0 = some 2 then f_X0_tellSize a0 a1 q1 else none).bind fun q2 => some ((2 : Int32) * q2.1, q2.2)
def f_X6_tellMark (a0 : Nat) (a1 : Nat) (h : xH) : Option (Int32 × xH) := (if xk h a1 = some 8 then f_X9_note a1 (20 : Int32) h else none).bind fun q1 => (xgI [0, 2, 4, 7, 9] q1 a0 0).bind fun v2 => some (v2, q1)
def f_X0_tellMark (a0 : Nat) (a1 : Nat) (h : xH) : Option (Int32 × xH) := (if xk h a1 = some 8 then f_X9_note a1 (23 : Int32) h else none).bind fun q1 => (if xk q1 a0 = some 0 then f_X6_tellMark a0 a1 q1 else if xk q1 a0 = some 2 then f_X6_tellMark a0 a1 q1 else none).bind fun q2 => (if xk q2.2 a0 = some 0 then f_X0_tellSize a0 a1 q2.2 else if xk q2.2 a0 = some 2 then f_X2_tellSize a0 a1 q2.2 else none).bind fun q3 => some (q2.1 - q3.1, q3.2)
def f_X0_bitOf (a0 : Nat) (a1 : Int32) (h : xH) : Option (Int32 × xH) := if (a1 - a1 / (2 : Int32) * (2 : Int32)) = 0 then (some ((1 : Int32), h)) else (some ((0 : Int32), h))
def f_X2_bitOf (a0 : Nat) (a1 : Int32) (h : xH) : Option (Int32 × xH) := (if xk h a0 = some 2 then f_X0_bitOf a0 (a1 / (4 : Int32)) h else none).bind fun q1 => some (q1.1, q1.2)
def f_X4_bitOf (a0 : Nat) (a1 : Int32) (h : xH) : Option (Int32 × xH) := some ((1 : Int32), h)
def f_X8_bitOf (a0 : Nat) (a1 : Int32) (h : xH) : Option (Int32 × xH) := if (a1 - a1 / (3 : Int32) * (3 : Int32)) = 0 then (some ((1 : Int32), h)) else (some ((0 : Int32), h))
def f_X10_bitOf (a0 : Nat) (a1 : Int32) (h : xH) : Option (Int32 × xH) := some ((0 : Int32), h)
def f_X6_onesWithin_L4 : Nat → Nat → Int32 → Int32 → xH → Option (Int32 × Int32 × xH)
  | 0, _, _, _, _ => none
  | n + 1, a0, a1, a2, h => (xgI [0, 2, 4, 7, 9] h a0 1).bind fun v1 => if v1 ≤ a2 then (some (a1, a2, h)) else ((if xk h a0 = some 0 then f_X0_bitOf a0 a2 h else if xk h a0 = some 2 then f_X2_bitOf a0 a2 h else if xk h a0 = some 4 then f_X4_bitOf a0 a2 h else if xk h a0 = some 7 then f_X8_bitOf a0 a2 h else if xk h a0 = some 9 then f_X10_bitOf a0 a2 h else none).bind fun q2 => f_X6_onesWithin_L4 n a0 (a1 + q2.1) (a2 + (1 : Int32)) q2.2)
def f_X6_onesWithin (a0 : Nat) (h : xH) : Option (Int32 × xH) := (f_X6_onesWithin_L4 xN a0 (0 : Int32) (0 : Int32) h).bind fun q3 => some (q3.1, q3.2.2)
def f_X10_tellMark (a0 : Nat) (a1 : Nat) (h : xH) : Option (Int32 × xH) := (if xk h a1 = some 8 then f_X9_note a1 (21 : Int32) h else none).bind fun q1 => (if xk q1 a0 = some 4 then f_X6_tellMark a0 a1 q1 else if xk q1 a0 = some 7 then f_X6_tellMark a0 a1 q1 else if xk q1 a0 = some 9 then f_X6_tellMark a0 a1 q1 else none).bind fun q2 => (if xk q2.2 a0 = some 4 then f_X6_onesWithin a0 q2.2 else if xk q2.2 a0 = some 7 then f_X6_onesWithin a0 q2.2 else if xk q2.2 a0 = some 9 then f_X6_onesWithin a0 q2.2 else none).bind fun q3 => some (q2.1 + q3.1, q3.2)
def f_X4_tellMark (a0 : Nat) (a1 : Nat) (h : xH) : Option (Int32 × xH) := (if xk h a1 = some 8 then f_X9_note a1 (24 : Int32) h else none).bind fun q1 => (if xk q1 a0 = some 4 then f_X10_tellMark a0 a1 q1 else none).bind fun q2 => some ((2 : Int32) * q2.1, q2.2)
def f_X8_tellMark (a0 : Nat) (a1 : Nat) (h : xH) : Option (Int32 × xH) := (if xk h a1 = some 8 then f_X9_note a1 (22 : Int32) h else none).bind fun q1 => (if xk q1 a0 = some 7 then f_X10_tellMark a0 a1 q1 else none).bind fun q2 => some (q2.1 - (1000 : Int32), q2.2)
def f_X10_tellSize (a0 : Nat) (a1 : Nat) (h : xH) : Option (Int32 × xH) := (if xk h a1 = some 8 then f_X9_note a1 (11 : Int32) h else none).bind fun q1 => (if xk q1 a0 = some 4 then f_X6_tellSize a0 a1 q1 else if xk q1 a0 = some 7 then f_X6_tellSize a0 a1 q1 else if xk q1 a0 = some 9 then f_X6_tellSize a0 a1 q1 else none).bind fun q2 => (if xk q2.2 a0 = some 4 then f_X4_tellMark a0 a1 q2.2 else if xk q2.2 a0 = some 7 then f_X8_tellMark a0 a1 q2.2 else if xk q2.2 a0 = some 9 then f_X10_tellMark a0 a1 q2.2 else none).bind fun q3 => some (q2.1 + q3.1, q3.2)
def f_X4_tellSize (a0 : Nat) (a1 : Nat) (h : xH) : Option (Int32 × xH) := (if xk h a1 = some 8 then f_X9_note a1 (12 : Int32) h else none).bind fun q1 => (if xk q1 a0 = some 4 then f_X10_tellSize a0 a1 q1 else none).bind fun q2 => some ((0 : Int32) - q2.1, q2.2)
def f_X11_ask (a0 : Nat) (a1 : Int32) (a2 : Int32) (h : xH) : Option (Int32 × xH) := (if xk h a0 = some 10 then f_X11_isRun a0 a1 h else none).bind fun q1 => if q1.1 = 0 then (some ((-1000001 : Int32), q1.2)) else (if a2 < 0 then (some ((-1000001 : Int32), q1.2)) else (if a2 ≤ (1 : Int32) then ((xgR [10] q1.2 a0 8).bind fun v2 => (xpI [8] q1.2 v2 1 (0 : Int32)).bind fun h3 => if a2 = 0 then ((xgR [10] h3 a0 7).bind fun v4 => (xaR 4 h3 v4 a1).bind fun v5 => (xgR [10] h3 a0 8).bind fun v6 => (if xk h3 v5 = some 0 then f_X0_tellSize v5 v6 h3 else if xk h3 v5 = some 2 then f_X2_tellSize v5 v6 h3 else if xk h3 v5 = some 4 then f_X4_tellSize v5 v6 h3 else if xk h3 v5 = some 7 then f_X10_tellSize v5 v6 h3 else if xk h3 v5 = some 9 then f_X10_tellSize v5 v6 h3 else none).bind fun q7 => some (q7.1, q7.2)) else ((xgR [10] h3 a0 7).bind fun v8 => (xaR 4 h3 v8 a1).bind fun v9 => (xgR [10] h3 a0 8).bind fun v10 => (if xk h3 v9 = some 0 then f_X0_tellMark v9 v10 h3 else if xk h3 v9 = some 2 then f_X0_tellMark v9 v10 h3 else if xk h3 v9 = some 4 then f_X4_tellMark v9 v10 h3 else if xk h3 v9 = some 7 then f_X8_tellMark v9 v10 h3 else if xk h3 v9 = some 9 then f_X10_tellMark v9 v10 h3 else none).bind fun q11 => some (q11.1, q11.2))) else (some ((-1000001 : Int32), q1.2))))
def f_X11_bits (a0 : Nat) (a1 : Int32) (h : xH) : Option (Int32 × xH) := (f_X11_isVector a1 h).bind fun q1 => if q1.1 = 0 then (some ((-1000001 : Int32), q1.2)) else ((xgR [10] q1.2 a0 1).bind fun v2 => (xaR 3 q1.2 v2 a1).bind fun v3 => (xgI [1] q1.2 v3 1).bind fun v4 => some (v4, q1.2))
def f_X11_bitsOfAll_L4 : Nat → Nat → Int32 → Int32 → xH → Option (Int32 × Int32 × xH)
  | 0, _, _, _, _ => none
  | n + 1, a0, a1, a2, h => if (4 : Int32) ≤ a2 then (some (a1, a2, h)) else ((xgR [10] h a0 1).bind fun v1 => (xaR 3 h v1 a2).bind fun v2 => (xgI [1] h v2 1).bind fun v3 => f_X11_bitsOfAll_L4 n a0 (a1 + v3) (a2 + (1 : Int32)) h)
def f_X11_bitsOfAll (a0 : Nat) (h : xH) : Option (Int32 × xH) := (f_X11_bitsOfAll_L4 xN a0 (0 : Int32) (0 : Int32) h).bind fun q4 => some (q4.1, q4.2.2)
def f_X11_choices (a0 : Int32) (a1 : Int32) (h : xH) : Option (Int32 × xH) := (xaI h 0 (((16 : Int32) * a0) + a1)).bind fun v1 => some (v1, h)
def f_X11_offsetOf_L6 : Nat → Int32 → Int32 → Int32 → Int32 → xH → Option (Int32 × Int32 × Int32 × xH)
  | 0, _, _, _, _, _ => none
  | n + 1, a0, a1, a2, a3, h => if (15 : Int32) ≤ a3 then (some (a1, a2, a3, h)) else (if ((a0 >>> (a3 &&& 31)) &&& (1 : Int32)) = (1 : Int32) then ((f_X11_choices a3 (a2 + (1 : Int32)) h).bind fun q1 => f_X11_offsetOf_L6 n a0 (a1 + q1.1) (a2 + (1 : Int32)) (a3 + (1 : Int32)) q1.2) else (f_X11_offsetOf_L6 n a0 a1 a2 (a3 + (1 : Int32)) h))
def f_X11_offsetOf (a0 : Int32) (h : xH) : Option (Int32 × xH) := (f_X11_offsetOf_L6 xN a0 (0 : Int32) (0 : Int32) (0 : Int32) h).bind fun q2 => some (q2.1, q2.2.2.2)
def f_X1_classOf (a0 : Nat) (a1 : Int32) (h : xH) : Option (Int32 × xH) := (xgR [1] h a0 0).bind fun v1 => (xaI h v1 a1).bind fun v2 => (f_J6_bitCount_0f7a4 v2 h).bind fun q3 => some (q3.1, q3.2)
def f_X1_beginOf_L4 : Nat → Nat → Int32 → Int32 → Int32 → xH → Option (Int32 × Int32 × xH)
  | 0, _, _, _, _, _ => none
  | n + 1, a0, a1, a2, a3, h => if a1 ≤ a3 then (some (a2, a3, h)) else ((if xk h a0 = some 1 then f_X1_classOf a0 a3 h else none).bind fun q1 => (xaI q1.2 1 q1.1).bind fun v2 => f_X1_beginOf_L4 n a0 a1 (a2 + v2) (a3 + (1 : Int32)) q1.2)
def f_X1_beginOf (a0 : Nat) (a1 : Int32) (h : xH) : Option (Int32 × xH) := (f_X1_beginOf_L4 xN a0 a1 (0 : Int32) (0 : Int32) h).bind fun q3 => some (q3.1, q3.2.2)
def f_X1_blockCount (a0 : Nat) (h : xH) : Option (Int32 × xH) := (xgI [1] h a0 1).bind fun v1 => some (((v1 + (15 : Int32)) - (1 : Int32)) / (15 : Int32), h)
def f_X11_block (a0 : Nat) (a1 : Int32) (a2 : Int32) (a3 : Int32) (h : xH) : Option (Int32 × xH) := (f_X11_isVector a1 h).bind fun q1 => if q1.1 = 0 then (some ((-1000001 : Int32), q1.2)) else (if a2 < 0 then (some ((-1000001 : Int32), q1.2)) else ((xgR [10] q1.2 a0 1).bind fun v2 => (xaR 3 q1.2 v2 a1).bind fun v3 => (if xk q1.2 v3 = some 1 then f_X1_blockCount v3 q1.2 else none).bind fun q4 => if a2 < q4.1 then ((xgR [10] q4.2 a0 1).bind fun v5 => (xaR 3 q4.2 v5 a1).bind fun v6 => if a3 = 0 then ((if xk q4.2 v6 = some 1 then f_X1_classOf v6 a2 q4.2 else none).bind fun q7 => some (q7.1, q7.2)) else if a3 = 1 then ((xgR [1] q4.2 v6 0).bind fun v9 => (xaI q4.2 v9 a2).bind fun v10 => (f_X11_offsetOf v10 q4.2).bind fun q11 => some (q11.1, q11.2)) else if a3 = 2 then ((if xk q4.2 v6 = some 1 then f_X1_classOf v6 a2 q4.2 else none).bind fun q13 => (xaI q13.2 1 q13.1).bind fun v14 => some (v14, q13.2)) else if a3 = 3 then ((xgR [1] q4.2 v6 0).bind fun v16 => (xaI q4.2 v16 a2).bind fun v17 => some (v17, q4.2)) else if a3 = 4 then ((if xk q4.2 v6 = some 1 then f_X1_beginOf v6 a2 q4.2 else none).bind fun q19 => some (q19.1, q19.2)) else (some ((-1000001 : Int32), q4.2))) else (some ((-1000001 : Int32), q4.2))))
def f_X11_choose (a0 : Nat) (a1 : Int32) (a2 : Int32) (h : xH) : Option (Int32 × xH) := if a1 < 0 then (some ((-1000001 : Int32), h)) else (if (15 : Int32) < a1 then (some ((-1000001 : Int32), h)) else (if a2 < 0 then (some ((-1000001 : Int32), h)) else (if a2 ≤ (15 : Int32) then ((f_X11_choices a1 a2 h).bind fun q1 => some (q1.1, q1.2)) else (some ((-1000001 : Int32), h)))))
def f_X11_isRow (a0 : Int32) (h : xH) : Option (Int32 × xH) := if a0 < 0 then (some ((0 : Int32), h)) else (if (8 : Int32) ≤ a0 then (some ((0 : Int32), h)) else (some ((1 : Int32), h)))
def f_X5_hasPart (a0 : Nat) (a1 : Int32) (a2 : Int32) (h : xH) : Option (Int32 × xH) := if a1 < 0 then (some ((0 : Int32), h)) else (if a2 < 0 then (some ((0 : Int32), h)) else ((xgI [5] h a0 3).bind fun v1 => if (v1 - a2) < a1 then (some ((0 : Int32), h)) else (some ((1 : Int32), h))))
def f_X11_copy (a0 : Nat) (a1 : Int32) (a2 : Int32) (a3 : Int32) (a4 : Int32) (a5 : Int32) (h : xH) : Option (Int32 × xH) := (f_X11_isRow a1 h).bind fun q1 => if q1.1 = 0 then (some ((-1000001 : Int32), q1.2)) else ((f_X11_isRow a3 q1.2).bind fun q2 => if q2.1 = 0 then (some ((-1000001 : Int32), q2.2)) else ((xgR [10] q2.2 a0 0).bind fun v3 => (xaR 2 q2.2 v3 a1).bind fun v4 => (xgR [10] q2.2 a0 0).bind fun v5 => (xaR 2 q2.2 v5 a3).bind fun v6 => (xgI [5] q2.2 v4 1).bind fun v7 => if v7 = 0 then ((xgI [5] q2.2 v6 1).bind fun v8 => if v8 = 0 then ((xgI [5] q2.2 v4 2).bind fun v9 => (xgI [5] q2.2 v6 2).bind fun v10 => if v9 = v10 then ((if xk q2.2 v4 = some 5 then f_X5_hasPart v4 a2 a5 q2.2 else none).bind fun q11 => if q11.1 = 0 then ((if xk q11.2 a0 = some 10 then f_X11_found a0 (2 : Int32) q11.2 else none).bind fun q12 => some (q12.1, q12.2)) else ((if xk q11.2 v6 = some 5 then f_X5_hasPart v6 a4 a5 q11.2 else none).bind fun q13 => if q13.1 = 0 then ((if xk q13.2 a0 = some 10 then f_X11_found a0 (2 : Int32) q13.2 else none).bind fun q14 => some (q14.1, q14.2)) else ((xgR [5] q13.2 v4 0).bind fun v15 => (xgR [5] q13.2 v6 0).bind fun v16 => (xcp q13.2 v15 a2 v16 a4 a5).bind fun h17 => (if xk h17 a0 = some 10 then f_X11_fine a0 a5 h17 else none).bind fun q18 => some (q18.1, q18.2)))) else ((if xk q2.2 a0 = some 10 then f_X11_found a0 (5 : Int32) q2.2 else none).bind fun q19 => some (q19.1, q19.2))) else ((if xk q2.2 a0 = some 10 then f_X11_found a0 (1 : Int32) q2.2 else none).bind fun q20 => some (q20.1, q20.2))) else ((if xk q2.2 a0 = some 10 then f_X11_found a0 (1 : Int32) q2.2 else none).bind fun q21 => some (q21.1, q21.2))))
def f_X11_onesOfAll_L4 : Nat → Nat → Int32 → Int32 → xH → Option (Int32 × Int32 × xH)
  | 0, _, _, _, _ => none
  | n + 1, a0, a1, a2, h => if (4 : Int32) ≤ a2 then (some (a1, a2, h)) else ((xgR [10] h a0 1).bind fun v1 => (xaR 3 h v1 a2).bind fun v2 => (if xk h v2 = some 1 then f_X1_countOnes v2 h else none).bind fun q3 => f_X11_onesOfAll_L4 n a0 (a1 + q3.1) (a2 + (1 : Int32)) q3.2)
def f_X11_onesOfAll (a0 : Nat) (h : xH) : Option (Int32 × xH) := (f_X11_onesOfAll_L4 xN a0 (0 : Int32) (0 : Int32) h).bind fun q4 => some (q4.1, q4.2.2)
def f_X11_rowsThatAreThere_L4 : Nat → Nat → Int32 → Int32 → xH → Option (Int32 × Int32 × xH)
  | 0, _, _, _, _ => none
  | n + 1, a0, a1, a2, h => if (8 : Int32) ≤ a2 then (some (a1, a2, h)) else ((xgR [10] h a0 0).bind fun v1 => (xaR 2 h v1 a2).bind fun v2 => (xgI [5] h v2 1).bind fun v3 => if v3 = 0 then (f_X11_rowsThatAreThere_L4 n a0 (a1 + (1 : Int32)) (a2 + (1 : Int32)) h) else (f_X11_rowsThatAreThere_L4 n a0 a1 (a2 + (1 : Int32)) h))
def f_X11_rowsThatAreThere (a0 : Nat) (h : xH) : Option (Int32 × xH) := (f_X11_rowsThatAreThere_L4 xN a0 (0 : Int32) (0 : Int32) h).bind fun q4 => some (q4.1, q4.2.2)
def f_X11_count (a0 : Nat) (a1 : Int32) (h : xH) : Option (Int32 × xH) := if a1 = 0 then ((if xk h a0 = some 10 then f_X11_rowsThatAreThere a0 h else none).bind fun q1 => some (q1.1, q1.2)) else if a1 = 1 then ((xgI [10] h a0 9).bind fun v3 => some (v3, h)) else if a1 = 2 then ((if xk h a0 = some 10 then f_X11_bitsOfAll a0 h else none).bind fun q5 => some (q5.1, q5.2)) else if a1 = 3 then ((if xk h a0 = some 10 then f_X11_onesOfAll a0 h else none).bind fun q7 => some (q7.1, q7.2)) else if a1 = 4 then ((xgR [10] h a0 5).bind fun v9 => (xgI [3] h v9 3).bind fun v10 => some (v10, h)) else if a1 = 5 then ((xgR [10] h a0 6).bind fun v12 => (xgI [6] h v12 3).bind fun v13 => some (v13, h)) else (some ((-1000001 : Int32), h))
def f_X1_shorten_L7 : Nat → Nat → Int32 → xH → Option (Int32 × xH)
  | 0, _, _, _ => none
  | n + 1, a0, a2, h => if (32 : Int32) ≤ a2 then (some (a2, h)) else ((xgR [1] h a0 0).bind fun v2 => (xaI h v2 a2).bind fun v3 => (xgI [1] h a0 1).bind fun v4 => (f_X11_firstPlaces (v4 - ((15 : Int32) * a2)) h).bind fun q5 => (xuI q5.2 v2 a2 (v3 &&& q5.1)).bind fun h6 => f_X1_shorten_L7 n a0 (a2 + (1 : Int32)) h6)
def f_X1_shorten (a0 : Nat) (a1 : Int32) (h : xH) : Option (xH) := (xpI [1] h a0 1 a1).bind fun h1 => (f_X1_shorten_L7 xN a0 (0 : Int32) h1).bind fun q7 => some q7.2
def f_X11_cut (a0 : Nat) (a1 : Int32) (a2 : Int32) (h : xH) : Option (Int32 × xH) := (f_X11_isVector a1 h).bind fun q1 => if q1.1 = 0 then (some ((-1000001 : Int32), q1.2)) else (if a2 < 0 then (some ((-1000001 : Int32), q1.2)) else ((xgR [10] q1.2 a0 1).bind fun v2 => (xaR 3 q1.2 v2 a1).bind fun v3 => (xgI [1] q1.2 v3 1).bind fun v4 => if a2 ≤ v4 then ((if xk q1.2 a0 = some 10 then f_X11_vectorToChange a0 a1 q1.2 else none).bind fun q5 => (xgI [1] q5.2 q5.1 1).bind fun v6 => (if xk q5.2 q5.1 = some 1 then f_X1_shorten q5.1 a2 q5.2 else none).bind fun q7 => some (v6, q7)) else (some ((-1000001 : Int32), q1.2))))
def f_X1_bitAt (a0 : Nat) (a1 : Int32) (h : xH) : Option (Int32 × xH) := if a1 < 0 then (some ((0 : Int32), h)) else ((xgI [1] h a0 1).bind fun v1 => if a1 < v1 then ((xgR [1] h a0 0).bind fun v2 => (xaI h v2 (a1 / (15 : Int32))).bind fun v3 => some ((v3 >>> ((a1 - a1 / (15 : Int32) * (15 : Int32)) &&& 31)) &&& (1 : Int32), h)) else (some ((0 : Int32), h)))
def f_X1_payloadBits (a0 : Nat) (h : xH) : Option (Int32 × xH) := (if xk h a0 = some 1 then f_X1_blockCount a0 h else none).bind fun q1 => (if xk q1.2 a0 = some 1 then f_X1_beginOf a0 q1.1 q1.2 else none).bind fun q2 => some (q2.1, q2.2)
def f_X11_drawn_L63 : Nat → Nat → Int32 → Int32 → Int64 → Int32 → xH → Option (Int64 × Int32 × xH)
  | 0, _, _, _, _, _, _ => none
  | n + 1, a0, a2, a4, a5, a7, h => if a2 ≤ a7 then (some (a5, a7, h)) else ((xgR [10] h a0 4).bind fun v6 => (xgI [1] h v6 1).bind fun v7 => if v7 ≤ 0 then (some (a5, a7, h)) else ((xgR [10] h a0 4).bind fun v8 => (xgI [1] h v8 1).bind fun v9 => if v9.toInt64 = 0 then none else (xgR [10] h a0 4).bind fun v11 => (xgR [10] h a0 4).bind fun v12 => (if xk h v12 = some 1 then f_X1_bitAt v12 ((((a5 * (16807 : Int64)) - (a5 * (16807 : Int64)) / (2147483647 : Int64) * (2147483647 : Int64)) - ((a5 * (16807 : Int64)) - (a5 * (16807 : Int64)) / (2147483647 : Int64) * (2147483647 : Int64)) / v9.toInt64 * v9.toInt64).toInt32) h else none).bind fun q13 => (if xk q13.2 v11 = some 1 then f_X1_write v11 ((((a5 * (16807 : Int64)) - (a5 * (16807 : Int64)) / (2147483647 : Int64) * (2147483647 : Int64)) - ((a5 * (16807 : Int64)) - (a5 * (16807 : Int64)) / (2147483647 : Int64) * (2147483647 : Int64)) / v9.toInt64 * v9.toInt64).toInt32) ((1 : Int32) - q13.1) q13.2 else none).bind fun q14 => f_X11_drawn_L63 n a0 a2 a4 ((a5 * (16807 : Int64)) - (a5 * (16807 : Int64)) / (2147483647 : Int64) * (2147483647 : Int64)) (a7 + (1 : Int32)) q14))
def f_X11_drawn (a0 : Nat) (a1 : Int32) (a2 : Int32) (a3 : Int32) (a4 : Int32) (h : xH) : Option (Int32 × xH) := (f_X11_isVector a1 h).bind fun q1 => if q1.1 = 0 then (some ((-1000001 : Int32), q1.2)) else (if a2 < 0 then (some ((-1000001 : Int32), q1.2)) else (if (200 : Int32) < a2 then (some ((-1000001 : Int32), q1.2)) else (if a3 < (1 : Int32) then (some ((-1000001 : Int32), q1.2)) else (if (999999 : Int32) < a3 then (some ((-1000001 : Int32), q1.2)) else (if a4 < 0 then (some ((-1000001 : Int32), q1.2)) else (if a4 ≤ (1 : Int32) then ((xgR [10] q1.2 a0 4).bind fun v2 => (xgR [10] q1.2 a0 1).bind fun v3 => (xaR 3 q1.2 v3 a1).bind fun v4 => (if xk q1.2 v2 = some 1 then f_X1_copyFrom v2 v4 q1.2 else none).bind fun q5 => (f_X11_drawn_L63 xN a0 a2 a4 a3.toInt64 (0 : Int32) q5).bind fun q15 => if a4 = 0 then ((xgR [10] q15.2.2 a0 4).bind fun v16 => (if xk q15.2.2 v16 = some 1 then f_X1_countOnes v16 q15.2.2 else none).bind fun q17 => some (q17.1, q17.2)) else ((xgR [10] q15.2.2 a0 4).bind fun v18 => (if xk q15.2.2 v18 = some 1 then f_X1_payloadBits v18 q15.2.2 else none).bind fun q19 => some (q19.1, q19.2))) else (some ((-1000001 : Int32), q1.2))))))))
def f_X11_drop (a0 : Nat) (a1 : Int32) (h : xH) : Option (Int32 × xH) := (f_X11_isRow a1 h).bind fun q1 => if q1.1 = 0 then (some ((-1000001 : Int32), q1.2)) else ((xgR [10] q1.2 a0 0).bind fun v2 => (xaR 2 q1.2 v2 a1).bind fun v3 => (xgI [5] q1.2 v3 1).bind fun v4 => if v4 = 0 then ((xgR [10] q1.2 a0 0).bind fun v5 => (xaR 2 q1.2 v5 a1).bind fun v6 => (xpI [5] q1.2 v6 1 (1 : Int32)).bind fun h7 => (xgR [10] h7 a0 0).bind fun v8 => (xaR 2 h7 v8 a1).bind fun v9 => (xgI [5] h7 v9 3).bind fun v10 => (if xk h7 a0 = some 10 then f_X11_fine a0 v10 h7 else none).bind fun q11 => some (q11.1, q11.2)) else ((if xk q1.2 a0 = some 10 then f_X11_found a0 (1 : Int32) q1.2 else none).bind fun q12 => some (q12.1, q12.2)))
def f_X1_entryCount (a0 : Nat) (h : xH) : Option (Int32 × xH) := (if xk h a0 = some 1 then f_X1_blockCount a0 h else none).bind fun q1 => some (((q1.1 + (4 : Int32)) - (1 : Int32)) / (4 : Int32), q1.2)
def f_X11_entry (a0 : Nat) (a1 : Int32) (a2 : Int32) (a3 : Int32) (h : xH) : Option (Int32 × xH) := (f_X11_isVector a1 h).bind fun q1 => if q1.1 = 0 then (some ((-1000001 : Int32), q1.2)) else (if a2 < 0 then (some ((-1000001 : Int32), q1.2)) else ((xgR [10] q1.2 a0 1).bind fun v2 => (xaR 3 q1.2 v2 a1).bind fun v3 => (if xk q1.2 v3 = some 1 then f_X1_entryCount v3 q1.2 else none).bind fun q4 => if a2 < q4.1 then (if a3 = 0 then ((xgR [10] q4.2 a0 1).bind fun v5 => (xaR 3 q4.2 v5 a1).bind fun v6 => (if xk q4.2 v6 = some 1 then f_X1_onesAhead v6 ((15 : Int32) * ((4 : Int32) * a2)) q4.2 else none).bind fun q7 => some (q7.1, q7.2)) else if a3 = 1 then ((xgR [10] q4.2 a0 1).bind fun v10 => (xaR 3 q4.2 v10 a1).bind fun v11 => (if xk q4.2 v11 = some 1 then f_X1_beginOf v11 ((4 : Int32) * a2) q4.2 else none).bind fun q12 => some (q12.1, q12.2)) else (some ((-1000001 : Int32), q4.2))) else (some ((-1000001 : Int32), q4.2))))
def f_X11_fault (a0 : Nat) (h : xH) : Option (Int32 × xH) := (xgI [10] h a0 10).bind fun v1 => some (v1, h)
def f_X7_hasRoom (a0 : Nat) (h : xH) : Option (Int32 × xH) := (xgI [6] h a0 3).bind fun v1 => if (60 : Int32) ≤ v1 then (some ((0 : Int32), h)) else (some ((1 : Int32), h))
def f_X7_append (a0 : Nat) (a1 : Int32) (h : xH) : Option (Int32 × xH) := (if xk h a0 = some 6 then f_X7_hasRoom a0 h else none).bind fun q1 => if q1.1 = 0 then ((xgI [6] q1.2 a0 3).bind fun v2 => some (v2, q1.2)) else ((xgR [6] q1.2 a0 0).bind fun v3 => (xgI [6] q1.2 a0 3).bind fun v4 => (xuI q1.2 v3 v4 a1).bind fun h5 => (xgI [6] h5 a0 3).bind fun v6 => (xpI [6] h5 a0 3 (v6 + (1 : Int32))).bind fun h7 => (xgI [6] h7 a0 3).bind fun v8 => some (v8, h7))
def f_X11_feed (a0 : Nat) (a1 : Int32) (h : xH) : Option (Int32 × xH) := if a1 < 0 then (some ((-1000001 : Int32), h)) else (if a1 ≤ (255 : Int32) then ((xgR [10] h a0 6).bind fun v1 => (if xk h v1 = some 6 then f_X7_hasRoom v1 h else none).bind fun q2 => if q2.1 = 0 then (some ((-1000003 : Int32), q2.2)) else ((xgR [10] q2.2 a0 6).bind fun v3 => (if xk q2.2 v3 = some 6 then f_X7_append v3 a1 q2.2 else none).bind fun q4 => some (q4.1, q4.2))) else (some ((-1000001 : Int32), h)))
def f_X11_get (a0 : Nat) (a1 : Int32) (a2 : Int32) (h : xH) : Option (Int32 × xH) := (f_X11_isVector a1 h).bind fun q1 => if q1.1 = 0 then (some ((-1000001 : Int32), q1.2)) else (if a2 < 0 then (some ((-1000001 : Int32), q1.2)) else ((xgR [10] q1.2 a0 1).bind fun v2 => (xaR 3 q1.2 v2 a1).bind fun v3 => (xgI [1] q1.2 v3 1).bind fun v4 => if a2 < v4 then ((xgR [10] q1.2 a0 1).bind fun v5 => (xaR 3 q1.2 v5 a1).bind fun v6 => (if xk q1.2 v6 = some 1 then f_X1_bitAt v6 a2 q1.2 else none).bind fun q7 => some (q7.1, q7.2)) else (some ((-1000001 : Int32), q1.2))))
def f_X11_image_L14 : Nat → Nat → Int32 → Int32 → xH → Option (Int32 × xH)
  | 0, _, _, _, _ => none
  | n + 1, a0, a1, a2, h => if (4 : Int32) ≤ a2 then (some (a2, h)) else ((xgR [10] h a0 2).bind fun v1 => (xaR 3 h v1 (((4 : Int32) * a1) + a2)).bind fun v2 => (xgR [10] h a0 1).bind fun v3 => (xaR 3 h v3 a2).bind fun v4 => (if xk h v2 = some 1 then f_X1_copyFrom v2 v4 h else none).bind fun q5 => f_X11_image_L14 n a0 a1 (a2 + (1 : Int32)) q5)
def f_X11_image (a0 : Nat) (a1 : Int32) (h : xH) : Option (Int32 × xH) := if a1 < 0 then (some ((-1000001 : Int32), h)) else (if a1 < (2 : Int32) then ((f_X11_image_L14 xN a0 a1 (0 : Int32) h).bind fun q6 => (xgR [10] q6.2 a0 3).bind fun v7 => (xuZ q6.2 v7 a1 (1 : Int32)).bind fun h8 => (if xk h8 a0 = some 10 then f_X11_onesOfAll a0 h8 else none).bind fun q9 => some (q9.1, q9.2)) else (some ((-1000001 : Int32), h)))
def f_X11_isInt (a0 : Int64) (h : xH) : Option (Int32 × xH) := if (lg_cmp a0 a0.toInt32.toInt64) = 0 then (some ((1 : Int32), h)) else (some ((0 : Int32), h))
def f_X11_isPlaceOrEnd (a0 : Nat) (a1 : Int32) (a2 : Int32) (h : xH) : Option (Int32 × xH) := (f_X11_isVector a1 h).bind fun q1 => if q1.1 = 0 then (some ((0 : Int32), q1.2)) else (if a2 < 0 then (some ((0 : Int32), q1.2)) else ((xgR [10] q1.2 a0 1).bind fun v2 => (xaR 3 q1.2 v2 a1).bind fun v3 => (xgI [1] q1.2 v3 1).bind fun v4 => if v4 < a2 then (some ((0 : Int32), q1.2)) else (some ((1 : Int32), q1.2))))
def f_X11_join (a0 : Nat) (a1 : Int32) (a2 : Int32) (a3 : Int32) (a4 : Int32) (h : xH) : Option (Int32 × xH) := if a1 < 0 then (some ((-1000001 : Int32), h)) else (if (3 : Int32) < a1 then (some ((-1000001 : Int32), h)) else ((f_X11_isVector a2 h).bind fun q1 => if q1.1 = 0 then (some ((-1000001 : Int32), q1.2)) else ((f_X11_isVector a3 q1.2).bind fun q2 => if q2.1 = 0 then (some ((-1000001 : Int32), q2.2)) else ((f_X11_isVector a4 q2.2).bind fun q3 => if q3.1 = 0 then (some ((-1000001 : Int32), q3.2)) else ((if xk q3.2 a0 = some 10 then f_X11_vectorToChange a0 a4 q3.2 else none).bind fun q4 => (xgR [10] q4.2 a0 1).bind fun v5 => (xaR 3 q4.2 v5 a2).bind fun v6 => (xgR [10] q4.2 a0 1).bind fun v7 => (xaR 3 q4.2 v7 a3).bind fun v8 => (if xk q4.2 q4.1 = some 1 then f_X1_becomeJoined q4.1 a1 v6 v8 q4.2 else none).bind fun q9 => (if xk q9 q4.1 = some 1 then f_X1_countOnes q4.1 q9 else none).bind fun q10 => some (q10.1, q10.2))))))
def f_X0_kindNumber (a0 : Nat) (h : xH) : Option (Int32 × xH) := some ((4 : Int32), h)
def f_X2_kindNumber (a0 : Nat) (h : xH) : Option (Int32 × xH) := some ((5 : Int32), h)
def f_X4_kindNumber (a0 : Nat) (h : xH) : Option (Int32 × xH) := some ((2 : Int32), h)
def f_X8_kindNumber (a0 : Nat) (h : xH) : Option (Int32 × xH) := some ((3 : Int32), h)
def f_X10_kindNumber (a0 : Nat) (h : xH) : Option (Int32 × xH) := some ((1 : Int32), h)
def f_X11_kind (a0 : Nat) (a1 : Int32) (h : xH) : Option (Int32 × xH) := (if xk h a0 = some 10 then f_X11_isRun a0 a1 h else none).bind fun q1 => if q1.1 = 0 then (some ((-1000001 : Int32), q1.2)) else ((xgR [10] q1.2 a0 7).bind fun v2 => (xaR 4 q1.2 v2 a1).bind fun v3 => (if xk q1.2 v3 = some 0 then f_X0_kindNumber v3 q1.2 else if xk q1.2 v3 = some 2 then f_X2_kindNumber v3 q1.2 else if xk q1.2 v3 = some 4 then f_X4_kindNumber v3 q1.2 else if xk q1.2 v3 = some 7 then f_X8_kindNumber v3 q1.2 else if xk q1.2 v3 = some 9 then f_X10_kindNumber v3 q1.2 else none).bind fun q4 => some (q4.1, q4.2))
def f_X11_last_L32 : Nat → Int32 → Nat → Int32 → xH → Option (Int32 × xH)
  | 0, _, _, _, _ => none
  | n + 1, a3, a4, a5, h => if a5 < 0 then (some ((-1000000 : Int32), h)) else ((if xk h a4 = some 1 then f_X1_bitAt a4 a5 h else none).bind fun q5 => if q5.1 = a3 then (some (a5, q5.2)) else (f_X11_last_L32 n a3 a4 (a5 + (-1 : Int32)) q5.2))
def f_X11_last (a0 : Nat) (a1 : Int32) (a2 : Int32) (a3 : Int32) (h : xH) : Option (Int32 × xH) := (if xk h a0 = some 10 then f_X11_isPlaceOrEnd a0 a1 a2 h else none).bind fun q1 => if q1.1 = 0 then (some ((-1000001 : Int32), q1.2)) else ((f_X11_isValue a3 q1.2).bind fun q2 => if q2.1 = 0 then (some ((-1000001 : Int32), q2.2)) else ((xgR [10] q2.2 a0 1).bind fun v3 => (xaR 3 q2.2 v3 a1).bind fun v4 => f_X11_last_L32 xN a3 v4 (a2 - (1 : Int32)) q2.2))
def f_X6_init (a0 : Nat) (a1 : Int32) (a2 : Int32) (h : xH) : Option (xH) := (xpI [0, 2, 4, 7, 9] h a0 0 a1).bind fun h1 => (xpI [0, 2, 4, 7, 9] h1 a0 1 a2).bind fun h2 => some h2
def f_X0_init (a0 : Nat) (a1 : Int32) (a2 : Int32) (h : xH) : Option (xH) := (f_X6_init a0 a1 a2 h).bind fun q1 => some q1
def f_X2_init (a0 : Nat) (a1 : Int32) (a2 : Int32) (h : xH) : Option (xH) := (f_X0_init a0 a1 a2 h).bind fun q1 => some q1
def f_X10_init (a0 : Nat) (a1 : Int32) (a2 : Int32) (h : xH) : Option (xH) := (f_X6_init a0 a1 a2 h).bind fun q1 => some q1
def f_X4_init (a0 : Nat) (a1 : Int32) (a2 : Int32) (h : xH) : Option (xH) := (f_X10_init a0 a1 a2 h).bind fun q1 => some q1
def f_X8_init (a0 : Nat) (a1 : Int32) (a2 : Int32) (h : xH) : Option (xH) := (f_X10_init a0 a1 a2 h).bind fun q1 => some q1
def f_X11_newRun (a0 : Int32) (a1 : Int32) (a2 : Int32) (h : xH) : Option (Nat × xH) := if a0 = 2 then ((f_X4_init h.length a1 a2 (h ++ [.inr (4, [.int 0, .int 0])])).bind fun q1 => some (h.length, q1)) else if a0 = 3 then ((f_X8_init h.length a1 a2 (h ++ [.inr (7, [.int 0, .int 0])])).bind fun q3 => some (h.length, q3)) else if a0 = 4 then ((f_X0_init h.length a1 a2 (h ++ [.inr (0, [.int 0, .int 0])])).bind fun q5 => some (h.length, q5)) else if a0 = 5 then ((f_X2_init h.length a1 a2 (h ++ [.inr (2, [.int 0, .int 0])])).bind fun q7 => some (h.length, q7)) else ((f_X10_init h.length a1 a2 (h ++ [.inr (9, [.int 0, .int 0])])).bind fun q9 => some (h.length, q9))
def f_X11_takeOverRuns_L13 : Nat → Nat → Int32 → xH → Option (Int32 × xH)
  | 0, _, _, _ => none
  | n + 1, a0, a1, h => if (12 : Int32) ≤ a1 then (some (a1, h)) else ((xgR [10] h a0 7).bind fun v4 => (xgI [10] h a0 9).bind fun v5 => if v5 ≤ a1 then ((xuQ 4 h v4 a1 none).bind fun h6 => f_X11_takeOverRuns_L13 n a0 (a1 + (1 : Int32)) h6) else ((xgR [10] h a0 6).bind fun v7 => (xgR [6] h v7 1).bind fun v8 => (xaI h v8 a1).bind fun v9 => (xgR [10] h a0 6).bind fun v10 => (xgR [6] h v10 2).bind fun v11 => (xaI h v11 a1).bind fun v12 => (f_X11_newRun v9 a1 v12 h).bind fun q13 => if xk q13.2 q13.1 = some 0 then ((xuQ 4 q13.2 v4 a1 (some q13.1)).bind fun h15 => f_X11_takeOverRuns_L13 n a0 (a1 + (1 : Int32)) h15) else if xk q13.2 q13.1 = some 2 then ((xuQ 4 q13.2 v4 a1 (some q13.1)).bind fun h17 => f_X11_takeOverRuns_L13 n a0 (a1 + (1 : Int32)) h17) else if xk q13.2 q13.1 = some 4 then ((xuQ 4 q13.2 v4 a1 (some q13.1)).bind fun h19 => f_X11_takeOverRuns_L13 n a0 (a1 + (1 : Int32)) h19) else if xk q13.2 q13.1 = some 7 then ((xuQ 4 q13.2 v4 a1 (some q13.1)).bind fun h21 => f_X11_takeOverRuns_L13 n a0 (a1 + (1 : Int32)) h21) else if xk q13.2 q13.1 = some 9 then ((xuQ 4 q13.2 v4 a1 (some q13.1)).bind fun h23 => f_X11_takeOverRuns_L13 n a0 (a1 + (1 : Int32)) h23) else none))
def f_X11_takeOverRuns (a0 : Nat) (h : xH) : Option (xH) := (xgR [10] h a0 6).bind fun v1 => (xgI [6] h v1 5).bind fun v2 => (xpI [10] h a0 9 v2).bind fun h3 => (f_X11_takeOverRuns_L13 xN a0 (0 : Int32) h3).bind fun q25 => some q25.2
def f_X1_appendRun_L2 : Nat → Nat → Nat → Int32 → xH → Option (Int32 × xH)
  | 0, _, _, _, _ => none
  | n + 1, a0, a1, a2, h => (xgI [0, 2, 4, 7, 9] h a1 1).bind fun v1 => if v1 ≤ a2 then (some (a2, h)) else ((if xk h a1 = some 0 then f_X0_bitOf a1 a2 h else if xk h a1 = some 2 then f_X2_bitOf a1 a2 h else if xk h a1 = some 4 then f_X4_bitOf a1 a2 h else if xk h a1 = some 7 then f_X8_bitOf a1 a2 h else if xk h a1 = some 9 then f_X10_bitOf a1 a2 h else none).bind fun q2 => (if xk q2.2 a0 = some 1 then f_X1_append a0 q2.1 q2.2 else none).bind fun q3 => f_X1_appendRun_L2 n a0 a1 (a2 + (1 : Int32)) q3)
def f_X1_appendRun (a0 : Nat) (a1 : Nat) (h : xH) : Option (xH) := (f_X1_appendRun_L2 xN a0 a1 (0 : Int32) h).bind fun q4 => some q4.2
def f_J7_fill_53178_L5 : Nat → Nat → Int32 → Int32 → Int32 → xH → Option (Int32 × xH)
  | 0, _, _, _, _, _ => none
  | n + 1, a0, a1, a2, a3, h => if a3 ≤ a2 then (some (a2, h)) else ((xuI h a0 a2 a1).bind fun h2 => f_J7_fill_53178_L5 n a0 a1 (a2 + (1 : Int32)) a3 h2)
def f_J7_fill_53178 (a0 : Nat) (a1 : Int32) (h : xH) : Option (xH) := (xaL h a0).bind fun v1 => (f_J7_fill_53178_L5 xN a0 a1 (0 : Int32) v1 h).bind fun q3 => some q3.2
def f_X1_clearTo (a0 : Nat) (a1 : Int32) (h : xH) : Option (xH) := (xpI [1] h a0 1 a1).bind fun h1 => (xgR [1] h1 a0 0).bind fun v2 => (f_J7_fill_53178 v2 (0 : Int32) h1).bind fun q3 => some q3
def f_X7_emptyTape (a0 : Nat) (h : xH) : Option (xH) := (xpI [6] h a0 3 (0 : Int32)).bind fun h1 => some h1
def f_X7_byteAt (a0 : Nat) (a1 : Int32) (h : xH) : Option (Int32 × xH) := if a1 < 0 then (some ((-1000000 : Int32), h)) else ((xgI [6] h a0 3).bind fun v1 => if a1 < v1 then ((xgR [6] h a0 0).bind fun v2 => (xaI h v2 a1).bind fun v3 => some (v3, h)) else (some ((-1000000 : Int32), h)))
def f_X7_isFigure (a0 : Int32) (h : xH) : Option (Int32 × xH) := if a0 < (48 : Int32) then (some ((0 : Int32), h)) else (if (57 : Int32) < a0 then (some ((0 : Int32), h)) else (some ((1 : Int32), h)))
def f_X7_readNumber_L9 : Nat → Nat → Int32 → Int32 → Int32 → xH → Option (Int32 × Int32 × Int32 × xH)
  | 0, _, _, _, _, _ => none
  | n + 1, a0, a1, a2, a3, h => (xgI [6] h a0 3).bind fun v2 => if v2 ≤ a3 then (some (a1, a2, a3, h)) else ((if xk h a0 = some 6 then f_X7_byteAt a0 a3 h else none).bind fun q3 => (f_X7_isFigure q3.1 q3.2).bind fun q4 => if q4.1 = 0 then (some (a1, a2, a3, q4.2)) else (if (3 : Int32) ≤ a1 then (some (a1, a2, a3, q4.2)) else ((if xk q4.2 a0 = some 6 then f_X7_byteAt a0 a3 q4.2 else none).bind fun q5 => f_X7_readNumber_L9 n a0 (a1 + (1 : Int32)) ((((10 : Int32) * a2) + q5.1) - (48 : Int32)) (a3 + (1 : Int32)) q5.2)))
def f_X7_readNumber (a0 : Nat) (h : xH) : Option (Int32 × xH) := (xgI [6] h a0 4).bind fun v1 => (f_X7_readNumber_L9 xN a0 (0 : Int32) (0 : Int32) v1 h).bind fun q6 => if q6.1 < (1 : Int32) then (some ((1 : Int32), q6.2.2.2)) else (if q6.1 ≤ (2 : Int32) then (if (1 : Int32) ≤ q6.2.1 then ((xgI [6] q6.2.2.2 a0 6).bind fun v7 => if (v7 + q6.2.1) ≤ (480 : Int32) then ((xpI [6] q6.2.2.2 a0 8 q6.2.1).bind fun h8 => (xgI [6] h8 a0 4).bind fun v9 => (xpI [6] h8 a0 4 (v9 + q6.1)).bind fun h10 => some ((0 : Int32), h10)) else (some ((4 : Int32), q6.2.2.2))) else (some ((2 : Int32), q6.2.2.2))) else (some ((1 : Int32), q6.2.2.2)))
def f_X7_readSemicolon (a0 : Nat) (h : xH) : Option (Int32 × xH) := (xgI [6] h a0 4).bind fun v1 => (if xk h a0 = some 6 then f_X7_byteAt a0 v1 h else none).bind fun q2 => if q2.1 = (59 : Int32) then ((xgI [6] q2.2 a0 5).bind fun v3 => if v3 < (12 : Int32) then ((xgR [6] q2.2 a0 1).bind fun v4 => (xgI [6] q2.2 a0 5).bind fun v5 => (xgI [6] q2.2 a0 7).bind fun v6 => (xuI q2.2 v4 v5 v6).bind fun h7 => (xgR [6] h7 a0 2).bind fun v8 => (xgI [6] h7 a0 5).bind fun v9 => (xgI [6] h7 a0 8).bind fun v10 => (xuI h7 v8 v9 v10).bind fun h11 => (xgI [6] h11 a0 5).bind fun v12 => (xpI [6] h11 a0 5 (v12 + (1 : Int32))).bind fun h13 => (xgI [6] h13 a0 6).bind fun v14 => (xgI [6] h13 a0 8).bind fun v15 => (xpI [6] h13 a0 6 (v14 + v15)).bind fun h16 => (xgI [6] h16 a0 4).bind fun v17 => (xpI [6] h16 a0 4 (v17 + (1 : Int32))).bind fun h18 => some ((0 : Int32), h18)) else (some ((1 : Int32), q2.2))) else (some ((1 : Int32), q2.2))
def f_X7_kindOfLetter (a0 : Int32) (h : xH) : Option (Int32 × xH) := if a0 = 97 then (some ((4 : Int32), h)) else if a0 = 98 then (some ((5 : Int32), h)) else if a0 = 111 then (some ((2 : Int32), h)) else if a0 = 116 then (some ((3 : Int32), h)) else if a0 = 122 then (some ((1 : Int32), h)) else (some ((0 : Int32), h))
def f_X7_readSort (a0 : Nat) (h : xH) : Option (Int32 × xH) := (xgI [6] h a0 4).bind fun v1 => (if xk h a0 = some 6 then f_X7_byteAt a0 v1 h else none).bind fun q2 => (f_X7_kindOfLetter q2.1 q2.2).bind fun q3 => (xpI [6] q3.2 a0 7 q3.1).bind fun h4 => (xgI [6] h4 a0 7).bind fun v5 => if v5 = 0 then (some ((1 : Int32), h4)) else ((xgI [6] h4 a0 5).bind fun v6 => if v6 < (12 : Int32) then ((xgI [6] h4 a0 4).bind fun v7 => (xpI [6] h4 a0 4 (v7 + (1 : Int32))).bind fun h8 => some ((0 : Int32), h8)) else (some ((3 : Int32), h4)))
def f_X7_readRun (a0 : Nat) (h : xH) : Option (Int32 × xH) := (if xk h a0 = some 6 then f_X7_readSort a0 h else none).bind fun q1 => if q1.1 = 0 then ((if xk q1.2 a0 = some 6 then f_X7_readNumber a0 q1.2 else none).bind fun q2 => if q2.1 = 0 then ((if xk q2.2 a0 = some 6 then f_X7_readSemicolon a0 q2.2 else none).bind fun q3 => some (q3.1, q3.2)) else (some (q2.1, q2.2))) else (if q1.1 = 0 then ((if xk q1.2 a0 = some 6 then f_X7_readSemicolon a0 q1.2 else none).bind fun q4 => some (q4.1, q4.2)) else (some (q1.1, q1.2)))
def f_X7_readTape_L22 : Nat → Nat → Int32 → Int32 → xH → Option (Int32 × Int32 × xH)
  | 0, _, _, _, _ => none
  | n + 1, a0, a1, a2, h => if (60 : Int32) ≤ a2 then (some (a1, a2, h)) else (if a1 = 0 then ((xgI [6] h a0 4).bind fun v5 => (xgI [6] h a0 3).bind fun v6 => if v6 ≤ v5 then (some (a1, a2, h)) else ((if xk h a0 = some 6 then f_X7_readRun a0 h else none).bind fun q7 => f_X7_readTape_L22 n a0 q7.1 (a2 + (1 : Int32)) q7.2)) else (some (a1, a2, h)))
def f_X7_readTape (a0 : Nat) (h : xH) : Option (Int32 × xH) := (xpI [6] h a0 4 (0 : Int32)).bind fun h1 => (xpI [6] h1 a0 5 (0 : Int32)).bind fun h2 => (xpI [6] h2 a0 6 (0 : Int32)).bind fun h3 => (if xk h3 a0 = some 6 then f_X7_readRun a0 h3 else none).bind fun q4 => (f_X7_readTape_L22 xN a0 q4.1 (0 : Int32) q4.2).bind fun q8 => some (q8.1, q8.2.2)
def f_X11_load_L63 : Nat → Nat → Nat → Int32 → xH → Option (Int32 × xH)
  | 0, _, _, _, _ => none
  | n + 1, a0, a3, a4, h => (xgI [10] h a0 9).bind fun v9 => if v9 ≤ a4 then (some (a4, h)) else ((xgR [10] h a0 7).bind fun v10 => (xaR 4 h v10 a4).bind fun v11 => (if xk h a3 = some 1 then f_X1_appendRun a3 v11 h else none).bind fun q12 => f_X11_load_L63 n a0 a3 (a4 + (1 : Int32)) q12)
def f_X11_load (a0 : Nat) (a1 : Int32) (h : xH) : Option (Int32 × xH) := (f_X11_isVector a1 h).bind fun q1 => if q1.1 = 0 then (some ((-1000001 : Int32), q1.2)) else ((xgR [10] q1.2 a0 6).bind fun v2 => (if xk q1.2 v2 = some 6 then f_X7_readTape v2 q1.2 else none).bind fun q3 => (xgR [10] q3.2 a0 6).bind fun v4 => (if xk q3.2 v4 = some 6 then f_X7_emptyTape v4 q3.2 else none).bind fun q5 => if q3.1 = 0 then ((if xk q5 a0 = some 10 then f_X11_takeOverRuns a0 q5 else none).bind fun q6 => (if xk q6 a0 = some 10 then f_X11_vectorToChange a0 a1 q6 else none).bind fun q7 => (if xk q7.2 q7.1 = some 1 then f_X1_clearTo q7.1 (0 : Int32) q7.2 else none).bind fun q8 => (f_X11_load_L63 xN a0 q7.1 (0 : Int32) q8).bind fun q13 => (xgI [1] q13.2 q7.1 1).bind fun v14 => some (v14, q13.2)) else ((xpI [10] q5 a0 10 q3.1).bind fun h15 => (xgR [10] h15 a0 6).bind fun v16 => (xgI [6] h15 v16 4).bind fun v17 => some ((-1000100 : Int32) - v17, h15)))
def f_X11_longest_L47 : Nat → Int32 → Int32 → Nat → Int32 → Int32 → Int32 → Int32 → xH → Option (Int32 × Int32 × Int32 × Int32 × xH)
  | 0, _, _, _, _, _, _, _, _ => none
  | n + 1, a2, a3, a4, a5, a6, a7, a8, h => (xgI [1] h a4 1).bind fun v5 => if v5 ≤ a8 then (some (a5, a6, a7, a8, h)) else ((if xk h a4 = some 1 then f_X1_bitAt a4 a8 h else none).bind fun q6 => if (if q6.1 = a2 then a7 + (1 : Int32) else (0 : Int32)) ≤ a5 then (f_X11_longest_L47 n a2 a3 a4 a5 a6 (if q6.1 = a2 then a7 + (1 : Int32) else (0 : Int32)) (a8 + (1 : Int32)) q6.2) else (f_X11_longest_L47 n a2 a3 a4 (if q6.1 = a2 then a7 + (1 : Int32) else (0 : Int32)) ((a8 + (1 : Int32)) - (if q6.1 = a2 then a7 + (1 : Int32) else (0 : Int32))) (if q6.1 = a2 then a7 + (1 : Int32) else (0 : Int32)) (a8 + (1 : Int32)) q6.2))
def f_X11_longest (a0 : Nat) (a1 : Int32) (a2 : Int32) (a3 : Int32) (h : xH) : Option (Int32 × xH) := (f_X11_isVector a1 h).bind fun q1 => if q1.1 = 0 then (some ((-1000001 : Int32), q1.2)) else ((f_X11_isValue a2 q1.2).bind fun q2 => if q2.1 = 0 then (some ((-1000001 : Int32), q2.2)) else (if a3 < 0 then (some ((-1000001 : Int32), q2.2)) else (if a3 ≤ (1 : Int32) then ((xgR [10] q2.2 a0 1).bind fun v3 => (xaR 3 q2.2 v3 a1).bind fun v4 => (f_X11_longest_L47 xN a2 a3 v4 (0 : Int32) (-1000000 : Int32) (0 : Int32) (0 : Int32) q2.2).bind fun q8 => if a3 = 0 then (some (q8.1, q8.2.2.2.2)) else (some (q8.2.1, q8.2.2.2.2))) else (some ((-1000001 : Int32), q2.2)))))
def f_X11_maskOf_L11 : Nat → Int32 → Int32 → Int32 → Int32 → xH → Option (Int32 × Int32 × Int32 × Int32 × xH)
  | 0, _, _, _, _, _ => none
  | n + 1, a2, a3, a4, a5, h => if a5 < 0 then (some (a2, a3, a4, a5, h)) else (if a3 ≤ 0 then (f_X11_maskOf_L11 n a2 a3 a4 (a5 + (-1 : Int32)) h) else ((f_X11_choices a5 a3 h).bind fun q1 => if a4 < q1.1 then (f_X11_maskOf_L11 n a2 a3 a4 (a5 + (-1 : Int32)) q1.2) else ((f_X11_choices a5 a3 q1.2).bind fun q2 => f_X11_maskOf_L11 n (a2 ||| ((1 : Int32) <<< (a5 &&& 31))) (a3 + (-1 : Int32)) (a4 - q2.1) (a5 + (-1 : Int32)) q2.2)))
def f_X11_maskOf (a0 : Int32) (a1 : Int32) (h : xH) : Option (Int32 × xH) := (f_X11_maskOf_L11 xN (0 : Int32) a0 a1 (14 : Int32) h).bind fun q3 => some (q3.1, q3.2.2.2.2)
def f_X11_mask (a0 : Nat) (a1 : Int32) (a2 : Int32) (h : xH) : Option (Int32 × xH) := if a1 < 0 then (some ((-1000001 : Int32), h)) else (if (15 : Int32) < a1 then (some ((-1000001 : Int32), h)) else (if a2 < 0 then (some ((-1000001 : Int32), h)) else ((f_X11_choices (15 : Int32) a1 h).bind fun q1 => if a2 < q1.1 then ((f_X11_maskOf a1 a2 q1.2).bind fun q2 => some (q2.1, q2.2)) else (some ((-1000001 : Int32), q1.2)))))
def f_X11_next_L30 : Nat → Int32 → Nat → Int32 → xH → Option (Int32 × xH)
  | 0, _, _, _, _ => none
  | n + 1, a3, a4, a5, h => (xgI [1] h a4 1).bind fun v5 => if v5 ≤ a5 then (some ((-1000000 : Int32), h)) else ((if xk h a4 = some 1 then f_X1_bitAt a4 a5 h else none).bind fun q6 => if q6.1 = a3 then (some (a5, q6.2)) else (f_X11_next_L30 n a3 a4 (a5 + (1 : Int32)) q6.2))
def f_X11_next (a0 : Nat) (a1 : Int32) (a2 : Int32) (a3 : Int32) (h : xH) : Option (Int32 × xH) := (if xk h a0 = some 10 then f_X11_isPlaceOrEnd a0 a1 a2 h else none).bind fun q1 => if q1.1 = 0 then (some ((-1000001 : Int32), q1.2)) else ((f_X11_isValue a3 q1.2).bind fun q2 => if q2.1 = 0 then (some ((-1000001 : Int32), q2.2)) else ((xgR [10] q2.2 a0 1).bind fun v3 => (xaR 3 q2.2 v3 a1).bind fun v4 => f_X11_next_L30 xN a3 v4 a2 q2.2))
def f_X11_offset (a0 : Nat) (a1 : Int32) (h : xH) : Option (Int32 × xH) := if a1 < 0 then (some ((-1000001 : Int32), h)) else (if a1 ≤ (32767 : Int32) then ((f_X11_offsetOf a1 h).bind fun q1 => some (q1.1, q1.2)) else (some ((-1000001 : Int32), h)))
def f_X11_ones (a0 : Nat) (a1 : Int32) (h : xH) : Option (Int32 × xH) := (f_X11_isVector a1 h).bind fun q1 => if q1.1 = 0 then (some ((-1000001 : Int32), q1.2)) else ((xgR [10] q1.2 a0 1).bind fun v2 => (xaR 3 q1.2 v2 a1).bind fun v3 => (if xk q1.2 v3 = some 1 then f_X1_countOnes v3 q1.2 else none).bind fun q4 => some (q4.1, q4.2))
def f_X1_payloadWord_L9 : Nat → Nat → Int64 → Int32 → Int32 → xH → Option (Int64 × Int32 × Int32 × xH)
  | 0, _, _, _, _, _ => none
  | n + 1, a0, a2, a4, a5, h => (if xk h a0 = some 1 then f_X1_blockCount a0 h else none).bind fun q1 => if q1.1 ≤ a5 then (some (a2, a4, a5, q1.2)) else ((if xk q1.2 a0 = some 1 then f_X1_classOf a0 a5 q1.2 else none).bind fun q2 => (xaI q2.2 1 q2.1).bind fun v3 => if (64 : Int32) ≤ a4 then (f_X1_payloadWord_L9 n a0 a2 (a4 + v3) (a5 + (1 : Int32)) q2.2) else (if (a4 + v3) ≤ 0 then (f_X1_payloadWord_L9 n a0 a2 (a4 + v3) (a5 + (1 : Int32)) q2.2) else ((xgR [1] q2.2 a0 0).bind fun v4 => (xaI q2.2 v4 a5).bind fun v5 => (f_X11_offsetOf v5 q2.2).bind fun q6 => f_X1_payloadWord_L9 n a0 (a2 ||| (if a4 < 0 then q6.1.toInt64 >>> ((-a4).toInt64 &&& 63) else q6.1.toInt64 <<< (a4.toInt64 &&& 63))) (a4 + v3) (a5 + (1 : Int32)) q6.2)))
def f_X1_payloadWord (a0 : Nat) (a1 : Int32) (h : xH) : Option (Int64 × xH) := (f_X1_payloadWord_L9 xN a0 (0 : Int64) (-a1) (0 : Int32) h).bind fun q8 => some (q8.1, q8.2.2.2)
def f_X11_payload (a0 : Nat) (a1 : Int32) (a2 : Int32) (h : xH) : Option (Int64 × xH) := (f_X11_isVector a1 h).bind fun q1 => if q1.1 = 0 then (some ((-1000001 : Int64), q1.2)) else (if a2 < 0 then (some ((-1000001 : Int64), q1.2)) else (if a2 < (7 : Int32) then ((xgR [10] q1.2 a0 1).bind fun v2 => (xaR 3 q1.2 v2 a1).bind fun v3 => (if xk q1.2 v3 = some 1 then f_X1_payloadWord v3 ((64 : Int32) * a2) q1.2 else none).bind fun q4 => some (q4.1, q4.2)) else (some ((-1000001 : Int64), q1.2))))
def f_X11_put (a0 : Nat) (a1 : Int32) (a2 : Int32) (a3 : Int32) (h : xH) : Option (Int32 × xH) := (f_X11_isVector a1 h).bind fun q1 => if q1.1 = 0 then (some ((-1000001 : Int32), q1.2)) else ((f_X11_isValue a3 q1.2).bind fun q2 => if q2.1 = 0 then (some ((-1000001 : Int32), q2.2)) else (if a2 < 0 then (some ((-1000001 : Int32), q2.2)) else ((xgR [10] q2.2 a0 1).bind fun v3 => (xaR 3 q2.2 v3 a1).bind fun v4 => (xgI [1] q2.2 v4 1).bind fun v5 => if a2 < v5 then ((if xk q2.2 a0 = some 10 then f_X11_vectorToChange a0 a1 q2.2 else none).bind fun q6 => (if xk q6.2 q6.1 = some 1 then f_X1_bitAt q6.1 a2 q6.2 else none).bind fun q7 => (if xk q7.2 q6.1 = some 1 then f_X1_write q6.1 a2 a3 q7.2 else none).bind fun q8 => some (q7.1, q8)) else (some ((-1000001 : Int32), q2.2)))))
def f_X11_rank (a0 : Nat) (a1 : Int32) (a2 : Int32) (a3 : Int32) (h : xH) : Option (Int32 × xH) := (if xk h a0 = some 10 then f_X11_isPlaceOrEnd a0 a1 a2 h else none).bind fun q1 => if q1.1 = 0 then (some ((-1000001 : Int32), q1.2)) else ((f_X11_isValue a3 q1.2).bind fun q2 => if q2.1 = 0 then (some ((-1000001 : Int32), q2.2)) else ((xgR [10] q2.2 a0 1).bind fun v3 => (xaR 3 q2.2 v3 a1).bind fun v4 => (if xk q2.2 v4 = some 1 then f_X1_onesAhead v4 a2 q2.2 else none).bind fun q5 => if a3 = (1 : Int32) then (some (q5.1, q5.2)) else (some (a2 - q5.1, q5.2))))
def f_X3_forgetAll (a0 : Nat) (h : xH) : Option (xH) := (xpI [3] h a0 3 (0 : Int32)).bind fun h1 => some h1
def f_X11_restore_L26 : Nat → Nat → Int32 → Int32 → xH → Option (Int32 × xH)
  | 0, _, _, _, _ => none
  | n + 1, a0, a1, a2, h => if (4 : Int32) ≤ a2 then (some (a2, h)) else ((xgR [10] h a0 1).bind fun v3 => (xaR 3 h v3 a2).bind fun v4 => (xgR [10] h a0 2).bind fun v5 => (xaR 3 h v5 (((4 : Int32) * a1) + a2)).bind fun v6 => (if xk h v4 = some 1 then f_X1_copyFrom v4 v6 h else none).bind fun q7 => f_X11_restore_L26 n a0 a1 (a2 + (1 : Int32)) q7)
def f_X11_restore (a0 : Nat) (a1 : Int32) (h : xH) : Option (Int32 × xH) := if a1 < 0 then (some ((-1000001 : Int32), h)) else (if a1 < (2 : Int32) then ((xgR [10] h a0 3).bind fun v1 => (xaZ h v1 a1).bind fun v2 => if v2 = 0 then (some ((-1000002 : Int32), h)) else ((f_X11_restore_L26 xN a0 a1 (0 : Int32) h).bind fun q8 => (xgR [10] q8.2 a0 5).bind fun v9 => (if xk q8.2 v9 = some 3 then f_X3_forgetAll v9 q8.2 else none).bind fun q10 => (if xk q10 a0 = some 10 then f_X11_onesOfAll a0 q10 else none).bind fun q11 => some (q11.1, q11.2))) else (some ((-1000001 : Int32), h)))
def f_X5_begin (a0 : Nat) (a1 : Int32) (a2 : Int32) (h : xH) : Option (xH) := (xpI [5] h a0 1 (0 : Int32)).bind fun h1 => (xpI [5] h1 a0 2 a1).bind fun h2 => (xpI [5] h2 a0 3 a2).bind fun h3 => (xgR [5] h3 a0 0).bind fun v4 => (f_J7_fill_53178 v4 (0 : Int32) h3).bind fun q5 => some q5
def f_X11_row (a0 : Nat) (a1 : Int32) (a2 : Int32) (a3 : Int32) (h : xH) : Option (Int32 × xH) := (f_X11_isRow a1 h).bind fun q1 => if q1.1 = 0 then (some ((-1000001 : Int32), q1.2)) else (if a2 < 0 then (some ((-1000001 : Int32), q1.2)) else (if (2 : Int32) < a2 then (some ((-1000001 : Int32), q1.2)) else (if a3 ≤ (40 : Int32) then (if 0 ≤ a3 then ((xgR [10] q1.2 a0 0).bind fun v2 => (xaR 2 q1.2 v2 a1).bind fun v3 => (if xk q1.2 v3 = some 5 then f_X5_begin v3 a2 a3 q1.2 else none).bind fun q4 => (if xk q4 a0 = some 10 then f_X11_fine a0 a3 q4 else none).bind fun q5 => some (q5.1, q5.2)) else ((if xk q1.2 a0 = some 10 then f_X11_found a0 (4 : Int32) q1.2 else none).bind fun q6 => some (q6.1, q6.2))) else (some ((-1000001 : Int32), q1.2)))))
def f_X11_select_L35 : Nat → Int32 → Int32 → Nat → Int32 → Int32 → xH → Option (Int32 × xH)
  | 0, _, _, _, _, _, _ => none
  | n + 1, a2, a3, a4, a5, a6, h => (xgI [1] h a4 1).bind fun v5 => if v5 ≤ a6 then (some ((-1000000 : Int32), h)) else ((if xk h a4 = some 1 then f_X1_bitAt a4 a6 h else none).bind fun q6 => if q6.1 = a3 then (if a5 = a2 then (some (a6, q6.2)) else (f_X11_select_L35 n a2 a3 a4 (a5 + (1 : Int32)) (a6 + (1 : Int32)) q6.2)) else (f_X11_select_L35 n a2 a3 a4 a5 (a6 + (1 : Int32)) q6.2))
def f_X11_select (a0 : Nat) (a1 : Int32) (a2 : Int32) (a3 : Int32) (h : xH) : Option (Int32 × xH) := (f_X11_isVector a1 h).bind fun q1 => if q1.1 = 0 then (some ((-1000001 : Int32), q1.2)) else (if a2 < 0 then (some ((-1000001 : Int32), q1.2)) else ((f_X11_isValue a3 q1.2).bind fun q2 => if q2.1 = 0 then (some ((-1000001 : Int32), q2.2)) else ((xgR [10] q2.2 a0 1).bind fun v3 => (xaR 3 q2.2 v3 a1).bind fun v4 => f_X11_select_L35 xN a2 a3 v4 (0 : Int32) (0 : Int32) q2.2)))
def f_X5_store (a0 : Nat) (a1 : Int32) (a2 : Int32) (h : xH) : Option (xH) := (xgI [5] h a0 2).bind fun v1 => if v1 = 0 then ((xgR [5] h a0 0).bind fun v2 => (xuI h v2 a1 a2.toInt8.toInt32).bind fun h3 => some h3) else ((xgI [5] h a0 2).bind fun v4 => if v4 = (1 : Int32) then ((xgR [5] h a0 0).bind fun v5 => (xuI h v5 a1 a2.toInt16.toInt32).bind fun h6 => some h6) else ((xgR [5] h a0 0).bind fun v7 => (xuI h v7 a1 a2).bind fun h8 => some h8))
def f_X11_set (a0 : Nat) (a1 : Int32) (a2 : Int32) (a3 : Int32) (h : xH) : Option (Int32 × xH) := (f_X11_isRow a1 h).bind fun q1 => if q1.1 = 0 then (some ((-1000001 : Int32), q1.2)) else ((xgR [10] q1.2 a0 0).bind fun v2 => (xaR 2 q1.2 v2 a1).bind fun v3 => (xgI [5] q1.2 v3 1).bind fun v4 => if v4 = 0 then (if a2 < 0 then ((if xk q1.2 a0 = some 10 then f_X11_found a0 (2 : Int32) q1.2 else none).bind fun q5 => some (q5.1, q5.2)) else ((xgI [5] q1.2 v3 3).bind fun v6 => if a2 < v6 then ((if xk q1.2 v3 = some 5 then f_X5_store v3 a2 a3 q1.2 else none).bind fun q7 => (xgR [5] q7 v3 0).bind fun v8 => (xaI q7 v8 a2).bind fun v9 => (if xk q7 a0 = some 10 then f_X11_fine a0 v9 q7 else none).bind fun q10 => some (q10.1, q10.2)) else ((if xk q1.2 a0 = some 10 then f_X11_found a0 (2 : Int32) q1.2 else none).bind fun q11 => some (q11.1, q11.2)))) else ((if xk q1.2 a0 = some 10 then f_X11_found a0 (1 : Int32) q1.2 else none).bind fun q12 => some (q12.1, q12.2)))
def f_X11_size (a0 : Nat) (a1 : Int32) (a2 : Int32) (h : xH) : Option (Int32 × xH) := (f_X11_isVector a1 h).bind fun q1 => if q1.1 = 0 then (some ((-1000001 : Int32), q1.2)) else ((xgR [10] q1.2 a0 1).bind fun v2 => (xaR 3 q1.2 v2 a1).bind fun v3 => (if xk q1.2 v3 = some 1 then f_X1_blockCount v3 q1.2 else none).bind fun q4 => (if xk q4.2 v3 = some 1 then f_X1_entryCount v3 q4.2 else none).bind fun q5 => if a2 = 0 then ((if xk q5.2 v3 = some 1 then f_X1_payloadBits v3 q5.2 else none).bind fun q6 => some (q6.1, q6.2)) else if a2 = 1 then (some ((4 : Int32) * q4.1, q5.2)) else if a2 = 2 then (some ((18 : Int32) * q5.1, q5.2)) else if a2 = 3 then ((if xk q5.2 v3 = some 1 then f_X1_payloadBits v3 q5.2 else none).bind fun q10 => some ((q10.1 + ((4 : Int32) * q4.1)) + ((18 : Int32) * q5.1), q10.2)) else if a2 = 4 then ((if xk q5.2 v3 = some 1 then f_X1_blockCount v3 q5.2 else none).bind fun q12 => some ((15 : Int32) * q12.1, q12.2)) else (some ((-1000001 : Int32), q5.2)))
def f_X11_status (a0 : Nat) (h : xH) : Option (Int32 × xH) := (xgI [10] h a0 11).bind fun v1 => some (v1, h)
def f_X11_stretches_L22 : Nat → Nat → Int32 → Int32 → xH → Option (Int32 × Int32 × xH)
  | 0, _, _, _, _ => none
  | n + 1, a2, a3, a4, h => (xgI [1] h a2 1).bind fun v4 => if v4 ≤ a4 then (some (a3, a4, h)) else (if a4 = 0 then (f_X11_stretches_L22 n a2 (a3 + (1 : Int32)) (a4 + (1 : Int32)) h) else ((if xk h a2 = some 1 then f_X1_bitAt a2 a4 h else none).bind fun q5 => (if xk q5.2 a2 = some 1 then f_X1_bitAt a2 (a4 - (1 : Int32)) q5.2 else none).bind fun q6 => if q5.1 = q6.1 then (f_X11_stretches_L22 n a2 a3 (a4 + (1 : Int32)) q6.2) else (f_X11_stretches_L22 n a2 (a3 + (1 : Int32)) (a4 + (1 : Int32)) q6.2)))
def f_X11_stretches (a0 : Nat) (a1 : Int32) (h : xH) : Option (Int32 × xH) := (f_X11_isVector a1 h).bind fun q1 => if q1.1 = 0 then (some ((-1000001 : Int32), q1.2)) else ((xgR [10] q1.2 a0 1).bind fun v2 => (xaR 3 q1.2 v2 a1).bind fun v3 => (f_X11_stretches_L22 xN v3 (0 : Int32) (0 : Int32) q1.2).bind fun q7 => some (q7.1, q7.2.2))
def f_X5_tellsPlaces_L2 : Nat → Nat → Int32 → Int32 → Int32 → xH → Option (Int32 × xH)
  | 0, _, _, _, _, _ => none
  | n + 1, a0, a1, a2, a3, h => if a1 ≤ a3 then (some ((1 : Int32), h)) else ((xgR [5] h a0 0).bind fun v1 => (xaI h v1 a3).bind fun v2 => if v2 < 0 then (some ((0 : Int32), h)) else ((xgR [5] h a0 0).bind fun v3 => (xaI h v3 a3).bind fun v4 => if v4 < a2 then (f_X5_tellsPlaces_L2 n a0 a1 a2 (a3 + (1 : Int32)) h) else (some ((0 : Int32), h))))
def f_X5_tellsPlaces (a0 : Nat) (a1 : Int32) (a2 : Int32) (h : xH) : Option (Int32 × xH) := f_X5_tellsPlaces_L2 xN a0 a1 a2 (0 : Int32) h
def f_X11_take_L107 : Nat → Nat → Int32 → Nat → Nat → Int32 → xH → Option (Int32 × xH)
  | 0, _, _, _, _, _, _ => none
  | n + 1, a0, a4, a5, a6, a7, h => if a4 ≤ a7 then (some (a7, h)) else ((xgR [5] h a5 0).bind fun v12 => (xaI h v12 a7).bind fun v13 => (if xk h a6 = some 1 then f_X1_write a6 v13 (1 : Int32) h else none).bind fun q14 => f_X11_take_L107 n a0 a4 a5 a6 (a7 + (1 : Int32)) q14)
def f_X11_take (a0 : Nat) (a1 : Int32) (a2 : Int32) (a3 : Int32) (a4 : Int32) (h : xH) : Option (Int32 × xH) := (f_X11_isVector a1 h).bind fun q1 => if q1.1 = 0 then (some ((-1000001 : Int32), q1.2)) else ((f_X11_isRow a3 q1.2).bind fun q2 => if q2.1 = 0 then (some ((-1000001 : Int32), q2.2)) else (if (480 : Int32) < a2 then (some ((-1000001 : Int32), q2.2)) else (if a4 ≤ (40 : Int32) then (if 0 ≤ a2 then ((xgR [10] q2.2 a0 0).bind fun v3 => (xaR 2 q2.2 v3 a3).bind fun v4 => (xgI [5] q2.2 v4 1).bind fun v5 => if v5 = 0 then ((if xk q2.2 v4 = some 5 then f_X5_hasPart v4 (0 : Int32) a4 q2.2 else none).bind fun q6 => if q6.1 = 0 then ((if xk q6.2 a0 = some 10 then f_X11_found a0 (2 : Int32) q6.2 else none).bind fun q7 => some (q7.1, q7.2)) else ((if xk q6.2 v4 = some 5 then f_X5_tellsPlaces v4 a4 a2 q6.2 else none).bind fun q8 => if q8.1 = 0 then ((if xk q8.2 a0 = some 10 then f_X11_found a0 (2 : Int32) q8.2 else none).bind fun q9 => some (q9.1, q9.2)) else ((if xk q8.2 a0 = some 10 then f_X11_vectorToChange a0 a1 q8.2 else none).bind fun q10 => (if xk q10.2 q10.1 = some 1 then f_X1_clearTo q10.1 a2 q10.2 else none).bind fun q11 => (f_X11_take_L107 xN a0 a4 v4 q10.1 (0 : Int32) q11).bind fun q15 => (if xk q15.2 q10.1 = some 1 then f_X1_countOnes q10.1 q15.2 else none).bind fun q16 => (if xk q16.2 a0 = some 10 then f_X11_fine a0 q16.1 q16.2 else none).bind fun q17 => some (q17.1, q17.2)))) else ((if xk q2.2 a0 = some 10 then f_X11_found a0 (1 : Int32) q2.2 else none).bind fun q18 => some (q18.1, q18.2))) else ((if xk q2.2 a0 = some 10 then f_X11_found a0 (4 : Int32) q2.2 else none).bind fun q19 => some (q19.1, q19.2))) else (some ((-1000001 : Int32), q2.2)))))
def f_X11_tell_L81 : Nat → Nat → Int32 → Int32 → Nat → Nat → Int32 → Int32 → Int32 → xH → Option (Int32 × Int32 × Int32 × xH)
  | 0, _, _, _, _, _, _, _, _, _ => none
  | n + 1, a0, a2, a4, a5, a6, a7, a8, a9, h => (xgI [1] h a6 1).bind fun v10 => if v10 ≤ a9 then (some (a7, a8, a9, h)) else ((xgI [5] h a5 3).bind fun v11 => if v11 ≤ (a4 + a8) then (some (a7, a8, a9, h)) else ((if xk h a6 = some 1 then f_X1_bitAt a6 a9 h else none).bind fun q12 => if q12.1 = (1 : Int32) then (if a2 ≤ a7 then ((if xk q12.2 a5 = some 5 then f_X5_store a5 (a4 + a8) a9 q12.2 else none).bind fun q13 => f_X11_tell_L81 n a0 a2 a4 a5 a6 a7 (a8 + (1 : Int32)) (a9 + (1 : Int32)) q13) else (f_X11_tell_L81 n a0 a2 a4 a5 a6 (a7 + (1 : Int32)) a8 (a9 + (1 : Int32)) q12.2)) else (f_X11_tell_L81 n a0 a2 a4 a5 a6 a7 a8 (a9 + (1 : Int32)) q12.2)))
def f_X11_tell (a0 : Nat) (a1 : Int32) (a2 : Int32) (a3 : Int32) (a4 : Int32) (h : xH) : Option (Int32 × xH) := (f_X11_isVector a1 h).bind fun q1 => if q1.1 = 0 then (some ((-1000001 : Int32), q1.2)) else (if a2 < 0 then (some ((-1000001 : Int32), q1.2)) else ((f_X11_isRow a3 q1.2).bind fun q2 => if q2.1 = 0 then (some ((-1000001 : Int32), q2.2)) else ((xgR [10] q2.2 a0 0).bind fun v3 => (xaR 2 q2.2 v3 a3).bind fun v4 => (xgI [5] q2.2 v4 1).bind fun v5 => if v5 = 0 then (if a4 < 0 then ((if xk q2.2 a0 = some 10 then f_X11_found a0 (2 : Int32) q2.2 else none).bind fun q6 => some (q6.1, q6.2)) else ((xgI [5] q2.2 v4 3).bind fun v7 => if a4 ≤ v7 then ((xgR [10] q2.2 a0 1).bind fun v8 => (xaR 3 q2.2 v8 a1).bind fun v9 => (f_X11_tell_L81 xN a0 a2 a4 v4 v9 (0 : Int32) (0 : Int32) (0 : Int32) q2.2).bind fun q14 => (if xk q14.2.2.2 a0 = some 10 then f_X11_fine a0 q14.2.1 q14.2.2.2 else none).bind fun q15 => some (q15.1, q15.2)) else ((if xk q2.2 a0 = some 10 then f_X11_found a0 (2 : Int32) q2.2 else none).bind fun q16 => some (q16.1, q16.2)))) else ((if xk q2.2 a0 = some 10 then f_X11_found a0 (1 : Int32) q2.2 else none).bind fun q17 => some (q17.1, q17.2)))))
def f_X11_trace (a0 : Nat) (a1 : Int32) (h : xH) : Option (Int32 × xH) := if a1 < 0 then (some ((-1000000 : Int32), h)) else ((xgR [10] h a0 8).bind fun v1 => (xgI [8] h v1 1).bind fun v2 => if a1 < v2 then ((xgR [10] h a0 8).bind fun v3 => (xgR [8] h v3 0).bind fun v4 => (xaI h v4 a1).bind fun v5 => some (v5, h)) else (some ((-1000000 : Int32), h)))
def f_X1_invert_L2 : Nat → Nat → Int32 → xH → Option (Int32 × xH)
  | 0, _, _, _ => none
  | n + 1, a0, a1, h => if (32 : Int32) ≤ a1 then (some (a1, h)) else ((xgR [1] h a0 0).bind fun v1 => (xgR [1] h a0 0).bind fun v2 => (xaI h v2 a1).bind fun v3 => (xgI [1] h a0 1).bind fun v4 => (f_X11_firstPlaces (v4 - ((15 : Int32) * a1)) h).bind fun q5 => (xuI q5.2 v1 a1 ((v3 ^^^ (-1 : Int32)) &&& q5.1)).bind fun h6 => f_X1_invert_L2 n a0 (a1 + (1 : Int32)) h6)
def f_X1_invert (a0 : Nat) (h : xH) : Option (xH) := (f_X1_invert_L2 xN a0 (0 : Int32) h).bind fun q7 => some q7.2
def f_X11_turn (a0 : Nat) (a1 : Int32) (h : xH) : Option (Int32 × xH) := (f_X11_isVector a1 h).bind fun q1 => if q1.1 = 0 then (some ((-1000001 : Int32), q1.2)) else ((if xk q1.2 a0 = some 10 then f_X11_vectorToChange a0 a1 q1.2 else none).bind fun q2 => (if xk q2.2 q2.1 = some 1 then f_X1_invert q2.1 q2.2 else none).bind fun q3 => (if xk q3 q2.1 = some 1 then f_X1_countOnes q2.1 q3 else none).bind fun q4 => some (q4.1, q4.2))
def f_X3_giveBack (a0 : Nat) (a1 : Nat) (h : xH) : Option (xH) := (xgI [3] h a0 3).bind fun v1 => if v1 ≤ 0 then (some h) else ((xgI [3] h a0 3).bind fun v2 => (xpI [3] h a0 3 (v2 - (1 : Int32))).bind fun h3 => (xgI [3] h3 a0 2).bind fun v4 => (xgI [3] h3 a0 3).bind fun v5 => (xgR [3] h3 a0 1).bind fun v6 => (xaI h3 v6 ((v4 + v5) - (v4 + v5) / (12 : Int32) * (12 : Int32))).bind fun v7 => (xaR 3 h3 a1 v7).bind fun v8 => (xgR [3] h3 a0 0).bind fun v9 => (xaR 3 h3 v9 ((v4 + v5) - (v4 + v5) / (12 : Int32) * (12 : Int32))).bind fun v10 => (if xk h3 v8 = some 1 then f_X1_copyFrom v8 v10 h3 else none).bind fun q11 => some q11)
def f_X11_undo (a0 : Nat) (h : xH) : Option (Int32 × xH) := (xgR [10] h a0 5).bind fun v1 => (xgI [3] h v1 3).bind fun v2 => if v2 = 0 then (some ((-1000002 : Int32), h)) else ((xgR [10] h a0 5).bind fun v3 => (xgR [10] h a0 1).bind fun v4 => (if xk h v3 = some 3 then f_X3_giveBack v3 v4 h else none).bind fun q5 => (xgR [10] q5 a0 5).bind fun v6 => (xgI [3] q5 v6 3).bind fun v7 => some (v7, q5))
def f_X11_weight_L23 : Nat → Nat → Int32 → Nat → Int64 → Int32 → xH → Option (Int32 × xH)
  | 0, _, _, _, _, _, _ => none
  | n + 1, a0, a2, a3, a4, a6, h => (xgI [1] h a3 1).bind fun v4 => if v4 ≤ a6 then ((if xk h a0 = some 10 then f_X11_fine a0 a4.toInt32 h else none).bind fun q5 => some (q5.1, q5.2)) else ((if xk h a3 = some 1 then f_X1_bitAt a3 a6 h else none).bind fun q6 => if q6.1 = (1 : Int32) then ((f_X11_isInt ((a6.toInt64 + (1 : Int64)) * a2.toInt64) q6.2).bind fun q7 => if q7.1 = 0 then ((if xk q7.2 a0 = some 10 then f_X11_found a0 (6 : Int32) q7.2 else none).bind fun q8 => some (q8.1, q8.2)) else ((f_X11_isInt (a4 + ((a6.toInt64 + (1 : Int64)) * a2.toInt64)) q7.2).bind fun q9 => if q9.1 = 0 then ((if xk q9.2 a0 = some 10 then f_X11_found a0 (6 : Int32) q9.2 else none).bind fun q10 => some (q10.1, q10.2)) else (f_X11_weight_L23 n a0 a2 a3 (a4 + ((a6.toInt64 + (1 : Int64)) * a2.toInt64)) (a6 + (1 : Int32)) q9.2))) else (f_X11_weight_L23 n a0 a2 a3 a4 (a6 + (1 : Int32)) q6.2))
def f_X11_weight (a0 : Nat) (a1 : Int32) (a2 : Int32) (h : xH) : Option (Int32 × xH) := (f_X11_isVector a1 h).bind fun q1 => if q1.1 = 0 then (some ((-1000001 : Int32), q1.2)) else ((xgR [10] q1.2 a0 1).bind fun v2 => (xaR 3 q1.2 v2 a1).bind fun v3 => f_X11_weight_L23 xN a0 a2 v3 (0 : Int64) (0 : Int32) q1.2)
def f_X12_init_L139 : Nat → Nat → Int32 → xH → Option (Int32 × xH)
  | 0, _, _, _ => none
  | n + 1, a0, a1, h => if (8 : Int32) ≤ a1 then (some (a1, h)) else ((xgR [11] h a0 0).bind fun v17 => (xuI h v17 a1 (-1000000 : Int32)).bind fun h18 => f_X12_init_L139 n a0 (a1 + (1 : Int32)) h18)
def f_X12_init_L179 : Nat → Nat → Int32 → Int32 → xH → Option (Int32 × xH)
  | 0, _, _, _, _ => none
  | n + 1, a0, a1, a2, h => if a1 < a2 then (some (a2, h)) else ((xgR [11] h a0 25).bind fun v22 => (xgR [11] h a0 25).bind fun v23 => (xaI h v23 ((((16 : Int32) * (a1 - (1 : Int32))) + a2) - (1 : Int32))).bind fun v24 => (xgR [11] h a0 25).bind fun v25 => (xaI h v25 (((16 : Int32) * (a1 - (1 : Int32))) + a2)).bind fun v26 => (xuI h v22 (((16 : Int32) * a1) + a2) (v24 + v26)).bind fun h27 => f_X12_init_L179 n a0 a1 (a2 + (1 : Int32)) h27)
def f_X12_init_L161 : Nat → Nat → Int32 → xH → Option (Int32 × xH)
  | 0, _, _, _ => none
  | n + 1, a0, a1, h => if (16 : Int32) ≤ a1 then (some (a1, h)) else ((xgR [11] h a0 25).bind fun v20 => (xuI h v20 ((16 : Int32) * a1) (1 : Int32)).bind fun h21 => (f_X12_init_L179 xN a0 a1 (1 : Int32) h21).bind fun q28 => f_X12_init_L161 n a0 (a1 + (1 : Int32)) q28.2)
def f_X12_init (a0 : Nat) (h : xH) : Option (xH) := (xpR [11] (h ++ [xaI0 8]) a0 0 h.length).bind fun h1 => (xpR [11] (h1 ++ [xaI0 8]) a0 1 h1.length).bind fun h2 => (xpR [11] (h2 ++ [xaI0 320]) a0 2 h2.length).bind fun h3 => (xpR [11] (h3 ++ [xaI0 40]) a0 3 h3.length).bind fun h4 => (xpR [11] (h4 ++ [xaI0 60]) a0 5 h4.length).bind fun h5 => (xpR [11] (h5 ++ [xaI0 132]) a0 13 h5.length).bind fun h6 => (xpR [11] (h6 ++ [xaI0 132]) a0 14 h6.length).bind fun h7 => (xpR [11] (h7 ++ [xaI0 1584]) a0 15 h7.length).bind fun h8 => (xpR [11] (h8 ++ [xaI0 264]) a0 17 h8.length).bind fun h9 => (xpR [11] (h9 ++ [xaZ0 2]) a0 18 h9.length).bind fun h10 => (xpR [11] (h10 ++ [xaI0 12]) a0 20 h10.length).bind fun h11 => (xpR [11] (h11 ++ [xaI0 12]) a0 21 h11.length).bind fun h12 => (xpR [11] (h12 ++ [xaI0 12]) a0 23 h12.length).bind fun h13 => (xpR [11] (h13 ++ [xaI0 12]) a0 24 h13.length).bind fun h14 => (xpR [11] (h14 ++ [xaI0 256]) a0 25 h14.length).bind fun h15 => (xpR [11] (h15 ++ [xaI0 16]) a0 26 h15.length).bind fun h16 => (f_X12_init_L139 xN a0 (0 : Int32) h16).bind fun q19 => (f_X12_init_L161 xN a0 (0 : Int32) q19.2).bind fun q29 => some q29.2
def f_X12_puts (a0 : Nat) (a1 : Int32) (a2 : Int32) (a3 : Int32) (h : xH) : Option (xH) := (xaI h a0 ((((33 : Int32) * a1) + (1 : Int32)) + (a2 / (15 : Int32)))).bind fun v1 => (xuI h a0 ((((33 : Int32) * a1) + (1 : Int32)) + (a2 / (15 : Int32))) ((v1 &&& (((1 : Int32) <<< ((a2 - a2 / (15 : Int32) * (15 : Int32)) &&& 31)) ^^^ (-1 : Int32))) ||| (a3 <<< ((a2 - a2 / (15 : Int32) * (15 : Int32)) &&& 31)))).bind fun h2 => some h2
def f_X12_appends (a0 : Nat) (a1 : Int32) (a2 : Int32) (h : xH) : Option (xH) := (xgR [11] h a0 13).bind fun v1 => (xgR [11] h a0 13).bind fun v2 => (xaI h v2 ((33 : Int32) * a1)).bind fun v3 => (f_X12_puts v1 a1 v3 a2 h).bind fun q4 => (xgR [11] q4 a0 13).bind fun v5 => (xaI q4 v5 ((33 : Int32) * a1)).bind fun v6 => (xuI q4 v5 ((33 : Int32) * a1) (v6 + (1 : Int32))).bind fun h7 => some h7
def f_X12_bitsOf (a0 : Nat) (a1 : Int32) (h : xH) : Option (Int32 × xH) := (xgR [11] h a0 13).bind fun v1 => (xaI h v1 ((33 : Int32) * a1)).bind fun v2 => some (v2, h)
def f_X12_in (a0 : Int32) (a1 : Int32) (a2 : Int32) (h : xH) : Option (Int32 × xH) := if a0 < a1 then (some ((0 : Int32), h)) else (if a2 < a0 then (some ((0 : Int32), h)) else (some ((1 : Int32), h)))
def f_X12_isValue (a0 : Int32) (h : xH) : Option (Int32 × xH) := (f_X12_in a0 (0 : Int32) (1 : Int32) h).bind fun q1 => if q1.1 = 0 ∨ q1.1 = 1 then some (q1.1, q1.2) else none
def f_X12_isVector (a0 : Int32) (h : xH) : Option (Int32 × xH) := (f_X12_in a0 (0 : Int32) (3 : Int32) h).bind fun q1 => if q1.1 = 0 ∨ q1.1 = 1 then some (q1.1, q1.2) else none
def f_X12_copies_L3 : Nat → Nat → Int32 → Nat → Int32 → Int32 → xH → Option (Int32 × xH)
  | 0, _, _, _, _, _, _ => none
  | n + 1, a0, a1, a2, a3, a4, h => if (132 : Int32) ≤ a4 then (some (a4, h)) else ((xaI h a0 (a1 + a4)).bind fun v1 => (xuI h a2 (a3 + a4) v1).bind fun h2 => f_X12_copies_L3 n a0 a1 a2 a3 (a4 + (1 : Int32)) h2)
def f_X12_copies (a0 : Nat) (a1 : Int32) (a2 : Nat) (a3 : Int32) (h : xH) : Option (xH) := (f_X12_copies_L3 xN a0 a1 a2 a3 (0 : Int32) h).bind fun q3 => some q3.2
def f_X12_notes_L11 : Nat → Nat → Int32 → xH → Option (Int32 × xH)
  | 0, _, _, _ => none
  | n + 1, a0, a1, h => if (1452 : Int32) ≤ a1 then (some (a1, h)) else ((xgR [11] h a0 15).bind fun v2 => (xgR [11] h a0 15).bind fun v3 => (xaI h v3 (a1 + (132 : Int32))).bind fun v4 => (xuI h v2 a1 v4).bind fun h5 => f_X12_notes_L11 n a0 (a1 + (1 : Int32)) h5)
def f_X12_notes (a0 : Nat) (h : xH) : Option (xH) := (xgI [11] h a0 16).bind fun v1 => if v1 = (12 : Int32) then ((f_X12_notes_L11 xN a0 (0 : Int32) h).bind fun q6 => (xgI [11] q6.2 a0 16).bind fun v7 => (xpI [11] q6.2 a0 16 (v7 - (1 : Int32))).bind fun h8 => (xgR [11] h8 a0 13).bind fun v9 => (xgR [11] h8 a0 15).bind fun v10 => (xgI [11] h8 a0 16).bind fun v11 => (f_X12_copies v9 (0 : Int32) v10 ((132 : Int32) * v11) h8).bind fun q12 => (xgI [11] q12 a0 16).bind fun v13 => (xpI [11] q12 a0 16 (v13 + (1 : Int32))).bind fun h14 => some h14) else ((xgR [11] h a0 13).bind fun v15 => (xgR [11] h a0 15).bind fun v16 => (xgI [11] h a0 16).bind fun v17 => (f_X12_copies v15 (0 : Int32) v16 ((132 : Int32) * v17) h).bind fun q18 => (xgI [11] q18 a0 16).bind fun v19 => (xpI [11] q18 a0 16 (v19 + (1 : Int32))).bind fun h20 => some h20)
def f_X12_add_L51 : Nat → Nat → Int32 → Int32 → Int32 → Int32 → xH → Option (Int32 × xH)
  | 0, _, _, _, _, _, _ => none
  | n + 1, a0, a1, a2, a3, a4, h => if a3 ≤ a4 then (some (a4, h)) else ((if xk h a0 = some 11 then f_X12_appends a0 a1 a2 h else none).bind fun q6 => f_X12_add_L51 n a0 a1 a2 a3 (a4 + (1 : Int32)) q6)
def f_X12_add (a0 : Nat) (a1 : Int32) (a2 : Int32) (a3 : Int32) (h : xH) : Option (Int32 × xH) := (f_X12_isVector a1 h).bind fun q1 => if q1.1 = 0 then (some ((-1000001 : Int32), q1.2)) else ((f_X12_isValue a2 q1.2).bind fun q2 => if q2.1 = 0 then (some ((-1000001 : Int32), q2.2)) else ((f_X12_in a3 (1 : Int32) (480 : Int32) q2.2).bind fun q3 => if q3.1 = 0 then (some ((-1000001 : Int32), q3.2)) else ((if xk q3.2 a0 = some 11 then f_X12_bitsOf a0 a1 q3.2 else none).bind fun q4 => if (q4.1 + a3) ≤ (480 : Int32) then ((if xk q4.2 a0 = some 11 then f_X12_notes a0 q4.2 else none).bind fun q5 => (f_X12_add_L51 xN a0 a1 a2 a3 (0 : Int32) q5).bind fun q7 => (if xk q7.2 a0 = some 11 then f_X12_bitsOf a0 a1 q7.2 else none).bind fun q8 => some (q8.1, q8.2)) else (some ((-1000003 : Int32), q4.2)))))
def f_X12_byteAt (a0 : Nat) (a1 : Int32) (h : xH) : Option (Int32 × xH) := (xgI [11] h a0 6).bind fun v1 => if v1 ≤ a1 then (some ((-1 : Int32), h)) else ((xgR [11] h a0 5).bind fun v2 => (xaI h v2 a1).bind fun v3 => some (v3, h))
def f_X12_advances_L38 : Nat → Nat → xH → Option (xH)
  | 0, _, _ => none
  | n + 1, a0, h => (xgI [11] h a0 9).bind fun v15 => (if xk h a0 = some 11 then f_X12_byteAt a0 v15 h else none).bind fun q16 => (f_X12_in q16.1 (48 : Int32) (57 : Int32) q16.2).bind fun q17 => if q17.1 = 0 then (some q17.2) else ((xgI [11] q17.2 a0 9).bind fun v18 => (xgI [11] q17.2 a0 10).bind fun v19 => if (2 : Int32) ≤ (v18 - v19) then ((xgI [11] q17.2 a0 12).bind fun v20 => (xpI [11] q17.2 a0 12 v20).bind fun h21 => (xgI [11] h21 a0 9).bind fun v22 => (xpI [11] h21 a0 9 (v22 + (1 : Int32))).bind fun h23 => f_X12_advances_L38 n a0 h23) else ((xgI [11] q17.2 a0 12).bind fun v24 => (xgI [11] q17.2 a0 9).bind fun v25 => (if xk q17.2 a0 = some 11 then f_X12_byteAt a0 v25 q17.2 else none).bind fun q26 => (xpI [11] q26.2 a0 12 ((((10 : Int32) * v24) + q26.1) - (48 : Int32))).bind fun h27 => (xgI [11] h27 a0 9).bind fun v28 => (xpI [11] h27 a0 9 (v28 + (1 : Int32))).bind fun h29 => f_X12_advances_L38 n a0 h29))
def f_X12_advances (a0 : Nat) (h : xH) : Option (xH) := (xgI [11] h a0 9).bind fun v1 => (xpI [11] h a0 10 v1).bind fun h2 => (xgI [11] h2 a0 9).bind fun v3 => (if xk h2 a0 = some 11 then f_X12_byteAt a0 v3 h2 else none).bind fun q4 => (xpI [11] q4.2 a0 12 q4.1).bind fun h5 => (f_X12_in q4.1 (48 : Int32) (57 : Int32) h5).bind fun q6 => if q6.1 = 0 then ((if 0 ≤ q4.1 then ((f_X12_in q4.1 (97 : Int32) (122 : Int32) q6.2).bind fun q7 => if q7.1 = 0 then (if q4.1 = (44 : Int32) then (some ((3 : Int32), q7.2)) else (if q4.1 = (59 : Int32) then (some ((4 : Int32), q7.2)) else (some ((5 : Int32), q7.2)))) else (some ((1 : Int32), q7.2))) else (some ((0 : Int32), q6.2)) : Option (Int32 × xH)).bind fun q8 => (xpI [11] q8.2 a0 11 q8.1).bind fun h9 => (xgI [11] h9 a0 9).bind fun v10 => (xgI [11] h9 a0 11).bind fun v11 => if v11 = 0 then ((xpI [11] h9 a0 9 (v10 + (0 : Int32))).bind fun h12 => some h12) else ((xpI [11] h9 a0 9 (v10 + (1 : Int32))).bind fun h13 => some h13)) else ((xpI [11] q6.2 a0 12 (0 : Int32)).bind fun h14 => (f_X12_advances_L38 xN a0 h14).bind fun q30 => (xgI [11] q30 a0 9).bind fun v31 => (xgI [11] q30 a0 10).bind fun v32 => if (3 : Int32) ≤ (v31 - v32) then ((xpI [11] q30 a0 11 (5 : Int32)).bind fun h33 => some h33) else ((xpI [11] q30 a0 11 (2 : Int32)).bind fun h34 => some h34))
def f_X12_sortOf_L4 : Nat → Int32 → Int32 → Int32 → xH → Option (Int32 × Int32 × xH)
  | 0, _, _, _, _ => none
  | n + 1, a0, a1, a2, h => if (15 : Int32) ≤ a2 then (some (a1, a2, h)) else (f_X12_sortOf_L4 n a0 (a1 + ((a0 >>> (a2 &&& 31)) &&& (1 : Int32))) (a2 + (1 : Int32)) h)
def f_X12_sortOf (a0 : Int32) (h : xH) : Option (Int32 × xH) := (f_X12_sortOf_L4 xN a0 (0 : Int32) (0 : Int32) h).bind fun q1 => some (q1.1, q1.2.2)
def f_X12_alike_L35 : Nat → Nat → Int32 → Int32 → Int32 → Int32 → Int32 → Int32 → xH → Option (Int32 × Int32 × Int32 × xH)
  | 0, _, _, _, _, _, _, _, _ => none
  | n + 1, a0, a1, a2, a3, a4, a5, a6, h => if (33 : Int32) ≤ a6 then (some (a4, a5, a6, h)) else ((xgR [11] h a0 13).bind fun v4 => (xaI h v4 (((33 : Int32) * a1) + a6)).bind fun v5 => (xgR [11] h a0 13).bind fun v6 => (xaI h v6 (((33 : Int32) * a2) + a6)).bind fun v7 => (f_X12_sortOf (v5 &&& v7) h).bind fun q8 => (xgR [11] q8.2 a0 13).bind fun v9 => (xaI q8.2 v9 (((33 : Int32) * a1) + a6)).bind fun v10 => (xgR [11] q8.2 a0 13).bind fun v11 => (xaI q8.2 v11 (((33 : Int32) * a2) + a6)).bind fun v12 => (f_X12_sortOf (v10 ||| v12) q8.2).bind fun q13 => f_X12_alike_L35 n a0 a1 a2 a3 (a4 + q8.1) (a5 + q13.1) (a6 + (1 : Int32)) q13.2)
def f_X12_alike_L135 : Nat → Int32 → Int32 → Int32 → Int32 → Int32 → xH → Option (Int32 × Int32 × xH)
  | 0, _, _, _, _, _, _ => none
  | n + 1, a3, a4, a5, a6, a7, h => if a7 = 0 then (some (a6, a7, h)) else (if a7 = 0 then none else f_X12_alike_L135 n a3 a4 a5 a7 (a6 - a6 / a7 * a7) h)
def f_X12_alike (a0 : Nat) (a1 : Int32) (a2 : Int32) (a3 : Int32) (h : xH) : Option (Int32 × xH) := (f_X12_isVector a1 h).bind fun q1 => if q1.1 = 0 then (some ((-1000001 : Int32), q1.2)) else ((f_X12_isVector a2 q1.2).bind fun q2 => if q2.1 = 0 then (some ((-1000001 : Int32), q2.2)) else ((f_X12_in a3 (0 : Int32) (1 : Int32) q2.2).bind fun q3 => if q3.1 = 0 then (some ((-1000001 : Int32), q3.2)) else ((f_X12_alike_L35 xN a0 a1 a2 a3 (0 : Int32) (0 : Int32) (1 : Int32) q3.2).bind fun q14 => (f_X12_alike_L135 xN a3 q14.1 (if q14.2.1 = 0 then (1 : Int32) else q14.2.1) q14.1 (if q14.2.1 = 0 then (1 : Int32) else q14.2.1) q14.2.2.2).bind fun q17 => if a3 = 0 then (if q17.1 = 0 then none else some (q14.1 / q17.1, q17.2.2)) else (if q17.1 = 0 then none else some ((if q14.2.1 = 0 then (1 : Int32) else q14.2.1) / q17.1, q17.2.2)))))
def f_X12_bit (a0 : Nat) (a1 : Int32) (a2 : Int32) (h : xH) : Option (Int32 × xH) := (xaI h a0 ((((33 : Int32) * a1) + (1 : Int32)) + (a2 / (15 : Int32)))).bind fun v1 => some ((v1 >>> ((a2 - a2 / (15 : Int32) * (15 : Int32)) &&& 31)) &&& (1 : Int32), h)
def f_X12_onesAhead_L5 : Nat → Nat → Int32 → Int32 → Int32 → Int32 → xH → Option (Int32 × Int32 × xH)
  | 0, _, _, _, _, _, _ => none
  | n + 1, a0, a1, a2, a3, a4, h => if a2 ≤ a4 then (some (a3, a4, h)) else ((f_X12_bit a0 a1 a4 h).bind fun q1 => f_X12_onesAhead_L5 n a0 a1 a2 (a3 + q1.1) (a4 + (1 : Int32)) q1.2)
def f_X12_onesAhead (a0 : Nat) (a1 : Int32) (a2 : Int32) (h : xH) : Option (Int32 × xH) := (f_X12_onesAhead_L5 xN a0 a1 a2 (0 : Int32) (0 : Int32) h).bind fun q2 => some (q2.1, q2.2.2)
def f_X12_allOnes (a0 : Nat) (a1 : Int32) (h : xH) : Option (Int32 × xH) := (xgR [11] h a0 13).bind fun v1 => (if xk h a0 = some 11 then f_X12_bitsOf a0 a1 h else none).bind fun q2 => (f_X12_onesAhead v1 a1 q2.1 q2.2).bind fun q3 => some (q3.1, q3.2)
def f_X12_kindIn (a0 : Nat) (a1 : Int32) (h : xH) : Option (Int32 × xH) := (xgR [11] h a0 20).bind fun v1 => (xaI h v1 a1).bind fun v2 => some (v2, h)
def f_X12_traces (a0 : Nat) (a1 : Int32) (h : xH) : Option (xH) := (xgI [11] h a0 27).bind fun v1 => if (16 : Int32) ≤ v1 then (some h) else ((xgR [11] h a0 26).bind fun v2 => (xgI [11] h a0 27).bind fun v3 => (xuI h v2 v3 a1).bind fun h4 => (xgI [11] h4 a0 27).bind fun v5 => (xpI [11] h4 a0 27 (v5 + (1 : Int32))).bind fun h6 => some h6)
def f_X12_alternateSize (a0 : Nat) (a1 : Int32) (h : xH) : Option (Int32 × xH) := (if xk h a0 = some 11 then f_X12_kindIn a0 a1 h else none).bind fun q1 => (if (if q1.1 = (5 : Int32) then (1 : Int32) else (0 : Int32)) = 0 then (some q1.2) else ((if xk q1.2 a0 = some 11 then f_X12_traces a0 (14 : Int32) q1.2 else none).bind fun q3 => some q3) : Option (xH)).bind fun q4 => (if xk q4 a0 = some 11 then f_X12_traces a0 (13 : Int32) q4 else none).bind fun q5 => (if xk q5 a0 = some 11 then f_X12_traces a0 (10 : Int32) q5 else none).bind fun q6 => (xgR [11] q6 a0 21).bind fun v7 => (xaI q6 v7 a1).bind fun v8 => if (if q1.1 = (5 : Int32) then (1 : Int32) else (0 : Int32)) = 0 then (some (v8 - (100 : Int32), q6)) else (some ((2 : Int32) * (v8 - (100 : Int32)), q6))
def f_X12_alternateMark (a0 : Nat) (a1 : Int32) (h : xH) : Option (Int32 × xH) := (if xk h a0 = some 11 then f_X12_traces a0 (23 : Int32) h else none).bind fun q1 => (if xk q1 a0 = some 11 then f_X12_traces a0 (20 : Int32) q1 else none).bind fun q2 => (if xk q2 a0 = some 11 then f_X12_alternateSize a0 a1 q2 else none).bind fun q3 => some (a1 - q3.1, q3.2)
def f_X12_found (a0 : Nat) (a1 : Int32) (h : xH) : Option (Int32 × xH) := (xpI [11] h a0 4 a1).bind fun h1 => some ((-1000010 : Int32) - a1, h1)
def f_X12_isRun (a0 : Nat) (a1 : Int32) (h : xH) : Option (Int32 × xH) := (xgI [11] h a0 19).bind fun v1 => (f_X12_in a1 (0 : Int32) (v1 - (1 : Int32)) h).bind fun q2 => if q2.1 = 0 ∨ q2.1 = 1 then some (q2.1, q2.2) else none
def f_X12_well (a0 : Nat) (a1 : Int32) (h : xH) : Option (Int32 × xH) := (xpI [11] h a0 4 (0 : Int32)).bind fun h1 => some (a1, h1)
def f_X12_as (a0 : Nat) (a1 : Int32) (a2 : Int32) (h : xH) : Option (Int32 × xH) := (if xk h a0 = some 11 then f_X12_isRun a0 a1 h else none).bind fun q1 => if q1.1 = 0 then (some ((-1000001 : Int32), q1.2)) else ((f_X12_in a2 (0 : Int32) (5 : Int32) q1.2).bind fun q2 => if q2.1 = 0 then (some ((-1000001 : Int32), q2.2)) else ((if xk q2.2 a0 = some 11 then f_X12_kindIn a0 a1 q2.2 else none).bind fun q3 => if (if a2 = 0 then (1 : Int32) else (if a2 = q3.1 then (1 : Int32) else (if a2 = (1 : Int32) then (if q3.1 < (4 : Int32) then (1 : Int32) else (if a2 = (4 : Int32) then (if q3.1 = (5 : Int32) then (1 : Int32) else (0 : Int32)) else (0 : Int32))) else (if a2 = (4 : Int32) then (if q3.1 = (5 : Int32) then (1 : Int32) else (0 : Int32)) else (0 : Int32))))) = 0 then ((if xk q3.2 a0 = some 11 then f_X12_found a0 (3 : Int32) q3.2 else none).bind fun q12 => some (q12.1, q12.2)) else ((if xk q3.2 a0 = some 11 then f_X12_well a0 a1 q3.2 else none).bind fun q13 => some (q13.1, q13.2))))
def f_X12_bitOf (a0 : Int32) (a1 : Int32) (h : xH) : Option (Int32 × xH) := if a0 = 1 then (some ((0 : Int32), h)) else if a0 = 2 then (some ((1 : Int32), h)) else if a0 = 3 then (if (a1 - a1 / (3 : Int32) * (3 : Int32)) = 0 then (some ((1 : Int32), h)) else (some ((0 : Int32), h))) else if a0 = 4 then (some ((1 : Int32) - (a1 - a1 / (2 : Int32) * (2 : Int32)), h)) else (some ((1 : Int32) - ((a1 / (4 : Int32)) - (a1 / (4 : Int32)) / (2 : Int32) * (2 : Int32)), h))
def f_X12_onesOf_L4 : Nat → Nat → Int32 → Int32 → Int32 → xH → Option (Int32 × Int32 × xH)
  | 0, _, _, _, _, _ => none
  | n + 1, a0, a1, a2, a3, h => (xgR [11] h a0 21).bind fun v1 => (xaI h v1 a1).bind fun v2 => if v2 ≤ a3 then (some (a2, a3, h)) else ((xgR [11] h a0 20).bind fun v3 => (xaI h v3 a1).bind fun v4 => (f_X12_bitOf v4 a3 h).bind fun q5 => f_X12_onesOf_L4 n a0 a1 (a2 + q5.1) (a3 + (1 : Int32)) q5.2)
def f_X12_onesOf (a0 : Nat) (a1 : Int32) (h : xH) : Option (Int32 × xH) := (f_X12_onesOf_L4 xN a0 a1 (0 : Int32) (0 : Int32) h).bind fun q6 => some (q6.1, q6.2.2)
def f_X12_zerosMark (a0 : Nat) (a1 : Int32) (h : xH) : Option (Int32 × xH) := (if xk h a0 = some 11 then f_X12_kindIn a0 a1 h else none).bind fun q1 => (if q1.1 = (1 : Int32) then (some q1.2) else (if q1.1 = (2 : Int32) then ((if xk q1.2 a0 = some 11 then f_X12_traces a0 (24 : Int32) q1.2 else none).bind fun q2 => some q2) else ((if xk q1.2 a0 = some 11 then f_X12_traces a0 (22 : Int32) q1.2 else none).bind fun q3 => some q3)) : Option (xH)).bind fun q4 => (if xk q4 a0 = some 11 then f_X12_traces a0 (21 : Int32) q4 else none).bind fun q5 => (if xk q5 a0 = some 11 then f_X12_traces a0 (20 : Int32) q5 else none).bind fun q6 => (if xk q6 a0 = some 11 then f_X12_onesOf a0 a1 q6 else none).bind fun q7 => if q1.1 = (2 : Int32) then (some ((2 : Int32) * (a1 + q7.1), q7.2)) else (if q1.1 = (3 : Int32) then (some ((a1 + q7.1) - (1000 : Int32), q7.2)) else (some (a1 + q7.1, q7.2)))
def f_X12_zerosSize (a0 : Nat) (a1 : Int32) (h : xH) : Option (Int32 × xH) := (if xk h a0 = some 11 then f_X12_kindIn a0 a1 h else none).bind fun q1 => (if (if q1.1 = (2 : Int32) then (1 : Int32) else (0 : Int32)) = 0 then (some q1.2) else ((if xk q1.2 a0 = some 11 then f_X12_traces a0 (12 : Int32) q1.2 else none).bind fun q3 => some q3) : Option (xH)).bind fun q4 => (if xk q4 a0 = some 11 then f_X12_traces a0 (11 : Int32) q4 else none).bind fun q5 => (if xk q5 a0 = some 11 then f_X12_traces a0 (10 : Int32) q5 else none).bind fun q6 => (xgR [11] q6 a0 21).bind fun v7 => (xaI q6 v7 a1).bind fun v8 => (if xk q6 a0 = some 11 then f_X12_zerosMark a0 a1 q6 else none).bind fun q9 => if (if q1.1 = (2 : Int32) then (1 : Int32) else (0 : Int32)) = 0 then (some (v8 + q9.1, q9.2)) else (some (-(v8 + q9.1), q9.2))
def f_X12_ask (a0 : Nat) (a1 : Int32) (a2 : Int32) (h : xH) : Option (Int32 × xH) := (if xk h a0 = some 11 then f_X12_isRun a0 a1 h else none).bind fun q1 => if q1.1 = 0 then (some ((-1000001 : Int32), q1.2)) else ((f_X12_in a2 (0 : Int32) (1 : Int32) q1.2).bind fun q2 => if q2.1 = 0 then (some ((-1000001 : Int32), q2.2)) else ((xpI [11] q2.2 a0 27 (0 : Int32)).bind fun h3 => (if xk h3 a0 = some 11 then f_X12_kindIn a0 a1 h3 else none).bind fun q4 => if a2 = 0 then (if (if q4.1 < (4 : Int32) then (0 : Int32) else (1 : Int32)) = 0 then ((if xk q4.2 a0 = some 11 then f_X12_zerosSize a0 a1 q4.2 else none).bind fun q6 => some (q6.1, q6.2)) else ((if xk q4.2 a0 = some 11 then f_X12_alternateSize a0 a1 q4.2 else none).bind fun q7 => some (q7.1, q7.2))) else (if (if q4.1 < (4 : Int32) then (0 : Int32) else (1 : Int32)) = 0 then ((if xk q4.2 a0 = some 11 then f_X12_zerosMark a0 a1 q4.2 else none).bind fun q8 => some (q8.1, q8.2)) else ((if xk q4.2 a0 = some 11 then f_X12_alternateMark a0 a1 q4.2 else none).bind fun q9 => some (q9.1, q9.2)))))
def f_X12_widthOf_L2 : Nat → Nat → Int32 → Int32 → xH → Option (Int32 × xH)
  | 0, _, _, _, _ => none
  | n + 1, a0, a1, a2, h => (xgR [11] h a0 25).bind fun v1 => (xaI h v1 ((240 : Int32) + a1)).bind fun v2 => if v2 ≤ ((1 : Int32) <<< (a2 &&& 31)) then (some (a2, h)) else (f_X12_widthOf_L2 n a0 a1 (a2 + (1 : Int32)) h)
def f_X12_widthOf (a0 : Nat) (a1 : Int32) (h : xH) : Option (Int32 × xH) := (f_X12_widthOf_L2 xN a0 a1 (0 : Int32) h).bind fun q3 => some (q3.1, q3.2)
def f_X12_begins_L6 : Nat → Nat → Nat → Int32 → Int32 → Int32 → Int32 → xH → Option (Int32 × Int32 × xH)
  | 0, _, _, _, _, _, _, _ => none
  | n + 1, a0, a1, a2, a3, a4, a5, h => if a3 ≤ a5 then (some (a4, a5, h)) else ((xaI h a1 ((((33 : Int32) * a2) + (1 : Int32)) + a5)).bind fun v1 => (f_X12_sortOf v1 h).bind fun q2 => (if xk q2.2 a0 = some 11 then f_X12_widthOf a0 q2.1 q2.2 else none).bind fun q3 => f_X12_begins_L6 n a0 a1 a2 a3 (a4 + q3.1) (a5 + (1 : Int32)) q3.2)
def f_X12_begins (a0 : Nat) (a1 : Nat) (a2 : Int32) (a3 : Int32) (h : xH) : Option (Int32 × xH) := (f_X12_begins_L6 xN a0 a1 a2 a3 (0 : Int32) (0 : Int32) h).bind fun q4 => some (q4.1, q4.2.2)
def f_X12_bits (a0 : Nat) (a1 : Int32) (h : xH) : Option (Int32 × xH) := (f_X12_isVector a1 h).bind fun q1 => if q1.1 = 0 then (some ((-1000001 : Int32), q1.2)) else ((if xk q1.2 a0 = some 11 then f_X12_bitsOf a0 a1 q1.2 else none).bind fun q2 => some (q2.1, q2.2))
def f_X12_blocks (a0 : Nat) (a1 : Int32) (h : xH) : Option (Int32 × xH) := (xaI h a0 ((33 : Int32) * a1)).bind fun v1 => some (((v1 + (15 : Int32)) - (1 : Int32)) / (15 : Int32), h)
def f_X12_offsetOf_L11 : Nat → Nat → Int32 → Int32 → Int32 → Int32 → xH → Option (Int32 × Int32 × Int32 × xH)
  | 0, _, _, _, _, _, _ => none
  | n + 1, a0, a1, a2, a3, a4, h => if a4 < 0 then (some (a2, a3, a4, h)) else (if ((a1 >>> (a4 &&& 31)) &&& (1 : Int32)) = (1 : Int32) then ((xgR [11] h a0 25).bind fun v2 => (xaI h v2 (((16 : Int32) * a4) + a2)).bind fun v3 => f_X12_offsetOf_L11 n a0 a1 (a2 + (-1 : Int32)) (a3 + v3) (a4 + (-1 : Int32)) h) else (f_X12_offsetOf_L11 n a0 a1 a2 a3 (a4 + (-1 : Int32)) h))
def f_X12_offsetOf (a0 : Nat) (a1 : Int32) (h : xH) : Option (Int32 × xH) := (f_X12_sortOf a1 h).bind fun q1 => (f_X12_offsetOf_L11 xN a0 a1 q1.1 (0 : Int32) (14 : Int32) q1.2).bind fun q4 => some (q4.2.1, q4.2.2.2)
def f_X12_block (a0 : Nat) (a1 : Int32) (a2 : Int32) (a3 : Int32) (h : xH) : Option (Int32 × xH) := (f_X12_isVector a1 h).bind fun q1 => if q1.1 = 0 then (some ((-1000001 : Int32), q1.2)) else ((xgR [11] q1.2 a0 13).bind fun v2 => (f_X12_blocks v2 a1 q1.2).bind fun q3 => (f_X12_in a2 (0 : Int32) (q3.1 - (1 : Int32)) q3.2).bind fun q4 => if q4.1 = 0 then (some ((-1000001 : Int32), q4.2)) else ((xgR [11] q4.2 a0 13).bind fun v5 => (xaI q4.2 v5 ((((33 : Int32) * a1) + (1 : Int32)) + a2)).bind fun v6 => if a3 = 0 then ((f_X12_sortOf v6 q4.2).bind fun q7 => some (q7.1, q7.2)) else if a3 = 1 then ((if xk q4.2 a0 = some 11 then f_X12_offsetOf a0 v6 q4.2 else none).bind fun q9 => some (q9.1, q9.2)) else if a3 = 2 then ((f_X12_sortOf v6 q4.2).bind fun q11 => (if xk q11.2 a0 = some 11 then f_X12_widthOf a0 q11.1 q11.2 else none).bind fun q12 => some (q12.1, q12.2)) else if a3 = 3 then (some (v6, q4.2)) else if a3 = 4 then ((xgR [11] q4.2 a0 13).bind fun v15 => (if xk q4.2 a0 = some 11 then f_X12_begins a0 v15 a1 a2 q4.2 else none).bind fun q16 => some (q16.1, q16.2)) else (some ((-1000001 : Int32), q4.2))))
def f_X12_choose (a0 : Nat) (a1 : Int32) (a2 : Int32) (h : xH) : Option (Int32 × xH) := (f_X12_in a1 (0 : Int32) (15 : Int32) h).bind fun q1 => if q1.1 = 0 then (some ((-1000001 : Int32), q1.2)) else ((f_X12_in a2 (0 : Int32) (15 : Int32) q1.2).bind fun q2 => if q2.1 = 0 then (some ((-1000001 : Int32), q2.2)) else ((xgR [11] q2.2 a0 25).bind fun v3 => (xaI q2.2 v3 (((16 : Int32) * a1) + a2)).bind fun v4 => some (v4, q2.2)))
def f_X12_isMissing (a0 : Nat) (a1 : Int32) (h : xH) : Option (Int32 × xH) := (xgR [11] h a0 0).bind fun v1 => (xaI h v1 a1).bind fun v2 => if v2 = (-1000000 : Int32) then (some ((1 : Int32), h)) else (some ((0 : Int32), h))
def f_X12_isPart (a0 : Nat) (a1 : Int32) (a2 : Int32) (a3 : Int32) (h : xH) : Option (Int32 × xH) := if a2 < 0 then (some ((0 : Int32), h)) else (if a3 < 0 then (some ((0 : Int32), h)) else ((xgR [11] h a0 1).bind fun v1 => (xaI h v1 a1).bind fun v2 => if v2 < a2 then (some ((0 : Int32), h)) else ((xgR [11] h a0 1).bind fun v3 => (xaI h v3 a1).bind fun v4 => if (v4 - a2) < a3 then (some ((0 : Int32), h)) else (some ((1 : Int32), h)))))
def f_X12_isRow (a0 : Int32) (h : xH) : Option (Int32 × xH) := (f_X12_in a0 (0 : Int32) (7 : Int32) h).bind fun q1 => if q1.1 = 0 ∨ q1.1 = 1 then some (q1.1, q1.2) else none
def f_X12_copy_L92 : Nat → Nat → Int32 → Int32 → Int32 → Int32 → Int32 → Int32 → xH → Option (Int32 × xH)
  | 0, _, _, _, _, _, _, _, _ => none
  | n + 1, a0, a1, a2, a3, a4, a5, a6, h => if a5 ≤ a6 then (some (a6, h)) else ((xgR [11] h a0 3).bind fun v13 => (xgR [11] h a0 2).bind fun v14 => (xaI h v14 ((((40 : Int32) * a1) + a2) + a6)).bind fun v15 => (xuI h v13 a6 v15).bind fun h16 => f_X12_copy_L92 n a0 a1 a2 a3 a4 a5 (a6 + (1 : Int32)) h16)
def f_X12_copy_L129 : Nat → Nat → Int32 → Int32 → Int32 → Int32 → xH → Option (Int32 × xH)
  | 0, _, _, _, _, _, _ => none
  | n + 1, a0, a3, a4, a5, a6, h => if a5 ≤ a6 then (some (a6, h)) else ((xgR [11] h a0 2).bind fun v18 => (xgR [11] h a0 3).bind fun v19 => (xaI h v19 a6).bind fun v20 => (xuI h v18 ((((40 : Int32) * a3) + a4) + a6) v20).bind fun h21 => f_X12_copy_L129 n a0 a3 a4 a5 (a6 + (1 : Int32)) h21)
def f_X12_copy (a0 : Nat) (a1 : Int32) (a2 : Int32) (a3 : Int32) (a4 : Int32) (a5 : Int32) (h : xH) : Option (Int32 × xH) := (f_X12_isRow a1 h).bind fun q1 => if q1.1 = 0 then (some ((-1000001 : Int32), q1.2)) else ((f_X12_isRow a3 q1.2).bind fun q2 => if q2.1 = 0 then (some ((-1000001 : Int32), q2.2)) else ((if xk q2.2 a0 = some 11 then f_X12_isMissing a0 a1 q2.2 else none).bind fun q3 => if q3.1 = 0 then ((if xk q3.2 a0 = some 11 then f_X12_isMissing a0 a3 q3.2 else none).bind fun q4 => if q4.1 = 0 then ((xgR [11] q4.2 a0 0).bind fun v5 => (xaI q4.2 v5 a1).bind fun v6 => (xgR [11] q4.2 a0 0).bind fun v7 => (xaI q4.2 v7 a3).bind fun v8 => if v6 = v8 then ((if xk q4.2 a0 = some 11 then f_X12_isPart a0 a1 a2 a5 q4.2 else none).bind fun q9 => if q9.1 = 0 then ((if xk q9.2 a0 = some 11 then f_X12_found a0 (2 : Int32) q9.2 else none).bind fun q10 => some (q10.1, q10.2)) else ((if xk q9.2 a0 = some 11 then f_X12_isPart a0 a3 a4 a5 q9.2 else none).bind fun q11 => if q11.1 = 0 then ((if xk q11.2 a0 = some 11 then f_X12_found a0 (2 : Int32) q11.2 else none).bind fun q12 => some (q12.1, q12.2)) else ((f_X12_copy_L92 xN a0 a1 a2 a3 a4 a5 (0 : Int32) q11.2).bind fun q17 => (f_X12_copy_L129 xN a0 a3 a4 a5 (0 : Int32) q17.2).bind fun q22 => (if xk q22.2 a0 = some 11 then f_X12_well a0 a5 q22.2 else none).bind fun q23 => some (q23.1, q23.2)))) else ((if xk q4.2 a0 = some 11 then f_X12_found a0 (5 : Int32) q4.2 else none).bind fun q24 => some (q24.1, q24.2))) else ((if xk q4.2 a0 = some 11 then f_X12_found a0 (1 : Int32) q4.2 else none).bind fun q25 => some (q25.1, q25.2))) else ((if xk q3.2 a0 = some 11 then f_X12_found a0 (1 : Int32) q3.2 else none).bind fun q26 => some (q26.1, q26.2))))
def f_X12_onesOfAll (a0 : Nat) (h : xH) : Option (Int32 × xH) := (if xk h a0 = some 11 then f_X12_allOnes a0 (0 : Int32) h else none).bind fun q1 => (if xk q1.2 a0 = some 11 then f_X12_allOnes a0 (1 : Int32) q1.2 else none).bind fun q2 => (if xk q2.2 a0 = some 11 then f_X12_allOnes a0 (2 : Int32) q2.2 else none).bind fun q3 => (if xk q3.2 a0 = some 11 then f_X12_allOnes a0 (3 : Int32) q3.2 else none).bind fun q4 => some (((q1.1 + q2.1) + q3.1) + q4.1, q4.2)
def f_X12_count_L42 : Nat → Nat → Int32 → Int32 → xH → Option (Int32 × Int32 × xH)
  | 0, _, _, _, _ => none
  | n + 1, a0, a2, a3, h => if (8 : Int32) ≤ a3 then (some (a2, a3, h)) else ((if xk h a0 = some 11 then f_X12_isMissing a0 a3 h else none).bind fun q1 => f_X12_count_L42 n a0 (a2 + (if q1.1 = 0 then (1 : Int32) else (0 : Int32))) (a3 + (1 : Int32)) q1.2)
def f_X12_count (a0 : Nat) (a1 : Int32) (h : xH) : Option (Int32 × xH) := if a1 = 0 then ((f_X12_count_L42 xN a0 (0 : Int32) (0 : Int32) h).bind fun q3 => some (q3.1, q3.2.2)) else if a1 = 1 then ((xgI [11] h a0 19).bind fun v5 => some (v5, h)) else if a1 = 2 then ((if xk h a0 = some 11 then f_X12_bitsOf a0 (0 : Int32) h else none).bind fun q7 => (if xk q7.2 a0 = some 11 then f_X12_bitsOf a0 (1 : Int32) q7.2 else none).bind fun q8 => (if xk q8.2 a0 = some 11 then f_X12_bitsOf a0 (2 : Int32) q8.2 else none).bind fun q9 => (if xk q9.2 a0 = some 11 then f_X12_bitsOf a0 (3 : Int32) q9.2 else none).bind fun q10 => some (((q7.1 + q8.1) + q9.1) + q10.1, q10.2)) else if a1 = 3 then ((if xk h a0 = some 11 then f_X12_onesOfAll a0 h else none).bind fun q12 => some (q12.1, q12.2)) else if a1 = 4 then ((xgI [11] h a0 16).bind fun v14 => some (v14, h)) else if a1 = 5 then ((xgI [11] h a0 6).bind fun v16 => some (v16, h)) else (some ((-1000001 : Int32), h))
def f_X12_cut_L36 : Nat → Nat → Int32 → Int32 → Int32 → Int32 → xH → Option (Int32 × xH)
  | 0, _, _, _, _, _, _ => none
  | n + 1, a0, a1, a2, a3, a4, h => if a3 ≤ a4 then (some (a4, h)) else ((xgR [11] h a0 13).bind fun v6 => (f_X12_puts v6 a1 a4 (0 : Int32) h).bind fun q7 => f_X12_cut_L36 n a0 a1 a2 a3 (a4 + (1 : Int32)) q7)
def f_X12_cut (a0 : Nat) (a1 : Int32) (a2 : Int32) (h : xH) : Option (Int32 × xH) := (f_X12_isVector a1 h).bind fun q1 => if q1.1 = 0 then (some ((-1000001 : Int32), q1.2)) else ((if xk q1.2 a0 = some 11 then f_X12_bitsOf a0 a1 q1.2 else none).bind fun q2 => (f_X12_in a2 (0 : Int32) q2.1 q2.2).bind fun q3 => if q3.1 = 0 then (some ((-1000001 : Int32), q3.2)) else ((if xk q3.2 a0 = some 11 then f_X12_notes a0 q3.2 else none).bind fun q4 => (if xk q4 a0 = some 11 then f_X12_bitsOf a0 a1 q4 else none).bind fun q5 => (f_X12_cut_L36 xN a0 a1 a2 q5.1 a2 q5.2).bind fun q8 => (xgR [11] q8.2 a0 13).bind fun v9 => (xuI q8.2 v9 ((33 : Int32) * a1) a2).bind fun h10 => some (q5.1, h10)))
def f_X12_drawn_L68 : Nat → Nat → Int32 → Int32 → Int32 → Int32 → Int64 → Int32 → xH → Option (Int64 × Int32 × xH)
  | 0, _, _, _, _, _, _, _, _ => none
  | n + 1, a0, a1, a2, a4, a5, a6, a8, h => if a2 ≤ a8 then (some (a6, a8, h)) else (if a5 ≤ 0 then (some (a6, a8, h)) else (if a5.toInt64 = 0 then none else (xgR [11] h a0 14).bind fun v10 => (xgR [11] h a0 14).bind fun v11 => (f_X12_bit v11 a1 ((((a6 * (16807 : Int64)) - (a6 * (16807 : Int64)) / (2147483647 : Int64) * (2147483647 : Int64)) - ((a6 * (16807 : Int64)) - (a6 * (16807 : Int64)) / (2147483647 : Int64) * (2147483647 : Int64)) / a5.toInt64 * a5.toInt64).toInt32) h).bind fun q12 => (f_X12_puts v10 a1 ((((a6 * (16807 : Int64)) - (a6 * (16807 : Int64)) / (2147483647 : Int64) * (2147483647 : Int64)) - ((a6 * (16807 : Int64)) - (a6 * (16807 : Int64)) / (2147483647 : Int64) * (2147483647 : Int64)) / a5.toInt64 * a5.toInt64).toInt32) ((1 : Int32) - q12.1) q12.2).bind fun q13 => f_X12_drawn_L68 n a0 a1 a2 a4 a5 ((a6 * (16807 : Int64)) - (a6 * (16807 : Int64)) / (2147483647 : Int64) * (2147483647 : Int64)) (a8 + (1 : Int32)) q13))
def f_X12_drawn (a0 : Nat) (a1 : Int32) (a2 : Int32) (a3 : Int32) (a4 : Int32) (h : xH) : Option (Int32 × xH) := (f_X12_isVector a1 h).bind fun q1 => if q1.1 = 0 then (some ((-1000001 : Int32), q1.2)) else ((f_X12_in a2 (0 : Int32) (200 : Int32) q1.2).bind fun q2 => if q2.1 = 0 then (some ((-1000001 : Int32), q2.2)) else ((f_X12_in a3 (1 : Int32) (999999 : Int32) q2.2).bind fun q3 => if q3.1 = 0 then (some ((-1000001 : Int32), q3.2)) else ((f_X12_in a4 (0 : Int32) (1 : Int32) q3.2).bind fun q4 => if q4.1 = 0 then (some ((-1000001 : Int32), q4.2)) else ((xgR [11] q4.2 a0 13).bind fun v5 => (xgR [11] q4.2 a0 14).bind fun v6 => (f_X12_copies v5 (0 : Int32) v6 (0 : Int32) q4.2).bind fun q7 => (if xk q7 a0 = some 11 then f_X12_bitsOf a0 a1 q7 else none).bind fun q8 => (f_X12_drawn_L68 xN a0 a1 a2 a4 q8.1 a3.toInt64 (0 : Int32) q8.2).bind fun q14 => if a4 = 0 then ((xgR [11] q14.2.2 a0 14).bind fun v15 => (f_X12_onesAhead v15 a1 q8.1 q14.2.2).bind fun q16 => some (q16.1, q16.2)) else ((xgR [11] q14.2.2 a0 14).bind fun v17 => (xgR [11] q14.2.2 a0 14).bind fun v18 => (f_X12_blocks v18 a1 q14.2.2).bind fun q19 => (if xk q19.2 a0 = some 11 then f_X12_begins a0 v17 a1 q19.1 q19.2 else none).bind fun q20 => some (q20.1, q20.2))))))
def f_X12_drop (a0 : Nat) (a1 : Int32) (h : xH) : Option (Int32 × xH) := (f_X12_isRow a1 h).bind fun q1 => if q1.1 = 0 then (some ((-1000001 : Int32), q1.2)) else ((if xk q1.2 a0 = some 11 then f_X12_isMissing a0 a1 q1.2 else none).bind fun q2 => if q2.1 = 0 then ((xgR [11] q2.2 a0 0).bind fun v3 => (xuI q2.2 v3 a1 (-1000000 : Int32)).bind fun h4 => (xgR [11] h4 a0 1).bind fun v5 => (xaI h4 v5 a1).bind fun v6 => (if xk h4 a0 = some 11 then f_X12_well a0 v6 h4 else none).bind fun q7 => some (q7.1, q7.2)) else ((if xk q2.2 a0 = some 11 then f_X12_found a0 (1 : Int32) q2.2 else none).bind fun q8 => some (q8.1, q8.2)))
def f_X12_empties_L2 : Nat → Nat → Int32 → Int32 → Int32 → xH → Option (Int32 × xH)
  | 0, _, _, _, _, _ => none
  | n + 1, a0, a1, a2, a3, h => if (33 : Int32) ≤ a3 then (some (a3, h)) else ((xgR [11] h a0 13).bind fun v1 => (xuI h v1 (((33 : Int32) * a1) + a3) (0 : Int32)).bind fun h2 => f_X12_empties_L2 n a0 a1 a2 (a3 + (1 : Int32)) h2)
def f_X12_empties (a0 : Nat) (a1 : Int32) (a2 : Int32) (h : xH) : Option (xH) := (f_X12_empties_L2 xN a0 a1 a2 (0 : Int32) h).bind fun q3 => (xgR [11] q3.2 a0 13).bind fun v4 => (xuI q3.2 v4 ((33 : Int32) * a1) a2).bind fun h5 => some h5
def f_X12_entry (a0 : Nat) (a1 : Int32) (a2 : Int32) (a3 : Int32) (h : xH) : Option (Int32 × xH) := (f_X12_isVector a1 h).bind fun q1 => if q1.1 = 0 then (some ((-1000001 : Int32), q1.2)) else ((f_X12_in a2 (0 : Int32) (8 : Int32) q1.2).bind fun q2 => if q2.1 = 0 then (some ((-1000001 : Int32), q2.2)) else ((xgR [11] q2.2 a0 13).bind fun v3 => (f_X12_blocks v3 a1 q2.2).bind fun q4 => if q4.1 ≤ ((4 : Int32) * a2) then (some ((-1000001 : Int32), q4.2)) else ((f_X12_in a3 (0 : Int32) (1 : Int32) q4.2).bind fun q5 => if q5.1 = 0 then (some ((-1000001 : Int32), q5.2)) else (if a3 = 0 then ((xgR [11] q5.2 a0 13).bind fun v6 => (f_X12_onesAhead v6 a1 (((4 : Int32) * a2) * (15 : Int32)) q5.2).bind fun q7 => some (q7.1, q7.2)) else ((xgR [11] q5.2 a0 13).bind fun v8 => (if xk q5.2 a0 = some 11 then f_X12_begins a0 v8 a1 ((4 : Int32) * a2) q5.2 else none).bind fun q9 => some (q9.1, q9.2))))))
def f_X12_fault (a0 : Nat) (h : xH) : Option (Int32 × xH) := (xgI [11] h a0 7).bind fun v1 => some (v1, h)
def f_X12_feed (a0 : Nat) (a1 : Int32) (h : xH) : Option (Int32 × xH) := (f_X12_in a1 (0 : Int32) (255 : Int32) h).bind fun q1 => if q1.1 = 0 then (some ((-1000001 : Int32), q1.2)) else ((xgI [11] q1.2 a0 6).bind fun v2 => if v2 = (60 : Int32) then (some ((-1000003 : Int32), q1.2)) else ((xgR [11] q1.2 a0 5).bind fun v3 => (xgI [11] q1.2 a0 6).bind fun v4 => (xuI q1.2 v3 v4 a1).bind fun h5 => (xgI [11] h5 a0 6).bind fun v6 => (xpI [11] h5 a0 6 (v6 + (1 : Int32))).bind fun h7 => (xgI [11] h7 a0 6).bind fun v8 => some (v8, h7)))
def f_X12_isWell (a0 : Nat) (h : xH) : Option (Int32 × xH) := (xgI [11] h a0 8).bind fun v1 => if 0 ≤ v1 then (some ((0 : Int32), h)) else (some ((1 : Int32), h))
def f_X12_takes (a0 : Nat) (a1 : Int32) (a2 : Int32) (h : xH) : Option (Int32 × xH) := (if xk h a0 = some 11 then f_X12_isWell a0 h else none).bind fun q1 => if q1.1 = 0 then (some ((0 : Int32), q1.2)) else (if a1 = 0 then ((xgI [11] q1.2 a0 10).bind fun v2 => (xpI [11] q1.2 a0 8 v2).bind fun h3 => (xpI [11] h3 a0 7 a2).bind fun h4 => some ((0 : Int32), h4)) else ((xgI [11] q1.2 a0 12).bind fun v5 => (if xk q1.2 a0 = some 11 then f_X12_advances a0 q1.2 else none).bind fun q6 => some (v5, q6)))
def f_X12_figure (a0 : Nat) (a1 : Int32) (a2 : Int32) (h : xH) : Option (Int32 × xH) := (if xk h a0 = some 11 then f_X12_isWell a0 h else none).bind fun q1 => if q1.1 = 0 then ((xgI [11] q1.2 a0 12).bind fun v2 => (f_X12_in v2 a1 a2 q1.2).bind fun q3 => (if xk q3.2 a0 = some 11 then f_X12_takes a0 q3.1 (2 : Int32) q3.2 else none).bind fun q4 => some (q4.1, q4.2)) else ((xgI [11] q1.2 a0 11).bind fun v5 => if v5 = (2 : Int32) then ((xgI [11] q1.2 a0 12).bind fun v6 => (f_X12_in v6 a1 a2 q1.2).bind fun q7 => (if xk q7.2 a0 = some 11 then f_X12_takes a0 q7.1 (2 : Int32) q7.2 else none).bind fun q8 => some (q8.1, q8.2)) else ((if xk q1.2 a0 = some 11 then f_X12_takes a0 (0 : Int32) (1 : Int32) q1.2 else none).bind fun q9 => some (q9.1, q9.2)))
def f_X12_isBit (a0 : Nat) (a1 : Int32) (a2 : Int32) (h : xH) : Option (Int32 × xH) := (f_X12_isVector a1 h).bind fun q1 => if q1.1 = 0 then (some ((0 : Int32), q1.2)) else ((if xk q1.2 a0 = some 11 then f_X12_bitsOf a0 a1 q1.2 else none).bind fun q2 => (f_X12_in a2 (0 : Int32) (q2.1 - (1 : Int32)) q2.2).bind fun q3 => if q3.1 = 0 then (some ((0 : Int32), q3.2)) else (some ((1 : Int32), q3.2)))
def f_X12_get (a0 : Nat) (a1 : Int32) (a2 : Int32) (h : xH) : Option (Int32 × xH) := (if xk h a0 = some 11 then f_X12_isBit a0 a1 a2 h else none).bind fun q1 => if q1.1 = 0 then (some ((-1000001 : Int32), q1.2)) else ((xgR [11] q1.2 a0 13).bind fun v2 => (f_X12_bit v2 a1 a2 q1.2).bind fun q3 => some (q3.1, q3.2))
def f_X12_image (a0 : Nat) (a1 : Int32) (h : xH) : Option (Int32 × xH) := (f_X12_in a1 (0 : Int32) (1 : Int32) h).bind fun q1 => if q1.1 = 0 then (some ((-1000001 : Int32), q1.2)) else ((xgR [11] q1.2 a0 13).bind fun v2 => (xgR [11] q1.2 a0 17).bind fun v3 => (f_X12_copies v2 (0 : Int32) v3 ((132 : Int32) * a1) q1.2).bind fun q4 => (xgR [11] q4 a0 18).bind fun v5 => (xuZ q4 v5 a1 (1 : Int32)).bind fun h6 => (if xk h6 a0 = some 11 then f_X12_onesOfAll a0 h6 else none).bind fun q7 => some (q7.1, q7.2))
def f_X12_isInt (a0 : Int64) (h : xH) : Option (Int32 × xH) := if (lg_cmp a0 (-2147483648 : Int64)) < 0 then (some ((0 : Int32), h)) else (if 0 < (lg_cmp a0 (2147483647 : Int64)) then (some ((0 : Int32), h)) else (some ((1 : Int32), h)))
def f_X12_isPlace (a0 : Nat) (a1 : Int32) (a2 : Int32) (h : xH) : Option (Int32 × xH) := (f_X12_isVector a1 h).bind fun q1 => if q1.1 = 0 then (some ((0 : Int32), q1.2)) else ((if xk q1.2 a0 = some 11 then f_X12_bitsOf a0 a1 q1.2 else none).bind fun q2 => (f_X12_in a2 (0 : Int32) q2.1 q2.2).bind fun q3 => if q3.1 = 0 then (some ((0 : Int32), q3.2)) else (some ((1 : Int32), q3.2)))
def f_X12_join_L69 : Nat → Nat → Int32 → Int32 → Int32 → Int32 → Int32 → Int32 → xH → Option (Int32 × xH)
  | 0, _, _, _, _, _, _, _, _ => none
  | n + 1, a0, a1, a2, a3, a4, a5, a6, h => if (33 : Int32) ≤ a6 then (some (a6, h)) else ((xgR [11] h a0 13).bind fun v11 => (xaI h v11 (((33 : Int32) * a2) + a6)).bind fun v12 => (xgR [11] h a0 13).bind fun v13 => (xaI h v13 (((33 : Int32) * a3) + a6)).bind fun v14 => (xgR [11] h a0 13).bind fun v15 => if a1 = 0 then ((xuI h v15 (((33 : Int32) * a4) + a6) (v12 &&& v14)).bind fun h16 => f_X12_join_L69 n a0 a1 a2 a3 a4 a5 (a6 + (1 : Int32)) h16) else (if a1 = (1 : Int32) then ((xuI h v15 (((33 : Int32) * a4) + a6) (v12 ||| v14)).bind fun h17 => f_X12_join_L69 n a0 a1 a2 a3 a4 a5 (a6 + (1 : Int32)) h17) else (if a1 = (2 : Int32) then ((xuI h v15 (((33 : Int32) * a4) + a6) (v12 ^^^ v14)).bind fun h18 => f_X12_join_L69 n a0 a1 a2 a3 a4 a5 (a6 + (1 : Int32)) h18) else ((xuI h v15 (((33 : Int32) * a4) + a6) (v12 &&& (v14 ^^^ (-1 : Int32)))).bind fun h19 => f_X12_join_L69 n a0 a1 a2 a3 a4 a5 (a6 + (1 : Int32)) h19))))
def f_X12_join (a0 : Nat) (a1 : Int32) (a2 : Int32) (a3 : Int32) (a4 : Int32) (h : xH) : Option (Int32 × xH) := (f_X12_in a1 (0 : Int32) (3 : Int32) h).bind fun q1 => if q1.1 = 0 then (some ((-1000001 : Int32), q1.2)) else ((f_X12_isVector a2 q1.2).bind fun q2 => if q2.1 = 0 then (some ((-1000001 : Int32), q2.2)) else ((f_X12_isVector a3 q2.2).bind fun q3 => if q3.1 = 0 then (some ((-1000001 : Int32), q3.2)) else ((f_X12_isVector a4 q3.2).bind fun q4 => if q4.1 = 0 then (some ((-1000001 : Int32), q4.2)) else ((if xk q4.2 a0 = some 11 then f_X12_notes a0 q4.2 else none).bind fun q5 => (if xk q5 a0 = some 11 then f_X12_bitsOf a0 a2 q5 else none).bind fun q6 => (if xk q6.2 a0 = some 11 then f_X12_bitsOf a0 a3 q6.2 else none).bind fun q7 => (if q6.1 ≤ q7.1 then ((if xk q7.2 a0 = some 11 then f_X12_bitsOf a0 a3 q7.2 else none).bind fun q8 => some (q8.1, q8.2)) else ((if xk q7.2 a0 = some 11 then f_X12_bitsOf a0 a2 q7.2 else none).bind fun q9 => some (q9.1, q9.2)) : Option (Int32 × xH)).bind fun q10 => (f_X12_join_L69 xN a0 a1 a2 a3 a4 q10.1 (1 : Int32) q10.2).bind fun q20 => (xgR [11] q20.2 a0 13).bind fun v21 => (xuI q20.2 v21 ((33 : Int32) * a4) q10.1).bind fun h22 => (if xk h22 a0 = some 11 then f_X12_allOnes a0 a4 h22 else none).bind fun q23 => some (q23.1, q23.2)))))
def f_X12_kind (a0 : Nat) (a1 : Int32) (h : xH) : Option (Int32 × xH) := (if xk h a0 = some 11 then f_X12_isRun a0 a1 h else none).bind fun q1 => if q1.1 = 0 then (some ((-1000001 : Int32), q1.2)) else ((if xk q1.2 a0 = some 11 then f_X12_kindIn a0 a1 q1.2 else none).bind fun q2 => some (q2.1, q2.2))
def f_X12_kindOf (a0 : Int32) (h : xH) : Option (Int32 × xH) := if a0 = (122 : Int32) then (some ((1 : Int32), h)) else (if a0 = (111 : Int32) then (some ((2 : Int32), h)) else (if a0 = (116 : Int32) then (some ((3 : Int32), h)) else (if a0 = (97 : Int32) then (some ((4 : Int32), h)) else (if a0 = (98 : Int32) then (some ((5 : Int32), h)) else (some ((0 : Int32), h))))))
def f_X12_last_L24 : Nat → Nat → Int32 → Int32 → Int32 → xH → Option (Int32 × xH)
  | 0, _, _, _, _, _ => none
  | n + 1, a0, a1, a3, a4, h => if a4 < 0 then (some ((-1000000 : Int32), h)) else ((xgR [11] h a0 13).bind fun v3 => (f_X12_bit v3 a1 a4 h).bind fun q4 => if q4.1 = a3 then (some (a4, q4.2)) else (f_X12_last_L24 n a0 a1 a3 (a4 + (-1 : Int32)) q4.2))
def f_X12_last (a0 : Nat) (a1 : Int32) (a2 : Int32) (a3 : Int32) (h : xH) : Option (Int32 × xH) := (if xk h a0 = some 11 then f_X12_isPlace a0 a1 a2 h else none).bind fun q1 => if q1.1 = 0 then (some ((-1000001 : Int32), q1.2)) else ((f_X12_isValue a3 q1.2).bind fun q2 => if q2.1 = 0 then (some ((-1000001 : Int32), q2.2)) else (f_X12_last_L24 xN a0 a1 a3 (a2 - (1 : Int32)) q2.2))
def f_X12_longer (a0 : Nat) (a1 : Int32) (h : xH) : Option (Int32 × xH) := (if xk h a0 = some 11 then f_X12_isWell a0 h else none).bind fun q1 => if q1.1 = 0 then ((if xk q1.2 a0 = some 11 then f_X12_figure a0 (1 : Int32) (99 : Int32) q1.2 else none).bind fun q2 => some (q2.1, q2.2)) else ((xgI [11] q1.2 a0 11).bind fun v3 => if v3 = (2 : Int32) then ((xgI [11] q1.2 a0 12).bind fun v4 => (f_X12_in v4 (1 : Int32) (99 : Int32) q1.2).bind fun q5 => if q5.1 = 0 then ((if xk q5.2 a0 = some 11 then f_X12_figure a0 (1 : Int32) (99 : Int32) q5.2 else none).bind fun q6 => some (q6.1, q6.2)) else ((xgI [11] q5.2 a0 12).bind fun v7 => if (a1 + v7) ≤ (480 : Int32) then ((if xk q5.2 a0 = some 11 then f_X12_figure a0 (1 : Int32) (99 : Int32) q5.2 else none).bind fun q8 => some (q8.1, q8.2)) else ((if xk q5.2 a0 = some 11 then f_X12_takes a0 (0 : Int32) (4 : Int32) q5.2 else none).bind fun q9 => some (q9.1, q9.2)))) else ((if xk q1.2 a0 = some 11 then f_X12_figure a0 (1 : Int32) (99 : Int32) q1.2 else none).bind fun q10 => some (q10.1, q10.2)))
def f_X12_load_L31 : Nat → Nat → Int32 → Int32 → xH → Option (Int32 × xH)
  | 0, _, _, _, _ => none
  | n + 1, a0, a1, a2, h => (xgI [11] h a0 11).bind fun v6 => (if v6 = (1 : Int32) then ((xgI [11] h a0 12).bind fun v7 => (f_X12_kindOf v7 h).bind fun q8 => some (q8.1, q8.2)) else (some ((0 : Int32), h)) : Option (Int32 × xH)).bind fun q9 => (if xk q9.2 a0 = some 11 then f_X12_takes a0 (if q9.1 ≤ 0 then (0 : Int32) else (1 : Int32)) (1 : Int32) q9.2 else none).bind fun q11 => (if xk q11.2 a0 = some 11 then f_X12_isWell a0 q11.2 else none).bind fun q12 => (if q12.1 = 0 then (some q12.2) else ((xgI [11] q12.2 a0 22).bind fun v13 => if v13 = (12 : Int32) then ((xgI [11] q12.2 a0 10).bind fun v14 => (xpI [11] q12.2 a0 8 (v14 - (1 : Int32))).bind fun h15 => (xpI [11] h15 a0 7 (3 : Int32)).bind fun h16 => some h16) else (some q12.2)) : Option (xH)).bind fun q17 => (if xk q17 a0 = some 11 then f_X12_longer a0 a2 q17 else none).bind fun q18 => (xgI [11] q18.2 a0 11).bind fun v19 => (if xk q18.2 a0 = some 11 then f_X12_takes a0 (if v19 = (4 : Int32) then (1 : Int32) else (0 : Int32)) (1 : Int32) q18.2 else none).bind fun q21 => (if xk q21.2 a0 = some 11 then f_X12_isWell a0 q21.2 else none).bind fun q22 => if q22.1 = 0 then ((if xk q22.2 a0 = some 11 then f_X12_isWell a0 q22.2 else none).bind fun q23 => if q23.1 = 0 then (some (a2, q23.2)) else ((xgI [11] q23.2 a0 11).bind fun v24 => if v24 = 0 then (some (a2, q23.2)) else (f_X12_load_L31 n a0 a1 a2 q23.2))) else ((xgR [11] q22.2 a0 23).bind fun v25 => (xgI [11] q22.2 a0 22).bind fun v26 => (xuI q22.2 v25 v26 q9.1).bind fun h27 => (xgR [11] h27 a0 24).bind fun v28 => (xgI [11] h27 a0 22).bind fun v29 => (xuI h27 v28 v29 q18.1).bind fun h30 => (xgI [11] h30 a0 22).bind fun v31 => (xpI [11] h30 a0 22 (v31 + (1 : Int32))).bind fun h32 => (if xk h32 a0 = some 11 then f_X12_isWell a0 h32 else none).bind fun q33 => if q33.1 = 0 then (some (a2 + q18.1, q33.2)) else ((xgI [11] q33.2 a0 11).bind fun v34 => if v34 = 0 then (some (a2 + q18.1, q33.2)) else (f_X12_load_L31 n a0 a1 (a2 + q18.1) q33.2)))
def f_X12_load_L255 : Nat → Nat → Int32 → Int32 → Int32 → Int32 → xH → Option (Int32 × xH)
  | 0, _, _, _, _, _, _ => none
  | n + 1, a0, a1, a2, a3, a4, h => (xgR [11] h a0 21).bind fun v52 => (xaI h v52 a3).bind fun v53 => if v53 ≤ a4 then (some (a4, h)) else ((xgR [11] h a0 20).bind fun v54 => (xaI h v54 a3).bind fun v55 => (f_X12_bitOf v55 a4 h).bind fun q56 => (if xk q56.2 a0 = some 11 then f_X12_appends a0 a1 q56.1 q56.2 else none).bind fun q57 => f_X12_load_L255 n a0 a1 a2 a3 (a4 + (1 : Int32)) q57)
def f_X12_load_L220 : Nat → Nat → Int32 → Int32 → Int32 → xH → Option (Int32 × xH)
  | 0, _, _, _, _, _ => none
  | n + 1, a0, a1, a2, a3, h => (xgI [11] h a0 19).bind fun v43 => if v43 ≤ a3 then (some (a3, h)) else ((xgR [11] h a0 20).bind fun v44 => (xgR [11] h a0 23).bind fun v45 => (xaI h v45 a3).bind fun v46 => (xuI h v44 a3 v46).bind fun h47 => (xgR [11] h47 a0 21).bind fun v48 => (xgR [11] h47 a0 24).bind fun v49 => (xaI h47 v49 a3).bind fun v50 => (xuI h47 v48 a3 v50).bind fun h51 => (f_X12_load_L255 xN a0 a1 a2 a3 (0 : Int32) h51).bind fun q58 => f_X12_load_L220 n a0 a1 a2 (a3 + (1 : Int32)) q58.2)
def f_X12_load (a0 : Nat) (a1 : Int32) (h : xH) : Option (Int32 × xH) := (f_X12_isVector a1 h).bind fun q1 => if q1.1 = 0 then (some ((-1000001 : Int32), q1.2)) else ((xpI [11] q1.2 a0 9 (0 : Int32)).bind fun h2 => (xpI [11] h2 a0 8 (-1 : Int32)).bind fun h3 => (xpI [11] h3 a0 22 (0 : Int32)).bind fun h4 => (if xk h4 a0 = some 11 then f_X12_advances a0 h4 else none).bind fun q5 => (f_X12_load_L31 xN a0 a1 (0 : Int32) q5).bind fun q35 => (xpI [11] q35.2 a0 6 (0 : Int32)).bind fun h36 => (if xk h36 a0 = some 11 then f_X12_isWell a0 h36 else none).bind fun q37 => if q37.1 = 0 then ((xgI [11] q37.2 a0 8).bind fun v38 => some ((-1000100 : Int32) - v38, q37.2)) else ((if xk q37.2 a0 = some 11 then f_X12_notes a0 q37.2 else none).bind fun q39 => (if xk q39 a0 = some 11 then f_X12_empties a0 a1 (0 : Int32) q39 else none).bind fun q40 => (xgI [11] q40 a0 22).bind fun v41 => (xpI [11] q40 a0 19 v41).bind fun h42 => (f_X12_load_L220 xN a0 a1 q35.1 (0 : Int32) h42).bind fun q59 => some (q35.1, q59.2)))
def f_X12_longest_L39 : Nat → Nat → Int32 → Int32 → Int32 → Int32 → Int32 → Int32 → Int32 → xH → Option (Int32 × Int32 × Int32 × Int32 × xH)
  | 0, _, _, _, _, _, _, _, _, _ => none
  | n + 1, a0, a1, a2, a3, a4, a5, a6, a7, h => (if xk h a0 = some 11 then f_X12_bitsOf a0 a1 h else none).bind fun q4 => if q4.1 ≤ a7 then (some (a4, a5, a6, a7, q4.2)) else ((xgR [11] q4.2 a0 13).bind fun v5 => (f_X12_bit v5 a1 a7 q4.2).bind fun q6 => if (if q6.1 = a2 then a6 + (1 : Int32) else (0 : Int32)) ≤ a4 then (f_X12_longest_L39 n a0 a1 a2 a3 a4 (if (if q6.1 = a2 then a6 + (1 : Int32) else (0 : Int32)) ≤ a4 then a5 else (a7 - (if q6.1 = a2 then a6 + (1 : Int32) else (0 : Int32))) + (1 : Int32)) (if q6.1 = a2 then a6 + (1 : Int32) else (0 : Int32)) (a7 + (1 : Int32)) q6.2) else (f_X12_longest_L39 n a0 a1 a2 a3 (if q6.1 = a2 then a6 + (1 : Int32) else (0 : Int32)) (if (if q6.1 = a2 then a6 + (1 : Int32) else (0 : Int32)) ≤ a4 then a5 else (a7 - (if q6.1 = a2 then a6 + (1 : Int32) else (0 : Int32))) + (1 : Int32)) (if q6.1 = a2 then a6 + (1 : Int32) else (0 : Int32)) (a7 + (1 : Int32)) q6.2))
def f_X12_longest (a0 : Nat) (a1 : Int32) (a2 : Int32) (a3 : Int32) (h : xH) : Option (Int32 × xH) := (f_X12_isVector a1 h).bind fun q1 => if q1.1 = 0 then (some ((-1000001 : Int32), q1.2)) else ((f_X12_isValue a2 q1.2).bind fun q2 => if q2.1 = 0 then (some ((-1000001 : Int32), q2.2)) else ((f_X12_in a3 (0 : Int32) (1 : Int32) q2.2).bind fun q3 => if q3.1 = 0 then (some ((-1000001 : Int32), q3.2)) else ((f_X12_longest_L39 xN a0 a1 a2 a3 (0 : Int32) (-1000000 : Int32) (0 : Int32) (0 : Int32) q3.2).bind fun q9 => if a3 = 0 then (some (q9.1, q9.2.2.2.2)) else (some (q9.2.1, q9.2.2.2.2)))))
def f_X12_lowest (a0 : Int32) (a1 : Int32) (h : xH) : Option (Int32 × xH) := if a0 = 0 then (some ((a1 <<< ((24 : Int32) &&& 31)) >>> ((24 : Int32) &&& 31), h)) else (if a0 = (1 : Int32) then (some ((a1 <<< ((16 : Int32) &&& 31)) >>> ((16 : Int32) &&& 31), h)) else (some (a1, h)))
def f_X12_mask_L45 : Nat → Nat → Int32 → Int32 → Int32 → Int32 → xH → Option (Int32 × Int32 × Int32 × Int32 × xH)
  | 0, _, _, _, _, _, _ => none
  | n + 1, a0, a3, a4, a5, a6, h => if a6 < 0 then (some (a3, a4, a5, a6, h)) else ((xgR [11] h a0 25).bind fun v5 => (xaI h v5 (((16 : Int32) * a6) + a4)).bind fun v6 => if a4 ≤ 0 then (f_X12_mask_L45 n a0 a3 a4 a5 (a6 + (-1 : Int32)) h) else (if a5 < v6 then (f_X12_mask_L45 n a0 a3 a4 a5 (a6 + (-1 : Int32)) h) else (f_X12_mask_L45 n a0 (a3 ||| ((1 : Int32) <<< (a6 &&& 31))) (a4 + (-1 : Int32)) (a5 - v6) (a6 + (-1 : Int32)) h)))
def f_X12_mask (a0 : Nat) (a1 : Int32) (a2 : Int32) (h : xH) : Option (Int32 × xH) := (f_X12_in a1 (0 : Int32) (15 : Int32) h).bind fun q1 => if q1.1 = 0 then (some ((-1000001 : Int32), q1.2)) else ((xgR [11] q1.2 a0 25).bind fun v2 => (xaI q1.2 v2 ((240 : Int32) + a1)).bind fun v3 => (f_X12_in a2 (0 : Int32) (v3 - (1 : Int32)) q1.2).bind fun q4 => if q4.1 = 0 then (some ((-1000001 : Int32), q4.2)) else ((f_X12_mask_L45 xN a0 (0 : Int32) a1 a2 (14 : Int32) q4.2).bind fun q7 => some (q7.1, q7.2.2.2.2)))
def f_X12_next_L22 : Nat → Nat → Int32 → Int32 → Int32 → xH → Option (Int32 × xH)
  | 0, _, _, _, _, _ => none
  | n + 1, a0, a1, a3, a4, h => (if xk h a0 = some 11 then f_X12_bitsOf a0 a1 h else none).bind fun q3 => if q3.1 ≤ a4 then (some ((-1000000 : Int32), q3.2)) else ((xgR [11] q3.2 a0 13).bind fun v4 => (f_X12_bit v4 a1 a4 q3.2).bind fun q5 => if q5.1 = a3 then (some (a4, q5.2)) else (f_X12_next_L22 n a0 a1 a3 (a4 + (1 : Int32)) q5.2))
def f_X12_next (a0 : Nat) (a1 : Int32) (a2 : Int32) (a3 : Int32) (h : xH) : Option (Int32 × xH) := (if xk h a0 = some 11 then f_X12_isPlace a0 a1 a2 h else none).bind fun q1 => if q1.1 = 0 then (some ((-1000001 : Int32), q1.2)) else ((f_X12_isValue a3 q1.2).bind fun q2 => if q2.1 = 0 then (some ((-1000001 : Int32), q2.2)) else (f_X12_next_L22 xN a0 a1 a3 a2 q2.2))
def f_X12_offset (a0 : Nat) (a1 : Int32) (h : xH) : Option (Int32 × xH) := (f_X12_in a1 (0 : Int32) (32767 : Int32) h).bind fun q1 => if q1.1 = 0 then (some ((-1000001 : Int32), q1.2)) else ((if xk q1.2 a0 = some 11 then f_X12_offsetOf a0 a1 q1.2 else none).bind fun q2 => some (q2.1, q2.2))
def f_X12_ones (a0 : Nat) (a1 : Int32) (h : xH) : Option (Int32 × xH) := (f_X12_isVector a1 h).bind fun q1 => if q1.1 = 0 then (some ((-1000001 : Int32), q1.2)) else ((if xk q1.2 a0 = some 11 then f_X12_allOnes a0 a1 q1.2 else none).bind fun q2 => some (q2.1, q2.2))
def f_X12_payload_L81 : Nat → Nat → Int32 → Int32 → Int64 → Int32 → Int32 → Int64 → Int32 → Int32 → xH → Option (Int64 × Int32 × xH)
  | 0, _, _, _, _, _, _, _, _, _, _ => none
  | n + 1, a0, a1, a2, a3, a5, a6, a8, a10, a11, h => if a10 ≤ a11 then (some (a3, a11, h)) else (if ((a5 + a11) / (64 : Int32)) = a2 then (f_X12_payload_L81 n a0 a1 a2 (a3 ||| (((a8 >>> (a11.toInt64 &&& 63)) &&& (1 : Int64)) <<< (((a5 + a11) - (a5 + a11) / (64 : Int32) * (64 : Int32)).toInt64 &&& 63))) a5 a6 a8 a10 (a11 + (1 : Int32)) h) else (f_X12_payload_L81 n a0 a1 a2 (a3 ||| (0 : Int64)) a5 a6 a8 a10 (a11 + (1 : Int32)) h))
def f_X12_payload_L29 : Nat → Nat → Int32 → Int32 → Int64 → Int32 → Int32 → xH → Option (Int64 × Int32 × Int32 × xH)
  | 0, _, _, _, _, _, _, _ => none
  | n + 1, a0, a1, a2, a3, a5, a6, h => (xgR [11] h a0 13).bind fun v3 => (f_X12_blocks v3 a1 h).bind fun q4 => if q4.1 ≤ a6 then (some (a3, a5, a6, q4.2)) else ((xgR [11] q4.2 a0 13).bind fun v5 => (xaI q4.2 v5 ((((33 : Int32) * a1) + (1 : Int32)) + a6)).bind fun v6 => (if xk q4.2 a0 = some 11 then f_X12_offsetOf a0 v6 q4.2 else none).bind fun q7 => (f_X12_sortOf v6 q7.2).bind fun q8 => (if xk q8.2 a0 = some 11 then f_X12_widthOf a0 q8.1 q8.2 else none).bind fun q9 => (f_X12_payload_L81 xN a0 a1 a2 a3 a5 a6 q7.1.toInt64 q9.1 (0 : Int32) q9.2).bind fun q10 => f_X12_payload_L29 n a0 a1 a2 q10.1 (a5 + q9.1) (a6 + (1 : Int32)) q10.2.2)
def f_X12_payload (a0 : Nat) (a1 : Int32) (a2 : Int32) (h : xH) : Option (Int64 × xH) := (f_X12_isVector a1 h).bind fun q1 => if q1.1 = 0 then (some ((-1000001 : Int64), q1.2)) else ((f_X12_in a2 (0 : Int32) (6 : Int32) q1.2).bind fun q2 => if q2.1 = 0 then (some ((-1000001 : Int64), q2.2)) else ((f_X12_payload_L29 xN a0 a1 a2 (0 : Int64) (0 : Int32) (0 : Int32) q2.2).bind fun q11 => some (q11.1, q11.2.2.2)))
def f_X12_put (a0 : Nat) (a1 : Int32) (a2 : Int32) (a3 : Int32) (h : xH) : Option (Int32 × xH) := (if xk h a0 = some 11 then f_X12_isBit a0 a1 a2 h else none).bind fun q1 => if q1.1 = 0 then (some ((-1000001 : Int32), q1.2)) else ((f_X12_isValue a3 q1.2).bind fun q2 => if q2.1 = 0 then (some ((-1000001 : Int32), q2.2)) else ((if xk q2.2 a0 = some 11 then f_X12_notes a0 q2.2 else none).bind fun q3 => (xgR [11] q3 a0 13).bind fun v4 => (f_X12_bit v4 a1 a2 q3).bind fun q5 => (xgR [11] q5.2 a0 13).bind fun v6 => (f_X12_puts v6 a1 a2 a3 q5.2).bind fun q7 => some (q5.1, q7)))
def f_X12_rank (a0 : Nat) (a1 : Int32) (a2 : Int32) (a3 : Int32) (h : xH) : Option (Int32 × xH) := (if xk h a0 = some 11 then f_X12_isPlace a0 a1 a2 h else none).bind fun q1 => if q1.1 = 0 then (some ((-1000001 : Int32), q1.2)) else ((f_X12_isValue a3 q1.2).bind fun q2 => if q2.1 = 0 then (some ((-1000001 : Int32), q2.2)) else ((xgR [11] q2.2 a0 13).bind fun v3 => (f_X12_onesAhead v3 a1 a2 q2.2).bind fun q4 => if a3 = (1 : Int32) then (some (q4.1, q4.2)) else (some (a2 - q4.1, q4.2))))
def f_X12_restore (a0 : Nat) (a1 : Int32) (h : xH) : Option (Int32 × xH) := (f_X12_in a1 (0 : Int32) (1 : Int32) h).bind fun q1 => if q1.1 = 0 then (some ((-1000001 : Int32), q1.2)) else ((xgR [11] q1.2 a0 18).bind fun v2 => (xaZ q1.2 v2 a1).bind fun v3 => if v3 = 0 then (some ((-1000002 : Int32), q1.2)) else ((xgR [11] q1.2 a0 17).bind fun v4 => (xgR [11] q1.2 a0 13).bind fun v5 => (f_X12_copies v4 ((132 : Int32) * a1) v5 (0 : Int32) q1.2).bind fun q6 => (xpI [11] q6 a0 16 (0 : Int32)).bind fun h7 => (if xk h7 a0 = some 11 then f_X12_onesOfAll a0 h7 else none).bind fun q8 => some (q8.1, q8.2)))
def f_X12_row_L52 : Nat → Nat → Int32 → Int32 → Int32 → xH → Option (Int32 × xH)
  | 0, _, _, _, _, _ => none
  | n + 1, a0, a1, a3, a4, h => if (40 : Int32) ≤ a4 then (some (a4, h)) else ((xgR [11] h a0 2).bind fun v7 => (xuI h v7 (((40 : Int32) * a1) + a4) (0 : Int32)).bind fun h8 => f_X12_row_L52 n a0 a1 a3 (a4 + (1 : Int32)) h8)
def f_X12_row (a0 : Nat) (a1 : Int32) (a2 : Int32) (a3 : Int32) (h : xH) : Option (Int32 × xH) := (f_X12_isRow a1 h).bind fun q1 => if q1.1 = 0 then (some ((-1000001 : Int32), q1.2)) else ((f_X12_in a2 (0 : Int32) (2 : Int32) q1.2).bind fun q2 => if q2.1 = 0 then (some ((-1000001 : Int32), q2.2)) else (if a3 ≤ (40 : Int32) then (if 0 ≤ a3 then ((xgR [11] q2.2 a0 0).bind fun v3 => (xuI q2.2 v3 a1 a2).bind fun h4 => (xgR [11] h4 a0 1).bind fun v5 => (xuI h4 v5 a1 a3).bind fun h6 => (f_X12_row_L52 xN a0 a1 a3 (0 : Int32) h6).bind fun q9 => (if xk q9.2 a0 = some 11 then f_X12_well a0 a3 q9.2 else none).bind fun q10 => some (q10.1, q10.2)) else ((if xk q2.2 a0 = some 11 then f_X12_found a0 (4 : Int32) q2.2 else none).bind fun q11 => some (q11.1, q11.2))) else (some ((-1000001 : Int32), q2.2))))
def f_X12_select_L27 : Nat → Nat → Int32 → Int32 → Int32 → Int32 → Int32 → xH → Option (Int32 × xH)
  | 0, _, _, _, _, _, _, _ => none
  | n + 1, a0, a1, a2, a3, a4, a5, h => (if xk h a0 = some 11 then f_X12_bitsOf a0 a1 h else none).bind fun q3 => if q3.1 ≤ a5 then (some ((-1000000 : Int32), q3.2)) else ((xgR [11] q3.2 a0 13).bind fun v4 => (f_X12_bit v4 a1 a5 q3.2).bind fun q5 => if q5.1 = a3 then (if a4 = a2 then (some (a5, q5.2)) else (f_X12_select_L27 n a0 a1 a2 a3 (a4 + (1 : Int32)) (a5 + (1 : Int32)) q5.2)) else (f_X12_select_L27 n a0 a1 a2 a3 a4 (a5 + (1 : Int32)) q5.2))
def f_X12_select (a0 : Nat) (a1 : Int32) (a2 : Int32) (a3 : Int32) (h : xH) : Option (Int32 × xH) := (f_X12_isVector a1 h).bind fun q1 => if q1.1 = 0 then (some ((-1000001 : Int32), q1.2)) else ((f_X12_isValue a3 q1.2).bind fun q2 => if q2.1 = 0 then (some ((-1000001 : Int32), q2.2)) else (if 0 ≤ a2 then (f_X12_select_L27 xN a0 a1 a2 a3 (0 : Int32) (0 : Int32) q2.2) else (some ((-1000001 : Int32), q2.2))))
def f_X12_set (a0 : Nat) (a1 : Int32) (a2 : Int32) (a3 : Int32) (h : xH) : Option (Int32 × xH) := (f_X12_isRow a1 h).bind fun q1 => if q1.1 = 0 then (some ((-1000001 : Int32), q1.2)) else ((if xk q1.2 a0 = some 11 then f_X12_isMissing a0 a1 q1.2 else none).bind fun q2 => if q2.1 = 0 then ((xgR [11] q2.2 a0 1).bind fun v3 => (xaI q2.2 v3 a1).bind fun v4 => (f_X12_in a2 (0 : Int32) (v4 - (1 : Int32)) q2.2).bind fun q5 => if q5.1 = 0 then ((if xk q5.2 a0 = some 11 then f_X12_found a0 (2 : Int32) q5.2 else none).bind fun q6 => some (q6.1, q6.2)) else ((xgR [11] q5.2 a0 2).bind fun v7 => (xgR [11] q5.2 a0 0).bind fun v8 => (xaI q5.2 v8 a1).bind fun v9 => (f_X12_lowest v9 a3 q5.2).bind fun q10 => (xuI q10.2 v7 (((40 : Int32) * a1) + a2) q10.1).bind fun h11 => (xgR [11] h11 a0 2).bind fun v12 => (xaI h11 v12 (((40 : Int32) * a1) + a2)).bind fun v13 => (if xk h11 a0 = some 11 then f_X12_well a0 v13 h11 else none).bind fun q14 => some (q14.1, q14.2))) else ((if xk q2.2 a0 = some 11 then f_X12_found a0 (1 : Int32) q2.2 else none).bind fun q15 => some (q15.1, q15.2)))
def f_X12_size (a0 : Nat) (a1 : Int32) (a2 : Int32) (h : xH) : Option (Int32 × xH) := (f_X12_isVector a1 h).bind fun q1 => if q1.1 = 0 then (some ((-1000001 : Int32), q1.2)) else ((xgR [11] q1.2 a0 13).bind fun v2 => (f_X12_blocks v2 a1 q1.2).bind fun q3 => (xgR [11] q3.2 a0 13).bind fun v4 => (if xk q3.2 a0 = some 11 then f_X12_begins a0 v4 a1 q3.1 q3.2 else none).bind fun q5 => if a2 = 0 then (some (q5.1, q5.2)) else if a2 = 1 then (some ((4 : Int32) * q3.1, q5.2)) else if a2 = 2 then (some ((18 : Int32) * ((q3.1 + (3 : Int32)) / (4 : Int32)), q5.2)) else if a2 = 3 then (some ((q5.1 + ((4 : Int32) * q3.1)) + ((18 : Int32) * ((q3.1 + (3 : Int32)) / (4 : Int32))), q5.2)) else if a2 = 4 then (some ((15 : Int32) * q3.1, q5.2)) else (some ((-1000001 : Int32), q5.2)))
def f_X12_status (a0 : Nat) (h : xH) : Option (Int32 × xH) := (xgI [11] h a0 4).bind fun v1 => some (v1, h)
def f_X12_stretches_L14 : Nat → Nat → Int32 → Int32 → Int32 → xH → Option (Int32 × Int32 × xH)
  | 0, _, _, _, _, _ => none
  | n + 1, a0, a1, a2, a3, h => (if xk h a0 = some 11 then f_X12_bitsOf a0 a1 h else none).bind fun q2 => if q2.1 ≤ a3 then (some (a2, a3, q2.2)) else (if a3 = 0 then (f_X12_stretches_L14 n a0 a1 (a2 + (1 : Int32)) (a3 + (1 : Int32)) q2.2) else ((xgR [11] q2.2 a0 13).bind fun v3 => (f_X12_bit v3 a1 a3 q2.2).bind fun q4 => (xgR [11] q4.2 a0 13).bind fun v5 => (f_X12_bit v5 a1 (a3 - (1 : Int32)) q4.2).bind fun q6 => f_X12_stretches_L14 n a0 a1 (a2 + (if q4.1 = q6.1 then (0 : Int32) else (1 : Int32))) (a3 + (1 : Int32)) q6.2))
def f_X12_stretches (a0 : Nat) (a1 : Int32) (h : xH) : Option (Int32 × xH) := (f_X12_isVector a1 h).bind fun q1 => if q1.1 = 0 then (some ((-1000001 : Int32), q1.2)) else ((f_X12_stretches_L14 xN a0 a1 (0 : Int32) (0 : Int32) q1.2).bind fun q8 => some (q8.1, q8.2.2))
def f_X12_take_L129 : Nat → Nat → Int32 → Int32 → Int32 → Int32 → xH → Option (Int32 × xH)
  | 0, _, _, _, _, _, _ => none
  | n + 1, a0, a1, a3, a4, a5, h => if a4 ≤ a5 then (some (a5, h)) else ((xgR [11] h a0 13).bind fun v8 => (xgR [11] h a0 2).bind fun v9 => (xaI h v9 (((40 : Int32) * a3) + a5)).bind fun v10 => (f_X12_puts v8 a1 v10 (1 : Int32) h).bind fun q11 => f_X12_take_L129 n a0 a1 a3 a4 (a5 + (1 : Int32)) q11)
def f_X12_take_L75 : Nat → Nat → Int32 → Int32 → Int32 → Int32 → Int32 → xH → Option (Int32 × xH)
  | 0, _, _, _, _, _, _, _ => none
  | n + 1, a0, a1, a2, a3, a4, a5, h => if a4 ≤ a5 then ((if xk h a0 = some 11 then f_X12_notes a0 h else none).bind fun q6 => (if xk q6 a0 = some 11 then f_X12_empties a0 a1 a2 q6 else none).bind fun q7 => (f_X12_take_L129 xN a0 a1 a3 a4 (0 : Int32) q7).bind fun q12 => (if xk q12.2 a0 = some 11 then f_X12_allOnes a0 a1 q12.2 else none).bind fun q13 => (if xk q13.2 a0 = some 11 then f_X12_well a0 q13.1 q13.2 else none).bind fun q14 => some (q14.1, q14.2)) else ((xgR [11] h a0 2).bind fun v15 => (xaI h v15 (((40 : Int32) * a3) + a5)).bind fun v16 => (f_X12_in v16 (0 : Int32) (a2 - (1 : Int32)) h).bind fun q17 => if q17.1 = 0 then ((if xk q17.2 a0 = some 11 then f_X12_found a0 (2 : Int32) q17.2 else none).bind fun q18 => some (q18.1, q18.2)) else (f_X12_take_L75 n a0 a1 a2 a3 a4 (a5 + (1 : Int32)) q17.2))
def f_X12_take (a0 : Nat) (a1 : Int32) (a2 : Int32) (a3 : Int32) (a4 : Int32) (h : xH) : Option (Int32 × xH) := (f_X12_isVector a1 h).bind fun q1 => if q1.1 = 0 then (some ((-1000001 : Int32), q1.2)) else ((f_X12_isRow a3 q1.2).bind fun q2 => if q2.1 = 0 then (some ((-1000001 : Int32), q2.2)) else (if (480 : Int32) < a2 then (some ((-1000001 : Int32), q2.2)) else (if a4 ≤ (40 : Int32) then (if 0 ≤ a2 then ((if xk q2.2 a0 = some 11 then f_X12_isMissing a0 a3 q2.2 else none).bind fun q3 => if q3.1 = 0 then ((if xk q3.2 a0 = some 11 then f_X12_isPart a0 a3 (0 : Int32) a4 q3.2 else none).bind fun q4 => if q4.1 = 0 then ((if xk q4.2 a0 = some 11 then f_X12_found a0 (2 : Int32) q4.2 else none).bind fun q5 => some (q5.1, q5.2)) else (f_X12_take_L75 xN a0 a1 a2 a3 a4 (0 : Int32) q4.2)) else ((if xk q3.2 a0 = some 11 then f_X12_found a0 (1 : Int32) q3.2 else none).bind fun q19 => some (q19.1, q19.2))) else ((if xk q2.2 a0 = some 11 then f_X12_found a0 (4 : Int32) q2.2 else none).bind fun q20 => some (q20.1, q20.2))) else (some ((-1000001 : Int32), q2.2)))))
def f_X12_tell_L65 : Nat → Nat → Int32 → Int32 → Int32 → Int32 → Int32 → Int32 → xH → Option (Int32 × Int32 × Int32 × xH)
  | 0, _, _, _, _, _, _, _, _ => none
  | n + 1, a0, a1, a3, a4, a5, a6, a7, h => (if xk h a0 = some 11 then f_X12_bitsOf a0 a1 h else none).bind fun q8 => if q8.1 ≤ a7 then (some (a5, a6, a7, q8.2)) else ((xgR [11] q8.2 a0 13).bind fun v9 => (f_X12_bit v9 a1 a7 q8.2).bind fun q10 => if q10.1 = (1 : Int32) then (if a5 = 0 then ((xgR [11] q10.2 a0 1).bind fun v11 => (xaI q10.2 v11 a3).bind fun v12 => if v12 ≤ (a4 + a6) then (f_X12_tell_L65 n a0 a1 a3 a4 (a5 - (if a5 ≤ 0 then (0 : Int32) else (1 : Int32))) a6 (a7 + (1 : Int32)) q10.2) else ((xgR [11] q10.2 a0 2).bind fun v14 => (xgR [11] q10.2 a0 0).bind fun v15 => (xaI q10.2 v15 a3).bind fun v16 => (f_X12_lowest v16 a7 q10.2).bind fun q17 => (xuI q17.2 v14 ((((40 : Int32) * a3) + a4) + a6) q17.1).bind fun h18 => f_X12_tell_L65 n a0 a1 a3 a4 (a5 - (if a5 ≤ 0 then (0 : Int32) else (1 : Int32))) (a6 + (1 : Int32)) (a7 + (1 : Int32)) h18)) else (f_X12_tell_L65 n a0 a1 a3 a4 (a5 - (if a5 ≤ 0 then (0 : Int32) else (1 : Int32))) a6 (a7 + (1 : Int32)) q10.2)) else (f_X12_tell_L65 n a0 a1 a3 a4 a5 a6 (a7 + (1 : Int32)) q10.2))
def f_X12_tell (a0 : Nat) (a1 : Int32) (a2 : Int32) (a3 : Int32) (a4 : Int32) (h : xH) : Option (Int32 × xH) := (f_X12_isVector a1 h).bind fun q1 => if q1.1 = 0 then (some ((-1000001 : Int32), q1.2)) else (if a2 < 0 then (some ((-1000001 : Int32), q1.2)) else ((f_X12_isRow a3 q1.2).bind fun q2 => if q2.1 = 0 then (some ((-1000001 : Int32), q2.2)) else ((if xk q2.2 a0 = some 11 then f_X12_isMissing a0 a3 q2.2 else none).bind fun q3 => if q3.1 = 0 then ((xgR [11] q3.2 a0 1).bind fun v4 => (xaI q3.2 v4 a3).bind fun v5 => (f_X12_in a4 (0 : Int32) v5 q3.2).bind fun q6 => if q6.1 = 0 then ((if xk q6.2 a0 = some 11 then f_X12_found a0 (2 : Int32) q6.2 else none).bind fun q7 => some (q7.1, q7.2)) else ((f_X12_tell_L65 xN a0 a1 a3 a4 a2 (0 : Int32) (0 : Int32) q6.2).bind fun q21 => (if xk q21.2.2.2 a0 = some 11 then f_X12_well a0 q21.2.1 q21.2.2.2 else none).bind fun q22 => some (q22.1, q22.2))) else ((if xk q3.2 a0 = some 11 then f_X12_found a0 (1 : Int32) q3.2 else none).bind fun q23 => some (q23.1, q23.2)))))
def f_X12_trace (a0 : Nat) (a1 : Int32) (h : xH) : Option (Int32 × xH) := (xgI [11] h a0 27).bind fun v1 => (f_X12_in a1 (0 : Int32) (v1 - (1 : Int32)) h).bind fun q2 => if q2.1 = 0 then (some ((-1000000 : Int32), q2.2)) else ((xgR [11] q2.2 a0 26).bind fun v3 => (xaI q2.2 v3 a1).bind fun v4 => some (v4, q2.2))
def f_X12_turn_L16 : Nat → Nat → Int32 → Int32 → xH → Option (Int32 × xH)
  | 0, _, _, _, _ => none
  | n + 1, a0, a1, a2, h => (if xk h a0 = some 11 then f_X12_bitsOf a0 a1 h else none).bind fun q3 => if q3.1 ≤ a2 then (some (a2, q3.2)) else ((xgR [11] q3.2 a0 13).bind fun v4 => (xgR [11] q3.2 a0 13).bind fun v5 => (f_X12_bit v5 a1 a2 q3.2).bind fun q6 => (f_X12_puts v4 a1 a2 ((1 : Int32) - q6.1) q6.2).bind fun q7 => f_X12_turn_L16 n a0 a1 (a2 + (1 : Int32)) q7)
def f_X12_turn (a0 : Nat) (a1 : Int32) (h : xH) : Option (Int32 × xH) := (f_X12_isVector a1 h).bind fun q1 => if q1.1 = 0 then (some ((-1000001 : Int32), q1.2)) else ((if xk q1.2 a0 = some 11 then f_X12_notes a0 q1.2 else none).bind fun q2 => (f_X12_turn_L16 xN a0 a1 (0 : Int32) q2).bind fun q8 => (if xk q8.2 a0 = some 11 then f_X12_allOnes a0 a1 q8.2 else none).bind fun q9 => some (q9.1, q9.2))
def f_X12_undo (a0 : Nat) (h : xH) : Option (Int32 × xH) := (xgI [11] h a0 16).bind fun v1 => if v1 = 0 then (some ((-1000002 : Int32), h)) else ((xgI [11] h a0 16).bind fun v2 => (xpI [11] h a0 16 (v2 - (1 : Int32))).bind fun h3 => (xgR [11] h3 a0 15).bind fun v4 => (xgI [11] h3 a0 16).bind fun v5 => (xgR [11] h3 a0 13).bind fun v6 => (f_X12_copies v4 ((132 : Int32) * v5) v6 (0 : Int32) h3).bind fun q7 => (xgI [11] q7 a0 16).bind fun v8 => some (v8, q7))
def f_X12_weight_L15 : Nat → Nat → Int32 → Int32 → Int64 → Int32 → xH → Option (Int32 × xH)
  | 0, _, _, _, _, _, _ => none
  | n + 1, a0, a1, a2, a3, a5, h => (if xk h a0 = some 11 then f_X12_bitsOf a0 a1 h else none).bind fun q2 => if q2.1 ≤ a5 then ((if xk q2.2 a0 = some 11 then f_X12_well a0 a3.toInt32 q2.2 else none).bind fun q3 => some (q3.1, q3.2)) else ((xgR [11] q2.2 a0 13).bind fun v4 => (f_X12_bit v4 a1 a5 q2.2).bind fun q5 => if q5.1 = (1 : Int32) then ((f_X12_isInt ((a5.toInt64 + (1 : Int64)) * a2.toInt64) q5.2).bind fun q6 => if q6.1 = 0 then ((if xk q6.2 a0 = some 11 then f_X12_found a0 (6 : Int32) q6.2 else none).bind fun q7 => some (q7.1, q7.2)) else ((f_X12_isInt (a3 + ((a5.toInt64 + (1 : Int64)) * a2.toInt64)) q6.2).bind fun q8 => if q8.1 = 0 then ((if xk q8.2 a0 = some 11 then f_X12_found a0 (6 : Int32) q8.2 else none).bind fun q9 => some (q9.1, q9.2)) else (f_X12_weight_L15 n a0 a1 a2 (a3 + ((a5.toInt64 + (1 : Int64)) * a2.toInt64)) (a5 + (1 : Int32)) q8.2))) else (f_X12_weight_L15 n a0 a1 a2 a3 (a5 + (1 : Int32)) q5.2))
def f_X12_weight (a0 : Nat) (a1 : Int32) (a2 : Int32) (h : xH) : Option (Int32 × xH) := (f_X12_isVector a1 h).bind fun q1 => if q1.1 = 0 then (some ((-1000001 : Int32), q1.2)) else (f_X12_weight_L15 xN a0 a1 a2 (0 : Int64) (0 : Int32) q1.2)
end
section
theorem dX1_init_0 : decode cX1_init 0 = .ok (.aload_n 0, 1) := by decide +kernel
theorem dX1_init_1 : decode cX1_init 1 = .ok (.invokespecial 3, 3) := by decide +kernel
theorem dX1_init_4 : decode cX1_init 4 = .ok (.aload_n 0, 1) := by decide +kernel
theorem dX1_init_5 : decode cX1_init 5 = .ok (.bipush 32, 2) := by decide +kernel
theorem dX1_init_7 : decode cX1_init 7 = .ok (.newarray .int, 2) := by decide +kernel
theorem dX1_init_9 : decode cX1_init 9 = .ok (.putfield 9, 3) := by decide +kernel
theorem dX1_init_12 : decode cX1_init 12 = .ok (.return_, 1) := by decide +kernel
set_option maxRecDepth 20000 in
set_option maxHeartbeats 4000000 in
theorem W_X1_init (K : xK) (L : xL) (a0 : Nat) (h : xH) : Sim K L cX1_init RX1 "<init>" 1 1 (fun q : xH => q) (xRv cX1_init) 0 [(0, .ref a0)] [] h (f_X1_init a0 h) := by
  unfold f_X1_init
  refine S_aload_n (pc := 0) 0 rfl dX1_init_0 rfl ?_
  refine S_objInit (pc := 1) (Nat.le_of_ble_eq_true rfl) wd_77 wd_67 wd_68 (Nat.le_of_ble_eq_true rfl) dX1_init_1 ?_
  refine S_aload_n (pc := 4) 0 rfl dX1_init_4 rfl ?_
  refine S_bipush (pc := 5) dX1_init_5 bi_32 ?_
  refine S_newI (pc := 7) (N := 32) wd_88 (by decide) (by decide) (by decide) dX1_init_7 ?_
  refine S_putRF (pc := 9) fd_X1_masks wd_78 (fun _ => rfl) (fun _ => rfl) dX1_init_9 (fun h1 => ?_)
  exact Sim.fin ⟨dX1_init_12, rfl, rfl⟩ rfl
theorem M_X1_init (l : Launch) (a0 : Nat) (h : xH) {q : xH} (hq : f_X1_init a0 h = some q) : xM l yX1_init cX1_init 1 none 1 [.ref a0] h none q := xM_v (by decide +kernel) (Nat.le_of_ble_eq_true rfl) (fun K L => W_X1_init K L a0 h) hq
theorem dX3_init_0 : decode cX3_init 0 = .ok (.aload_n 0, 1) := by decide +kernel
theorem dX3_init_1 : decode cX3_init 1 = .ok (.invokespecial 3, 3) := by decide +kernel
theorem dX3_init_4 : decode cX3_init 4 = .ok (.aload_n 0, 1) := by decide +kernel
theorem dX3_init_5 : decode cX3_init 5 = .ok (.bipush 12, 2) := by decide +kernel
theorem dX3_init_7 : decode cX3_init 7 = .ok (.anewarray 9, 3) := by decide +kernel
theorem dX3_init_10 : decode cX3_init 10 = .ok (.putfield 11, 3) := by decide +kernel
theorem dX3_init_13 : decode cX3_init 13 = .ok (.aload_n 0, 1) := by decide +kernel
theorem dX3_init_14 : decode cX3_init 14 = .ok (.bipush 12, 2) := by decide +kernel
theorem dX3_init_16 : decode cX3_init 16 = .ok (.newarray .int, 2) := by decide +kernel
theorem dX3_init_18 : decode cX3_init 18 = .ok (.putfield 17, 3) := by decide +kernel
theorem dX3_init_21 : decode cX3_init 21 = .ok (.iconst 0, 1) := by decide +kernel
theorem dX3_init_22 : decode cX3_init 22 = .ok (.istore_n 1, 1) := by decide +kernel
theorem dX3_init_23 : decode cX3_init 23 = .ok (.iload_n 1, 1) := by decide +kernel
theorem dX3_init_24 : decode cX3_init 24 = .ok (.bipush 12, 2) := by decide +kernel
theorem dX3_init_26 : decode cX3_init 26 = .ok (.if_icmp .ge 22, 3) := by decide +kernel
theorem dX3_init_29 : decode cX3_init 29 = .ok (.aload_n 0, 1) := by decide +kernel
theorem dX3_init_30 : decode cX3_init 30 = .ok (.getfield 11, 3) := by decide +kernel
theorem dX3_init_33 : decode cX3_init 33 = .ok (.iload_n 1, 1) := by decide +kernel
theorem dX3_init_34 : decode cX3_init 34 = .ok (.new 9, 3) := by decide +kernel
theorem dX3_init_37 : decode cX3_init 37 = .ok (.dup, 1) := by decide +kernel
theorem dX3_init_38 : decode cX3_init 38 = .ok (.invokespecial 21, 3) := by decide +kernel
theorem dX3_init_41 : decode cX3_init 41 = .ok (.aastore, 1) := by decide +kernel
theorem dX3_init_42 : decode cX3_init 42 = .ok (.iinc 1 1, 3) := by decide +kernel
theorem dX3_init_45 : decode cX3_init 45 = .ok (.goto (-22), 3) := by decide +kernel
theorem dX3_init_48 : decode cX3_init 48 = .ok (.return_, 1) := by decide +kernel
set_option maxRecDepth 20000 in
set_option maxHeartbeats 4000000 in
theorem L_X3_init_23 (K : xK) (L : xL) : ∀ (n : Nat) (a0 : Nat) (a1 : Int32) (h : xH), Sim K L cX3_init RX3 "<init>" 2 2 (fun q : Int32 × xH => q.2) (fun q pc' ls' st' h' => pc' = 48 ∧ ls' = [(0, .ref a0), (1, .int q.1)] ∧ st' = [] ∧ h' = q.2) 23 [(0, .ref a0), (1, .int a1)] [] h (f_X3_init_L23 n a0 a1 h) := by
  intro n
  induction n with
  | zero =>
    intro a0 a1 h
    exact Sim.none
  | succ n ih =>
    intro a0 a1 h
    unfold f_X3_init_L23
    refine S_iload_n (pc := 23) 1 rfl dX3_init_23 rfl ?_
    refine S_bipush (pc := 24) dX3_init_24 bi_12 ?_
    refine S_icmp_ge (pc := 26) (tgt := 48) dX3_init_26 (by decide) ?_ ?_
    · refine S_sub [0, 1] rfl ?_
      exact Sim.fin ⟨rfl, rfl, rfl, rfl⟩ rfl
    · refine S_aload_n (pc := 29) 0 rfl dX3_init_29 rfl ?_
      refine S_getR (pc := 30) fd_X3_before wd_97 dX3_init_30 (fun v3 => ?_)
      refine S_iload_n (pc := 33) 1 rfl dX3_init_33 rfl ?_
      refine S_new (pc := 34) (ci := 1) (fs := [.null, .int 0]) rfl inG1 tyX1_ok wd_95 wd_73 wd_45 nf_1 rfl (fun _ => rfl) nc_1 dX3_init_34 ?_
      refine S_dup (pc := 37) rfl dX3_init_37 ?_
      refine S_call_v (pc := 38) (rest := [.ref h.length, .int a1, .ref v3]) (fun q hq => R_IN (host := RX11) (av := []) (M_X1_init _ h.length (h ++ [.inr (1, [.null, .int 0])]) hq) wd_76 (by decide +kernel) wd_75 wd_45 rfl hd_X1_init ⟨Nat.le_of_ble_eq_true rfl, Nat.le_of_ble_eq_true rfl⟩ rfl (Nat.le_of_ble_eq_true rfl) dX3_init_38) (fun _ h => List.mem_cons_of_mem _ (h)) (fun q4 => ?_)
      refine Sim.ite (fun hk7 => ?_) (fun _ => ?_)
      · refine S_uR (pc := 41) (fun _ => rfl) hk7 rfl (Or.inl rfl) dX3_init_41 (fun h6 => ?_)
        refine S_iinc (pc := 42) (v := a1 + (1 : Int32)) 1 rfl dX3_init_42 (x_inc ic_1) (Nat.le_of_ble_eq_true rfl) rfl ?_
        refine S_goto (pc := 45) (tgt := 23) dX3_init_45 (by decide) ?_
        refine S_sub [1, 0] rfl ?_
        exact ih a0 (a1 + (1 : Int32)) h6
      exact Sim.none
set_option maxRecDepth 20000 in
set_option maxHeartbeats 4000000 in
theorem W_X3_init (K : xK) (L : xL) (a0 : Nat) (h : xH) : Sim K L cX3_init RX3 "<init>" 2 2 (fun q : xH => q) (xRv cX3_init) 0 [(0, .ref a0)] [] h (f_X3_init a0 h) := by
  unfold f_X3_init
  refine S_aload_n (pc := 0) 0 rfl dX3_init_0 rfl ?_
  refine S_objInit (pc := 1) (Nat.le_of_ble_eq_true rfl) wd_94 wd_67 wd_68 (Nat.le_of_ble_eq_true rfl) dX3_init_1 ?_
  refine S_aload_n (pc := 4) 0 rfl dX3_init_4 rfl ?_
  refine S_bipush (pc := 5) dX3_init_5 bi_12 ?_
  refine S_newQ (pc := 7) (t := 3) (N := 12) (fun _ => rfl) (by decide +kernel) wd_95 (by decide) (by decide) (by decide) dX3_init_7 ?_
  refine S_putRF (pc := 10) fd_X3_before wd_97 (fun _ => rfl) (fun _ => rfl) dX3_init_10 (fun h1 => ?_)
  refine S_aload_n (pc := 13) 0 rfl dX3_init_13 rfl ?_
  refine S_bipush (pc := 14) dX3_init_14 bi_12 ?_
  refine S_newI (pc := 16) (N := 12) wd_88 (by decide) (by decide) (by decide) dX3_init_16 ?_
  refine S_putRF (pc := 18) fd_X3_changed wd_98 (fun _ => rfl) (fun _ => rfl) dX3_init_18 (fun h2 => ?_)
  refine S_iconst (pc := 21) dX3_init_21 ic_0 ?_
  refine S_istore_n (pc := 22) dX3_init_22 rfl (Nat.le_of_ble_eq_true rfl) rfl ?_
  refine S_sub [1, 0] rfl ?_
  refine Sim.bind (hs := fun q8 : Int32 × xH => q8.2) (px := 48) (lsx := fun q8 => [(0, .ref a0), (1, .int q8.1)]) (L_X3_init_23 K L xN a0 (0 : Int32) h2) (fun q8 => ?_)
  exact Sim.fin ⟨dX3_init_48, rfl, rfl⟩ rfl
theorem M_X3_init (l : Launch) (a0 : Nat) (h : xH) {q : xH} (hq : f_X3_init a0 h = some q) : xM l yX3_init cX3_init 2 none 2 [.ref a0] h none q := xM_v (by decide +kernel) (Nat.le_of_ble_eq_true rfl) (fun K L => W_X3_init K L a0 h) hq
theorem dX5_init_0 : decode cX5_init 0 = .ok (.aload_n 0, 1) := by decide +kernel
theorem dX5_init_1 : decode cX5_init 1 = .ok (.invokespecial 3, 3) := by decide +kernel
theorem dX5_init_4 : decode cX5_init 4 = .ok (.aload_n 0, 1) := by decide +kernel
theorem dX5_init_5 : decode cX5_init 5 = .ok (.bipush 40, 2) := by decide +kernel
theorem dX5_init_7 : decode cX5_init 7 = .ok (.newarray .int, 2) := by decide +kernel
theorem dX5_init_9 : decode cX5_init 9 = .ok (.putfield 9, 3) := by decide +kernel
theorem dX5_init_12 : decode cX5_init 12 = .ok (.aload_n 0, 1) := by decide +kernel
theorem dX5_init_13 : decode cX5_init 13 = .ok (.iconst 1, 1) := by decide +kernel
theorem dX5_init_14 : decode cX5_init 14 = .ok (.putfield 15, 3) := by decide +kernel
theorem dX5_init_17 : decode cX5_init 17 = .ok (.return_, 1) := by decide +kernel
set_option maxRecDepth 20000 in
set_option maxHeartbeats 4000000 in
theorem W_X5_init (K : xK) (L : xL) (a0 : Nat) (h : xH) : Sim K L cX5_init RX5 "<init>" 1 1 (fun q : xH => q) (xRv cX5_init) 0 [(0, .ref a0)] [] h (f_X5_init a0 h) := by
  unfold f_X5_init
  refine S_aload_n (pc := 0) 0 rfl dX5_init_0 rfl ?_
  refine S_objInit (pc := 1) (Nat.le_of_ble_eq_true rfl) wd_171 wd_67 wd_68 (Nat.le_of_ble_eq_true rfl) dX5_init_1 ?_
  refine S_aload_n (pc := 4) 0 rfl dX5_init_4 rfl ?_
  refine S_bipush (pc := 5) dX5_init_5 bi_40 ?_
  refine S_newI (pc := 7) (N := 40) wd_88 (by decide) (by decide) (by decide) dX5_init_7 ?_
  refine S_putRF (pc := 9) fd_X5_items wd_172 (fun _ => rfl) (fun _ => rfl) dX5_init_9 (fun h1 => ?_)
  refine S_aload_n (pc := 12) 0 rfl dX5_init_12 rfl ?_
  refine S_iconst (pc := 13) dX5_init_13 ic_1 ?_
  refine S_putI (pc := 14) fd_X5_missing wd_174 rfl rfl dX5_init_14 (fun h2 => ?_)
  exact Sim.fin ⟨dX5_init_17, rfl, rfl⟩ rfl
theorem M_X5_init (l : Launch) (a0 : Nat) (h : xH) {q : xH} (hq : f_X5_init a0 h = some q) : xM l yX5_init cX5_init 1 none 1 [.ref a0] h none q := xM_v (by decide +kernel) (Nat.le_of_ble_eq_true rfl) (fun K L => W_X5_init K L a0 h) hq
theorem dX7_init_0 : decode cX7_init 0 = .ok (.aload_n 0, 1) := by decide +kernel
theorem dX7_init_1 : decode cX7_init 1 = .ok (.invokespecial 3, 3) := by decide +kernel
theorem dX7_init_4 : decode cX7_init 4 = .ok (.aload_n 0, 1) := by decide +kernel
theorem dX7_init_5 : decode cX7_init 5 = .ok (.bipush 60, 2) := by decide +kernel
theorem dX7_init_7 : decode cX7_init 7 = .ok (.newarray .int, 2) := by decide +kernel
theorem dX7_init_9 : decode cX7_init 9 = .ok (.putfield 9, 3) := by decide +kernel
theorem dX7_init_12 : decode cX7_init 12 = .ok (.aload_n 0, 1) := by decide +kernel
theorem dX7_init_13 : decode cX7_init 13 = .ok (.bipush 12, 2) := by decide +kernel
theorem dX7_init_15 : decode cX7_init 15 = .ok (.newarray .int, 2) := by decide +kernel
theorem dX7_init_17 : decode cX7_init 17 = .ok (.putfield 15, 3) := by decide +kernel
theorem dX7_init_20 : decode cX7_init 20 = .ok (.aload_n 0, 1) := by decide +kernel
theorem dX7_init_21 : decode cX7_init 21 = .ok (.bipush 12, 2) := by decide +kernel
theorem dX7_init_23 : decode cX7_init 23 = .ok (.newarray .int, 2) := by decide +kernel
theorem dX7_init_25 : decode cX7_init 25 = .ok (.putfield 18, 3) := by decide +kernel
theorem dX7_init_28 : decode cX7_init 28 = .ok (.return_, 1) := by decide +kernel
set_option maxRecDepth 20000 in
set_option maxHeartbeats 4000000 in
theorem W_X7_init (K : xK) (L : xL) (a0 : Nat) (h : xH) : Sim K L cX7_init RX7 "<init>" 1 1 (fun q : xH => q) (xRv cX7_init) 0 [(0, .ref a0)] [] h (f_X7_init a0 h) := by
  unfold f_X7_init
  refine S_aload_n (pc := 0) 0 rfl dX7_init_0 rfl ?_
  refine S_objInit (pc := 1) (Nat.le_of_ble_eq_true rfl) wd_116 wd_67 wd_68 (Nat.le_of_ble_eq_true rfl) dX7_init_1 ?_
  refine S_aload_n (pc := 4) 0 rfl dX7_init_4 rfl ?_
  refine S_bipush (pc := 5) dX7_init_5 bi_60 ?_
  refine S_newI (pc := 7) (N := 60) wd_88 (by decide) (by decide) (by decide) dX7_init_7 ?_
  refine S_putRF (pc := 9) fd_X7_tape wd_117 (fun _ => rfl) (fun _ => rfl) dX7_init_9 (fun h1 => ?_)
  refine S_aload_n (pc := 12) 0 rfl dX7_init_12 rfl ?_
  refine S_bipush (pc := 13) dX7_init_13 bi_12 ?_
  refine S_newI (pc := 15) (N := 12) wd_88 (by decide) (by decide) (by decide) dX7_init_15 ?_
  refine S_putRF (pc := 17) fd_X7_kinds wd_118 (fun _ => rfl) (fun _ => rfl) dX7_init_17 (fun h2 => ?_)
  refine S_aload_n (pc := 20) 0 rfl dX7_init_20 rfl ?_
  refine S_bipush (pc := 21) dX7_init_21 bi_12 ?_
  refine S_newI (pc := 23) (N := 12) wd_88 (by decide) (by decide) (by decide) dX7_init_23 ?_
  refine S_putRF (pc := 25) fd_X7_lengths wd_120 (fun _ => rfl) (fun _ => rfl) dX7_init_25 (fun h3 => ?_)
  exact Sim.fin ⟨dX7_init_28, rfl, rfl⟩ rfl
theorem M_X7_init (l : Launch) (a0 : Nat) (h : xH) {q : xH} (hq : f_X7_init a0 h = some q) : xM l yX7_init cX7_init 1 none 1 [.ref a0] h none q := xM_v (by decide +kernel) (Nat.le_of_ble_eq_true rfl) (fun K L => W_X7_init K L a0 h) hq
theorem dX9_init_0 : decode cX9_init 0 = .ok (.aload_n 0, 1) := by decide +kernel
theorem dX9_init_1 : decode cX9_init 1 = .ok (.invokespecial 3, 3) := by decide +kernel
theorem dX9_init_4 : decode cX9_init 4 = .ok (.aload_n 0, 1) := by decide +kernel
theorem dX9_init_5 : decode cX9_init 5 = .ok (.bipush 16, 2) := by decide +kernel
theorem dX9_init_7 : decode cX9_init 7 = .ok (.newarray .int, 2) := by decide +kernel
theorem dX9_init_9 : decode cX9_init 9 = .ok (.putfield 9, 3) := by decide +kernel
theorem dX9_init_12 : decode cX9_init 12 = .ok (.return_, 1) := by decide +kernel
set_option maxRecDepth 20000 in
set_option maxHeartbeats 4000000 in
theorem W_X9_init (K : xK) (L : xL) (a0 : Nat) (h : xH) : Sim K L cX9_init RX9 "<init>" 1 1 (fun q : xH => q) (xRv cX9_init) 0 [(0, .ref a0)] [] h (f_X9_init a0 h) := by
  unfold f_X9_init
  refine S_aload_n (pc := 0) 0 rfl dX9_init_0 rfl ?_
  refine S_objInit (pc := 1) (Nat.le_of_ble_eq_true rfl) wd_157 wd_67 wd_68 (Nat.le_of_ble_eq_true rfl) dX9_init_1 ?_
  refine S_aload_n (pc := 4) 0 rfl dX9_init_4 rfl ?_
  refine S_bipush (pc := 5) dX9_init_5 bi_16 ?_
  refine S_newI (pc := 7) (N := 16) wd_88 (by decide) (by decide) (by decide) dX9_init_7 ?_
  refine S_putRF (pc := 9) fd_X9_numbers wd_158 (fun _ => rfl) (fun _ => rfl) dX9_init_9 (fun h1 => ?_)
  exact Sim.fin ⟨dX9_init_12, rfl, rfl⟩ rfl
theorem M_X9_init (l : Launch) (a0 : Nat) (h : xH) {q : xH} (hq : f_X9_init a0 h = some q) : xM l yX9_init cX9_init 1 none 1 [.ref a0] h none q := xM_v (by decide +kernel) (Nat.le_of_ble_eq_true rfl) (fun K L => W_X9_init K L a0 h) hq
theorem dX11_init_0 : decode cX11_init 0 = .ok (.aload_n 0, 1) := by decide +kernel
theorem dX11_init_1 : decode cX11_init 1 = .ok (.invokespecial 1, 3) := by decide +kernel
theorem dX11_init_4 : decode cX11_init 4 = .ok (.aload_n 0, 1) := by decide +kernel
theorem dX11_init_5 : decode cX11_init 5 = .ok (.bipush 8, 2) := by decide +kernel
theorem dX11_init_7 : decode cX11_init 7 = .ok (.anewarray 9, 3) := by decide +kernel
theorem dX11_init_10 : decode cX11_init 10 = .ok (.putfield 11, 3) := by decide +kernel
theorem dX11_init_13 : decode cX11_init 13 = .ok (.aload_n 0, 1) := by decide +kernel
theorem dX11_init_14 : decode cX11_init 14 = .ok (.iconst 4, 1) := by decide +kernel
theorem dX11_init_15 : decode cX11_init 15 = .ok (.anewarray 15, 3) := by decide +kernel
theorem dX11_init_18 : decode cX11_init 18 = .ok (.putfield 17, 3) := by decide +kernel
theorem dX11_init_21 : decode cX11_init 21 = .ok (.aload_n 0, 1) := by decide +kernel
theorem dX11_init_22 : decode cX11_init 22 = .ok (.bipush 8, 2) := by decide +kernel
theorem dX11_init_24 : decode cX11_init 24 = .ok (.anewarray 15, 3) := by decide +kernel
theorem dX11_init_27 : decode cX11_init 27 = .ok (.putfield 21, 3) := by decide +kernel
theorem dX11_init_30 : decode cX11_init 30 = .ok (.aload_n 0, 1) := by decide +kernel
theorem dX11_init_31 : decode cX11_init 31 = .ok (.iconst 2, 1) := by decide +kernel
theorem dX11_init_32 : decode cX11_init 32 = .ok (.newarray .boolean, 2) := by decide +kernel
theorem dX11_init_34 : decode cX11_init 34 = .ok (.putfield 24, 3) := by decide +kernel
theorem dX11_init_37 : decode cX11_init 37 = .ok (.aload_n 0, 1) := by decide +kernel
theorem dX11_init_38 : decode cX11_init 38 = .ok (.new 15, 3) := by decide +kernel
theorem dX11_init_41 : decode cX11_init 41 = .ok (.dup, 1) := by decide +kernel
theorem dX11_init_42 : decode cX11_init 42 = .ok (.invokespecial 28, 3) := by decide +kernel
theorem dX11_init_45 : decode cX11_init 45 = .ok (.putfield 29, 3) := by decide +kernel
theorem dX11_init_48 : decode cX11_init 48 = .ok (.aload_n 0, 1) := by decide +kernel
theorem dX11_init_49 : decode cX11_init 49 = .ok (.new 33, 3) := by decide +kernel
theorem dX11_init_52 : decode cX11_init 52 = .ok (.dup, 1) := by decide +kernel
theorem dX11_init_53 : decode cX11_init 53 = .ok (.invokespecial 35, 3) := by decide +kernel
theorem dX11_init_56 : decode cX11_init 56 = .ok (.putfield 36, 3) := by decide +kernel
theorem dX11_init_59 : decode cX11_init 59 = .ok (.aload_n 0, 1) := by decide +kernel
theorem dX11_init_60 : decode cX11_init 60 = .ok (.new 40, 3) := by decide +kernel
theorem dX11_init_63 : decode cX11_init 63 = .ok (.dup, 1) := by decide +kernel
theorem dX11_init_64 : decode cX11_init 64 = .ok (.invokespecial 42, 3) := by decide +kernel
theorem dX11_init_67 : decode cX11_init 67 = .ok (.putfield 43, 3) := by decide +kernel
theorem dX11_init_70 : decode cX11_init 70 = .ok (.aload_n 0, 1) := by decide +kernel
theorem dX11_init_71 : decode cX11_init 71 = .ok (.bipush 12, 2) := by decide +kernel
theorem dX11_init_73 : decode cX11_init 73 = .ok (.anewarray 47, 3) := by decide +kernel
theorem dX11_init_76 : decode cX11_init 76 = .ok (.putfield 49, 3) := by decide +kernel
theorem dX11_init_79 : decode cX11_init 79 = .ok (.aload_n 0, 1) := by decide +kernel
theorem dX11_init_80 : decode cX11_init 80 = .ok (.new 53, 3) := by decide +kernel
theorem dX11_init_83 : decode cX11_init 83 = .ok (.dup, 1) := by decide +kernel
theorem dX11_init_84 : decode cX11_init 84 = .ok (.invokespecial 55, 3) := by decide +kernel
theorem dX11_init_87 : decode cX11_init 87 = .ok (.putfield 56, 3) := by decide +kernel
theorem dX11_init_90 : decode cX11_init 90 = .ok (.iconst 0, 1) := by decide +kernel
theorem dX11_init_91 : decode cX11_init 91 = .ok (.istore_n 1, 1) := by decide +kernel
theorem dX11_init_92 : decode cX11_init 92 = .ok (.iload_n 1, 1) := by decide +kernel
theorem dX11_init_93 : decode cX11_init 93 = .ok (.bipush 8, 2) := by decide +kernel
theorem dX11_init_95 : decode cX11_init 95 = .ok (.if_icmp .ge 22, 3) := by decide +kernel
theorem dX11_init_98 : decode cX11_init 98 = .ok (.aload_n 0, 1) := by decide +kernel
theorem dX11_init_99 : decode cX11_init 99 = .ok (.getfield 11, 3) := by decide +kernel
theorem dX11_init_102 : decode cX11_init 102 = .ok (.iload_n 1, 1) := by decide +kernel
theorem dX11_init_103 : decode cX11_init 103 = .ok (.new 9, 3) := by decide +kernel
theorem dX11_init_106 : decode cX11_init 106 = .ok (.dup, 1) := by decide +kernel
theorem dX11_init_107 : decode cX11_init 107 = .ok (.invokespecial 60, 3) := by decide +kernel
theorem dX11_init_110 : decode cX11_init 110 = .ok (.aastore, 1) := by decide +kernel
theorem dX11_init_111 : decode cX11_init 111 = .ok (.iinc 1 1, 3) := by decide +kernel
theorem dX11_init_114 : decode cX11_init 114 = .ok (.goto (-22), 3) := by decide +kernel
theorem dX11_init_117 : decode cX11_init 117 = .ok (.iconst 0, 1) := by decide +kernel
theorem dX11_init_118 : decode cX11_init 118 = .ok (.istore_n 1, 1) := by decide +kernel
theorem dX11_init_119 : decode cX11_init 119 = .ok (.iload_n 1, 1) := by decide +kernel
theorem dX11_init_120 : decode cX11_init 120 = .ok (.iconst 4, 1) := by decide +kernel
theorem dX11_init_121 : decode cX11_init 121 = .ok (.if_icmp .ge 22, 3) := by decide +kernel
theorem dX11_init_124 : decode cX11_init 124 = .ok (.aload_n 0, 1) := by decide +kernel
theorem dX11_init_125 : decode cX11_init 125 = .ok (.getfield 17, 3) := by decide +kernel
theorem dX11_init_128 : decode cX11_init 128 = .ok (.iload_n 1, 1) := by decide +kernel
theorem dX11_init_129 : decode cX11_init 129 = .ok (.new 15, 3) := by decide +kernel
theorem dX11_init_132 : decode cX11_init 132 = .ok (.dup, 1) := by decide +kernel
theorem dX11_init_133 : decode cX11_init 133 = .ok (.invokespecial 28, 3) := by decide +kernel
theorem dX11_init_136 : decode cX11_init 136 = .ok (.aastore, 1) := by decide +kernel
theorem dX11_init_137 : decode cX11_init 137 = .ok (.iinc 1 1, 3) := by decide +kernel
theorem dX11_init_140 : decode cX11_init 140 = .ok (.goto (-21), 3) := by decide +kernel
theorem dX11_init_143 : decode cX11_init 143 = .ok (.iconst 0, 1) := by decide +kernel
theorem dX11_init_144 : decode cX11_init 144 = .ok (.istore_n 1, 1) := by decide +kernel
theorem dX11_init_145 : decode cX11_init 145 = .ok (.iload_n 1, 1) := by decide +kernel
theorem dX11_init_146 : decode cX11_init 146 = .ok (.bipush 8, 2) := by decide +kernel
theorem dX11_init_148 : decode cX11_init 148 = .ok (.if_icmp .ge 22, 3) := by decide +kernel
theorem dX11_init_151 : decode cX11_init 151 = .ok (.aload_n 0, 1) := by decide +kernel
theorem dX11_init_152 : decode cX11_init 152 = .ok (.getfield 21, 3) := by decide +kernel
theorem dX11_init_155 : decode cX11_init 155 = .ok (.iload_n 1, 1) := by decide +kernel
theorem dX11_init_156 : decode cX11_init 156 = .ok (.new 15, 3) := by decide +kernel
theorem dX11_init_159 : decode cX11_init 159 = .ok (.dup, 1) := by decide +kernel
theorem dX11_init_160 : decode cX11_init 160 = .ok (.invokespecial 28, 3) := by decide +kernel
theorem dX11_init_163 : decode cX11_init 163 = .ok (.aastore, 1) := by decide +kernel
theorem dX11_init_164 : decode cX11_init 164 = .ok (.iinc 1 1, 3) := by decide +kernel
theorem dX11_init_167 : decode cX11_init 167 = .ok (.goto (-22), 3) := by decide +kernel
theorem dX11_init_170 : decode cX11_init 170 = .ok (.return_, 1) := by decide +kernel
set_option maxRecDepth 20000 in
set_option maxHeartbeats 4000000 in
theorem L_X11_init_92 (K : xK) (L : xL) : ∀ (n : Nat) (a0 : Nat) (a1 : Int32) (h : xH), Sim K L cX11_init RX11 "<init>" 2 3 (fun q : Int32 × xH => q.2) (fun q pc' ls' st' h' => pc' = 117 ∧ ls' = [(0, .ref a0), (1, .int q.1)] ∧ st' = [] ∧ h' = q.2) 92 [(0, .ref a0), (1, .int a1)] [] h (f_X11_init_L92 n a0 a1 h) := by
  intro n
  induction n with
  | zero =>
    intro a0 a1 h
    exact Sim.none
  | succ n ih =>
    intro a0 a1 h
    unfold f_X11_init_L92
    refine S_iload_n (pc := 92) 1 rfl dX11_init_92 rfl ?_
    refine S_bipush (pc := 93) dX11_init_93 bi_8 ?_
    refine S_icmp_ge (pc := 95) (tgt := 117) dX11_init_95 (by decide) ?_ ?_
    · refine S_sub [0, 1] rfl ?_
      exact Sim.fin ⟨rfl, rfl, rfl, rfl⟩ rfl
    · refine S_aload_n (pc := 98) 0 rfl dX11_init_98 rfl ?_
      refine S_getR (pc := 99) fd_X11_rows wd_189 dX11_init_99 (fun v14 => ?_)
      refine S_iload_n (pc := 102) 1 rfl dX11_init_102 rfl ?_
      refine S_new (pc := 103) (ci := 5) (fs := [.null, .int 0, .int 0, .int 0]) rfl inG5 tyX5_ok wd_69 wd_167 wd_49 nf_5 rfl (fun _ => rfl) nc_5 dX11_init_103 ?_
      refine S_dup (pc := 106) rfl dX11_init_106 ?_
      refine S_call_v (pc := 107) (rest := [.ref h.length, .int a1, .ref v14]) (fun q hq => R_IN (host := RX11) (av := []) (M_X5_init _ h.length (h ++ [.inr (5, [.null, .int 0, .int 0, .int 0])]) hq) wd_170 (by decide +kernel) wd_169 wd_49 rfl hd_X5_init ⟨Nat.le_of_ble_eq_true rfl, Nat.le_of_ble_eq_true rfl⟩ rfl (Nat.le_of_ble_eq_true rfl) dX11_init_107) (fun _ h => List.mem_cons_of_mem _ (h)) (fun q15 => ?_)
      refine Sim.ite (fun hk18 => ?_) (fun _ => ?_)
      · refine S_uR (pc := 110) (fun _ => rfl) hk18 rfl (Or.inl rfl) dX11_init_110 (fun h17 => ?_)
        refine S_iinc (pc := 111) (v := a1 + (1 : Int32)) 1 rfl dX11_init_111 (x_inc ic_1) (Nat.le_of_ble_eq_true rfl) rfl ?_
        refine S_goto (pc := 114) (tgt := 92) dX11_init_114 (by decide) ?_
        refine S_sub [1, 0] rfl ?_
        exact ih a0 (a1 + (1 : Int32)) h17
      exact Sim.none
set_option maxRecDepth 20000 in
set_option maxHeartbeats 4000000 in
theorem L_X11_init_119 (K : xK) (L : xL) : ∀ (n : Nat) (a0 : Nat) (a1 : Int32) (h : xH), Sim K L cX11_init RX11 "<init>" 2 3 (fun q : Int32 × xH => q.2) (fun q pc' ls' st' h' => pc' = 143 ∧ ls' = [(0, .ref a0), (1, .int q.1)] ∧ st' = [] ∧ h' = q.2) 119 [(0, .ref a0), (1, .int a1)] [] h (f_X11_init_L119 n a0 a1 h) := by
  intro n
  induction n with
  | zero =>
    intro a0 a1 h
    exact Sim.none
  | succ n ih =>
    intro a0 a1 h
    unfold f_X11_init_L119
    refine S_iload_n (pc := 119) 1 rfl dX11_init_119 rfl ?_
    refine S_iconst (pc := 120) dX11_init_120 ic_4 ?_
    refine S_icmp_ge (pc := 121) (tgt := 143) dX11_init_121 (by decide) ?_ ?_
    · refine S_sub [0, 1] rfl ?_
      exact Sim.fin ⟨rfl, rfl, rfl, rfl⟩ rfl
    · refine S_aload_n (pc := 124) 0 rfl dX11_init_124 rfl ?_
      refine S_getR (pc := 125) fd_X11_vectors wd_190 dX11_init_125 (fun v20 => ?_)
      refine S_iload_n (pc := 128) 1 rfl dX11_init_128 rfl ?_
      refine S_new (pc := 129) (ci := 1) (fs := [.null, .int 0]) rfl inG1 tyX1_ok wd_71 wd_73 wd_45 nf_1 rfl (fun _ => rfl) nc_1 dX11_init_129 ?_
      refine S_dup (pc := 132) rfl dX11_init_132 ?_
      refine S_call_v (pc := 133) (rest := [.ref h.length, .int a1, .ref v20]) (fun q hq => R_IN (host := RX11) (av := []) (M_X1_init _ h.length (h ++ [.inr (1, [.null, .int 0])]) hq) wd_76 (by decide +kernel) wd_75 wd_45 rfl hd_X1_init ⟨Nat.le_of_ble_eq_true rfl, Nat.le_of_ble_eq_true rfl⟩ rfl (Nat.le_of_ble_eq_true rfl) dX11_init_133) (fun _ h => List.mem_cons_of_mem _ (h)) (fun q21 => ?_)
      refine Sim.ite (fun hk24 => ?_) (fun _ => ?_)
      · refine S_uR (pc := 136) (fun _ => rfl) hk24 rfl (Or.inl rfl) dX11_init_136 (fun h23 => ?_)
        refine S_iinc (pc := 137) (v := a1 + (1 : Int32)) 1 rfl dX11_init_137 (x_inc ic_1) (Nat.le_of_ble_eq_true rfl) rfl ?_
        refine S_goto (pc := 140) (tgt := 119) dX11_init_140 (by decide) ?_
        refine S_sub [1, 0] rfl ?_
        exact ih a0 (a1 + (1 : Int32)) h23
      exact Sim.none
set_option maxRecDepth 20000 in
set_option maxHeartbeats 4000000 in
theorem L_X11_init_145 (K : xK) (L : xL) : ∀ (n : Nat) (a0 : Nat) (a1 : Int32) (h : xH), Sim K L cX11_init RX11 "<init>" 2 3 (fun q : Int32 × xH => q.2) (fun q pc' ls' st' h' => pc' = 170 ∧ ls' = [(0, .ref a0), (1, .int q.1)] ∧ st' = [] ∧ h' = q.2) 145 [(0, .ref a0), (1, .int a1)] [] h (f_X11_init_L145 n a0 a1 h) := by
  intro n
  induction n with
  | zero =>
    intro a0 a1 h
    exact Sim.none
  | succ n ih =>
    intro a0 a1 h
    unfold f_X11_init_L145
    refine S_iload_n (pc := 145) 1 rfl dX11_init_145 rfl ?_
    refine S_bipush (pc := 146) dX11_init_146 bi_8 ?_
    refine S_icmp_ge (pc := 148) (tgt := 170) dX11_init_148 (by decide) ?_ ?_
    · refine S_sub [0, 1] rfl ?_
      exact Sim.fin ⟨rfl, rfl, rfl, rfl⟩ rfl
    · refine S_aload_n (pc := 151) 0 rfl dX11_init_151 rfl ?_
      refine S_getR (pc := 152) fd_X11_images wd_191 dX11_init_152 (fun v26 => ?_)
      refine S_iload_n (pc := 155) 1 rfl dX11_init_155 rfl ?_
      refine S_new (pc := 156) (ci := 1) (fs := [.null, .int 0]) rfl inG1 tyX1_ok wd_71 wd_73 wd_45 nf_1 rfl (fun _ => rfl) nc_1 dX11_init_156 ?_
      refine S_dup (pc := 159) rfl dX11_init_159 ?_
      refine S_call_v (pc := 160) (rest := [.ref h.length, .int a1, .ref v26]) (fun q hq => R_IN (host := RX11) (av := []) (M_X1_init _ h.length (h ++ [.inr (1, [.null, .int 0])]) hq) wd_76 (by decide +kernel) wd_75 wd_45 rfl hd_X1_init ⟨Nat.le_of_ble_eq_true rfl, Nat.le_of_ble_eq_true rfl⟩ rfl (Nat.le_of_ble_eq_true rfl) dX11_init_160) (fun _ h => List.mem_cons_of_mem _ (h)) (fun q27 => ?_)
      refine Sim.ite (fun hk30 => ?_) (fun _ => ?_)
      · refine S_uR (pc := 163) (fun _ => rfl) hk30 rfl (Or.inl rfl) dX11_init_163 (fun h29 => ?_)
        refine S_iinc (pc := 164) (v := a1 + (1 : Int32)) 1 rfl dX11_init_164 (x_inc ic_1) (Nat.le_of_ble_eq_true rfl) rfl ?_
        refine S_goto (pc := 167) (tgt := 145) dX11_init_167 (by decide) ?_
        refine S_sub [1, 0] rfl ?_
        exact ih a0 (a1 + (1 : Int32)) h29
      exact Sim.none
set_option maxRecDepth 20000 in
set_option maxHeartbeats 4000000 in
theorem W_X11_init (K : xK) (L : xL) (a0 : Nat) (h : xH) : Sim K L cX11_init RX11 "<init>" 2 3 (fun q : xH => q) (xRv cX11_init) 0 [(0, .ref a0)] [] h (f_X11_init a0 h) := by
  unfold f_X11_init
  refine S_aload_n (pc := 0) 0 rfl dX11_init_0 rfl ?_
  refine S_objInit (pc := 1) (Nat.le_of_ble_eq_true rfl) wd_66 wd_67 wd_68 (Nat.le_of_ble_eq_true rfl) dX11_init_1 ?_
  refine S_aload_n (pc := 4) 0 rfl dX11_init_4 rfl ?_
  refine S_bipush (pc := 5) dX11_init_5 bi_8 ?_
  refine S_newQ (pc := 7) (t := 2) (N := 8) (fun _ => rfl) (by decide +kernel) wd_69 (by decide) (by decide) (by decide) dX11_init_7 ?_
  refine S_putRF (pc := 10) fd_X11_rows wd_189 (fun _ => rfl) (fun _ => rfl) dX11_init_10 (fun h1 => ?_)
  refine S_aload_n (pc := 13) 0 rfl dX11_init_13 rfl ?_
  refine S_iconst (pc := 14) dX11_init_14 ic_4 ?_
  refine S_newQ (pc := 15) (t := 3) (N := 4) (fun _ => rfl) (by decide +kernel) wd_71 (by decide) (by decide) (by decide) dX11_init_15 ?_
  refine S_putRF (pc := 18) fd_X11_vectors wd_190 (fun _ => rfl) (fun _ => rfl) dX11_init_18 (fun h2 => ?_)
  refine S_aload_n (pc := 21) 0 rfl dX11_init_21 rfl ?_
  refine S_bipush (pc := 22) dX11_init_22 bi_8 ?_
  refine S_newQ (pc := 24) (t := 3) (N := 8) (fun _ => rfl) (by decide +kernel) wd_71 (by decide) (by decide) (by decide) dX11_init_24 ?_
  refine S_putRF (pc := 27) fd_X11_images wd_191 (fun _ => rfl) (fun _ => rfl) dX11_init_27 (fun h3 => ?_)
  refine S_aload_n (pc := 30) 0 rfl dX11_init_30 rfl ?_
  refine S_iconst (pc := 31) dX11_init_31 ic_2 ?_
  refine S_newZ (pc := 32) (N := 2) wd_87 (by decide) (by decide) (by decide) dX11_init_32 ?_
  refine S_putRF (pc := 34) fd_X11_imageKept wd_192 (fun _ => rfl) (fun _ => rfl) dX11_init_34 (fun h4 => ?_)
  refine S_aload_n (pc := 37) 0 rfl dX11_init_37 rfl ?_
  refine S_new (pc := 38) (ci := 1) (fs := [.null, .int 0]) rfl inG1 tyX1_ok wd_71 wd_73 wd_45 nf_1 rfl (fun _ => rfl) nc_1 dX11_init_38 ?_
  refine S_dup (pc := 41) rfl dX11_init_41 ?_
  refine S_call_v (pc := 42) (rest := [.ref h4.length, .ref a0]) (fun q hq => R_IN (host := RX11) (av := []) (M_X1_init _ h4.length (h4 ++ [.inr (1, [.null, .int 0])]) hq) wd_76 (by decide +kernel) wd_75 wd_45 rfl hd_X1_init ⟨Nat.le_of_ble_eq_true rfl, Nat.le_of_ble_eq_true rfl⟩ rfl (Nat.le_of_ble_eq_true rfl) dX11_init_42) (fun _ h => List.mem_cons_of_mem _ (h)) (fun q5 => ?_)
  refine S_putRF (pc := 45) fd_X11_scratch wd_193 (fun _ => rfl) (fun _ => rfl) dX11_init_45 (fun h6 => ?_)
  refine S_aload_n (pc := 48) 0 rfl dX11_init_48 rfl ?_
  refine S_new (pc := 49) (ci := 3) (fs := [.null, .null, .int 0, .int 0]) rfl inG3 tyX3_ok wd_89 wd_90 wd_46 nf_3 rfl (fun _ => rfl) nc_3 dX11_init_49 ?_
  refine S_dup (pc := 52) rfl dX11_init_52 ?_
  refine S_call_v (pc := 53) (rest := [.ref h6.length, .ref a0]) (fun q hq => R_I (av := []) (M_X3_init _ h6.length (h6 ++ [.inr (3, [.null, .null, .int 0, .int 0])]) hq) wd_93 wd_91 wd_92 wd_46 rfl hd_X3_init ⟨Nat.le_of_ble_eq_true rfl, Nat.le_of_ble_eq_true rfl⟩ rfl (Nat.le_of_ble_eq_true rfl) dX11_init_53) (fun _ h => List.mem_cons_of_mem _ (h)) (fun q7 => ?_)
  refine S_putRF (pc := 56) fd_X11_history wd_194 (fun _ => rfl) (fun _ => rfl) dX11_init_56 (fun h8 => ?_)
  refine S_aload_n (pc := 59) 0 rfl dX11_init_59 rfl ?_
  refine S_new (pc := 60) (ci := 6) (fs := [.null, .null, .null, .int 0, .int 0, .int 0, .int 0, .int 0, .int 0]) rfl inG7 tyX7_ok wd_111 wd_112 wd_47 nf_6 rfl (fun _ => rfl) nc_6 dX11_init_60 ?_
  refine S_dup (pc := 63) rfl dX11_init_63 ?_
  refine S_call_v (pc := 64) (rest := [.ref h8.length, .ref a0]) (fun q hq => R_IN (host := RX11) (av := []) (M_X7_init _ h8.length (h8 ++ [.inr (6, [.null, .null, .null, .int 0, .int 0, .int 0, .int 0, .int 0, .int 0])]) hq) wd_115 (by decide +kernel) wd_114 wd_47 rfl hd_X7_init ⟨Nat.le_of_ble_eq_true rfl, Nat.le_of_ble_eq_true rfl⟩ rfl (Nat.le_of_ble_eq_true rfl) dX11_init_64) (fun _ h => List.mem_cons_of_mem _ (h)) (fun q9 => ?_)
  refine S_putRF (pc := 67) fd_X11_reader wd_195 (fun _ => rfl) (fun _ => rfl) dX11_init_67 (fun h10 => ?_)
  refine S_aload_n (pc := 70) 0 rfl dX11_init_70 rfl ?_
  refine S_bipush (pc := 71) dX11_init_71 bi_12 ?_
  refine S_newQ (pc := 73) (t := 4) (N := 12) (fun _ => rfl) (by decide +kernel) wd_150 (by decide) (by decide) (by decide) dX11_init_73 ?_
  refine S_putRF (pc := 76) fd_X11_runs wd_196 (fun _ => rfl) (fun _ => rfl) dX11_init_76 (fun h11 => ?_)
  refine S_aload_n (pc := 79) 0 rfl dX11_init_79 rfl ?_
  refine S_new (pc := 80) (ci := 8) (fs := [.null, .int 0]) rfl inG9 tyX9_ok wd_152 wd_153 wd_48 nf_8 rfl (fun _ => rfl) nc_8 dX11_init_80 ?_
  refine S_dup (pc := 83) rfl dX11_init_83 ?_
  refine S_call_v (pc := 84) (rest := [.ref h11.length, .ref a0]) (fun q hq => R_IN (host := RX11) (av := []) (M_X9_init _ h11.length (h11 ++ [.inr (8, [.null, .int 0])]) hq) wd_156 (by decide +kernel) wd_155 wd_48 rfl hd_X9_init ⟨Nat.le_of_ble_eq_true rfl, Nat.le_of_ble_eq_true rfl⟩ rfl (Nat.le_of_ble_eq_true rfl) dX11_init_84) (fun _ h => List.mem_cons_of_mem _ (h)) (fun q12 => ?_)
  refine S_putRF (pc := 87) fd_X11_asked wd_197 (fun _ => rfl) (fun _ => rfl) dX11_init_87 (fun h13 => ?_)
  refine S_iconst (pc := 90) dX11_init_90 ic_0 ?_
  refine S_istore_n (pc := 91) dX11_init_91 rfl (Nat.le_of_ble_eq_true rfl) rfl ?_
  refine S_sub [1, 0] rfl ?_
  refine Sim.bind (hs := fun q19 : Int32 × xH => q19.2) (px := 117) (lsx := fun q19 => [(0, .ref a0), (1, .int q19.1)]) (L_X11_init_92 K L xN a0 (0 : Int32) h13) (fun q19 => ?_)
  refine S_iconst (pc := 117) dX11_init_117 ic_0 ?_
  refine S_istore_n (pc := 118) dX11_init_118 rfl (Nat.le_of_ble_eq_true rfl) rfl ?_
  refine S_sub [1, 0] rfl ?_
  refine Sim.bind (hs := fun q25 : Int32 × xH => q25.2) (px := 143) (lsx := fun q25 => [(0, .ref a0), (1, .int q25.1)]) (L_X11_init_119 K L xN a0 (0 : Int32) q19.2) (fun q25 => ?_)
  refine S_iconst (pc := 143) dX11_init_143 ic_0 ?_
  refine S_istore_n (pc := 144) dX11_init_144 rfl (Nat.le_of_ble_eq_true rfl) rfl ?_
  refine S_sub [1, 0] rfl ?_
  refine Sim.bind (hs := fun q31 : Int32 × xH => q31.2) (px := 170) (lsx := fun q31 => [(0, .ref a0), (1, .int q31.1)]) (L_X11_init_145 K L xN a0 (0 : Int32) q25.2) (fun q31 => ?_)
  exact Sim.fin ⟨dX11_init_170, rfl, rfl⟩ rfl
theorem M_X11_init (l : Launch) (a0 : Nat) (h : xH) {q : xH} (hq : f_X11_init a0 h = some q) : xM l yX11_init cX11_init 2 none 3 [.ref a0] h none q := xM_v (by decide +kernel) (Nat.le_of_ble_eq_true rfl) (fun K L => W_X11_init K L a0 h) hq
theorem dX11_isValue_0 : decode cX11_isValue 0 = .ok (.iload_n 0, 1) := by decide +kernel
theorem dX11_isValue_1 : decode cX11_isValue 1 = .ok (.ifCond .eq 8, 3) := by decide +kernel
theorem dX11_isValue_4 : decode cX11_isValue 4 = .ok (.iload_n 0, 1) := by decide +kernel
theorem dX11_isValue_5 : decode cX11_isValue 5 = .ok (.iconst 1, 1) := by decide +kernel
theorem dX11_isValue_6 : decode cX11_isValue 6 = .ok (.if_icmp .ne 7, 3) := by decide +kernel
theorem dX11_isValue_9 : decode cX11_isValue 9 = .ok (.iconst 1, 1) := by decide +kernel
theorem dX11_isValue_10 : decode cX11_isValue 10 = .ok (.goto 4, 3) := by decide +kernel
theorem dX11_isValue_13 : decode cX11_isValue 13 = .ok (.iconst 0, 1) := by decide +kernel
theorem dX11_isValue_14 : decode cX11_isValue 14 = .ok (.ireturn, 1) := by decide +kernel
set_option maxRecDepth 20000 in
set_option maxHeartbeats 4000000 in
theorem W_X11_isValue (K : xK) (L : xL) (a0 : Int32) (h : xH) : Sim K L cX11_isValue RX11 "isValue" 1 0 (fun q : Int32 × xH => q.2) (xRz cX11_isValue) 0 [(0, .int a0)] [] h (f_X11_isValue a0 h) := by
  unfold f_X11_isValue
  refine S_iload_n (pc := 0) 0 rfl dX11_isValue_0 rfl ?_
  refine S_if_eq (pc := 1) (tgt := 9) dX11_isValue_1 (by decide) ?_ ?_
  · refine S_iconst (pc := 9) dX11_isValue_9 ic_1 ?_
    refine S_goto (pc := 10) (tgt := 14) dX11_isValue_10 (by decide) ?_
    exact Sim.fin ⟨dX11_isValue_14, rfl, rfl, x_nar (Or.inr rfl)⟩ rfl
  · refine S_iload_n (pc := 4) 0 rfl dX11_isValue_4 rfl ?_
    refine S_iconst (pc := 5) dX11_isValue_5 ic_1 ?_
    refine S_icmp_ne (pc := 6) (tgt := 13) dX11_isValue_6 (by decide) ?_ ?_
    · refine S_iconst (pc := 9) dX11_isValue_9 ic_1 ?_
      refine S_goto (pc := 10) (tgt := 14) dX11_isValue_10 (by decide) ?_
      exact Sim.fin ⟨dX11_isValue_14, rfl, rfl, x_nar (Or.inr rfl)⟩ rfl
    · refine S_iconst (pc := 13) dX11_isValue_13 ic_0 ?_
      exact Sim.fin ⟨dX11_isValue_14, rfl, rfl, x_nar (Or.inl rfl)⟩ rfl
theorem M_X11_isValue (l : Launch) (a0 : Int32) (h : xH) {q : Int32 × xH} (hq : f_X11_isValue a0 h = some q) : xM l yX11_isValue cX11_isValue 1 (some .boolean) 0 [.int a0] h (some (.int q.1)) q.2 := xM_z (by decide +kernel) (Nat.le_of_ble_eq_true rfl) (fun K L => W_X11_isValue K L a0 h) hq
theorem dX11_isVector_0 : decode cX11_isVector 0 = .ok (.iload_n 0, 1) := by decide +kernel
theorem dX11_isVector_1 : decode cX11_isVector 1 = .ok (.ifCond .lt 12, 3) := by decide +kernel
theorem dX11_isVector_4 : decode cX11_isVector 4 = .ok (.iload_n 0, 1) := by decide +kernel
theorem dX11_isVector_5 : decode cX11_isVector 5 = .ok (.iconst 4, 1) := by decide +kernel
theorem dX11_isVector_6 : decode cX11_isVector 6 = .ok (.if_icmp .ge 7, 3) := by decide +kernel
theorem dX11_isVector_9 : decode cX11_isVector 9 = .ok (.iconst 1, 1) := by decide +kernel
theorem dX11_isVector_10 : decode cX11_isVector 10 = .ok (.goto 4, 3) := by decide +kernel
theorem dX11_isVector_13 : decode cX11_isVector 13 = .ok (.iconst 0, 1) := by decide +kernel
theorem dX11_isVector_14 : decode cX11_isVector 14 = .ok (.ireturn, 1) := by decide +kernel
set_option maxRecDepth 20000 in
set_option maxHeartbeats 4000000 in
theorem W_X11_isVector (K : xK) (L : xL) (a0 : Int32) (h : xH) : Sim K L cX11_isVector RX11 "isVector" 1 0 (fun q : Int32 × xH => q.2) (xRz cX11_isVector) 0 [(0, .int a0)] [] h (f_X11_isVector a0 h) := by
  unfold f_X11_isVector
  refine S_iload_n (pc := 0) 0 rfl dX11_isVector_0 rfl ?_
  refine S_if_lt (pc := 1) (tgt := 13) dX11_isVector_1 (by decide) ?_ ?_
  · refine S_iconst (pc := 13) dX11_isVector_13 ic_0 ?_
    exact Sim.fin ⟨dX11_isVector_14, rfl, rfl, x_nar (Or.inl rfl)⟩ rfl
  · refine S_iload_n (pc := 4) 0 rfl dX11_isVector_4 rfl ?_
    refine S_iconst (pc := 5) dX11_isVector_5 ic_4 ?_
    refine S_icmp_ge (pc := 6) (tgt := 13) dX11_isVector_6 (by decide) ?_ ?_
    · refine S_iconst (pc := 13) dX11_isVector_13 ic_0 ?_
      exact Sim.fin ⟨dX11_isVector_14, rfl, rfl, x_nar (Or.inl rfl)⟩ rfl
    · refine S_iconst (pc := 9) dX11_isVector_9 ic_1 ?_
      refine S_goto (pc := 10) (tgt := 14) dX11_isVector_10 (by decide) ?_
      exact Sim.fin ⟨dX11_isVector_14, rfl, rfl, x_nar (Or.inr rfl)⟩ rfl
theorem M_X11_isVector (l : Launch) (a0 : Int32) (h : xH) {q : Int32 × xH} (hq : f_X11_isVector a0 h = some q) : xM l yX11_isVector cX11_isVector 1 (some .boolean) 0 [.int a0] h (some (.int q.1)) q.2 := xM_z (by decide +kernel) (Nat.le_of_ble_eq_true rfl) (fun K L => W_X11_isVector K L a0 h) hq
theorem dX1_copyFrom_0 : decode cX1_copyFrom 0 = .ok (.aload_n 0, 1) := by decide +kernel
theorem dX1_copyFrom_1 : decode cX1_copyFrom 1 = .ok (.aload_n 1, 1) := by decide +kernel
theorem dX1_copyFrom_2 : decode cX1_copyFrom 2 = .ok (.getfield 15, 3) := by decide +kernel
theorem dX1_copyFrom_5 : decode cX1_copyFrom 5 = .ok (.putfield 15, 3) := by decide +kernel
theorem dX1_copyFrom_8 : decode cX1_copyFrom 8 = .ok (.aload_n 1, 1) := by decide +kernel
theorem dX1_copyFrom_9 : decode cX1_copyFrom 9 = .ok (.getfield 9, 3) := by decide +kernel
theorem dX1_copyFrom_12 : decode cX1_copyFrom 12 = .ok (.iconst 0, 1) := by decide +kernel
theorem dX1_copyFrom_13 : decode cX1_copyFrom 13 = .ok (.aload_n 0, 1) := by decide +kernel
theorem dX1_copyFrom_14 : decode cX1_copyFrom 14 = .ok (.getfield 9, 3) := by decide +kernel
theorem dX1_copyFrom_17 : decode cX1_copyFrom 17 = .ok (.iconst 0, 1) := by decide +kernel
theorem dX1_copyFrom_18 : decode cX1_copyFrom 18 = .ok (.bipush 32, 2) := by decide +kernel
theorem dX1_copyFrom_20 : decode cX1_copyFrom 20 = .ok (.invokestatic 43, 3) := by decide +kernel
theorem dX1_copyFrom_23 : decode cX1_copyFrom 23 = .ok (.return_, 1) := by decide +kernel
set_option maxRecDepth 20000 in
set_option maxHeartbeats 4000000 in
theorem W_X1_copyFrom (K : xK) (L : xL) (a0 : Nat) (a1 : Nat) (h : xH) : Sim K L cX1_copyFrom RX1 "copyFrom" 2 1 (fun q : xH => q) (xRv cX1_copyFrom) 0 [(0, .ref a0), (1, .ref a1)] [] h (f_X1_copyFrom a0 a1 h) := by
  unfold f_X1_copyFrom
  refine S_aload_n (pc := 0) 0 rfl dX1_copyFrom_0 rfl ?_
  refine S_aload_n (pc := 1) 1 rfl dX1_copyFrom_1 rfl ?_
  refine S_getI (pc := 2) fd_X1_length wd_80 dX1_copyFrom_2 (fun v1 => ?_)
  refine S_putI (pc := 5) fd_X1_length wd_80 rfl rfl dX1_copyFrom_5 (fun h2 => ?_)
  refine S_aload_n (pc := 8) 1 rfl dX1_copyFrom_8 rfl ?_
  refine S_getR (pc := 9) fd_X1_masks wd_78 dX1_copyFrom_9 (fun v3 => ?_)
  refine S_iconst (pc := 12) dX1_copyFrom_12 ic_0 ?_
  refine S_aload_n (pc := 13) 0 rfl dX1_copyFrom_13 rfl ?_
  refine S_getR (pc := 14) fd_X1_masks wd_78 dX1_copyFrom_14 (fun v4 => ?_)
  refine S_iconst (pc := 17) dX1_copyFrom_17 ic_0 ?_
  refine S_bipush (pc := 18) dX1_copyFrom_18 bi_32 ?_
  refine S_acp (pc := 20) (Nat.le_of_ble_eq_true rfl) wd_403 wd_268 wd_267 wd_52 (Nat.le_of_ble_eq_true rfl) dX1_copyFrom_20 (fun h5 => ?_)
  exact Sim.fin ⟨dX1_copyFrom_23, rfl, rfl⟩ rfl
theorem M_X1_copyFrom (l : Launch) (a0 : Nat) (a1 : Nat) (h : xH) {q : xH} (hq : f_X1_copyFrom a0 a1 h = some q) : xM l yX1_copyFrom cX1_copyFrom 2 none 1 [.ref a0, .ref a1] h none q := xM_v (by decide +kernel) (Nat.le_of_ble_eq_true rfl) (fun K L => W_X1_copyFrom K L a0 a1 h) hq
theorem dX3_keep_0 : decode cX3_keep 0 = .ok (.aload_n 0, 1) := by decide +kernel
theorem dX3_keep_1 : decode cX3_keep 1 = .ok (.getfield 22, 3) := by decide +kernel
theorem dX3_keep_4 : decode cX3_keep 4 = .ok (.aload_n 0, 1) := by decide +kernel
theorem dX3_keep_5 : decode cX3_keep 5 = .ok (.getfield 26, 3) := by decide +kernel
theorem dX3_keep_8 : decode cX3_keep 8 = .ok (.iadd, 1) := by decide +kernel
theorem dX3_keep_9 : decode cX3_keep 9 = .ok (.bipush 12, 2) := by decide +kernel
theorem dX3_keep_11 : decode cX3_keep 11 = .ok (.irem, 1) := by decide +kernel
theorem dX3_keep_12 : decode cX3_keep 12 = .ok (.istore_n 3, 1) := by decide +kernel
theorem dX3_keep_13 : decode cX3_keep 13 = .ok (.aload_n 0, 1) := by decide +kernel
theorem dX3_keep_14 : decode cX3_keep 14 = .ok (.getfield 11, 3) := by decide +kernel
theorem dX3_keep_17 : decode cX3_keep 17 = .ok (.iload_n 3, 1) := by decide +kernel
theorem dX3_keep_18 : decode cX3_keep 18 = .ok (.aaload, 1) := by decide +kernel
theorem dX3_keep_19 : decode cX3_keep 19 = .ok (.aload_n 2, 1) := by decide +kernel
theorem dX3_keep_20 : decode cX3_keep 20 = .ok (.invokevirtual 29, 3) := by decide +kernel
theorem dX3_keep_23 : decode cX3_keep 23 = .ok (.aload_n 0, 1) := by decide +kernel
theorem dX3_keep_24 : decode cX3_keep 24 = .ok (.getfield 17, 3) := by decide +kernel
theorem dX3_keep_27 : decode cX3_keep 27 = .ok (.iload_n 3, 1) := by decide +kernel
theorem dX3_keep_28 : decode cX3_keep 28 = .ok (.iload_n 1, 1) := by decide +kernel
theorem dX3_keep_29 : decode cX3_keep 29 = .ok (.iastore, 1) := by decide +kernel
theorem dX3_keep_30 : decode cX3_keep 30 = .ok (.aload_n 0, 1) := by decide +kernel
theorem dX3_keep_31 : decode cX3_keep 31 = .ok (.getfield 26, 3) := by decide +kernel
theorem dX3_keep_34 : decode cX3_keep 34 = .ok (.bipush 12, 2) := by decide +kernel
theorem dX3_keep_36 : decode cX3_keep 36 = .ok (.if_icmp .ge 16, 3) := by decide +kernel
theorem dX3_keep_39 : decode cX3_keep 39 = .ok (.aload_n 0, 1) := by decide +kernel
theorem dX3_keep_40 : decode cX3_keep 40 = .ok (.dup, 1) := by decide +kernel
theorem dX3_keep_41 : decode cX3_keep 41 = .ok (.getfield 26, 3) := by decide +kernel
theorem dX3_keep_44 : decode cX3_keep 44 = .ok (.iconst 1, 1) := by decide +kernel
theorem dX3_keep_45 : decode cX3_keep 45 = .ok (.iadd, 1) := by decide +kernel
theorem dX3_keep_46 : decode cX3_keep 46 = .ok (.putfield 26, 3) := by decide +kernel
theorem dX3_keep_49 : decode cX3_keep 49 = .ok (.goto 16, 3) := by decide +kernel
theorem dX3_keep_52 : decode cX3_keep 52 = .ok (.aload_n 0, 1) := by decide +kernel
theorem dX3_keep_53 : decode cX3_keep 53 = .ok (.aload_n 0, 1) := by decide +kernel
theorem dX3_keep_54 : decode cX3_keep 54 = .ok (.getfield 22, 3) := by decide +kernel
theorem dX3_keep_57 : decode cX3_keep 57 = .ok (.iconst 1, 1) := by decide +kernel
theorem dX3_keep_58 : decode cX3_keep 58 = .ok (.iadd, 1) := by decide +kernel
theorem dX3_keep_59 : decode cX3_keep 59 = .ok (.bipush 12, 2) := by decide +kernel
theorem dX3_keep_61 : decode cX3_keep 61 = .ok (.irem, 1) := by decide +kernel
theorem dX3_keep_62 : decode cX3_keep 62 = .ok (.putfield 22, 3) := by decide +kernel
theorem dX3_keep_65 : decode cX3_keep 65 = .ok (.return_, 1) := by decide +kernel
set_option maxRecDepth 20000 in
set_option maxHeartbeats 4000000 in
theorem W_X3_keep (K : xK) (L : xL) (a0 : Nat) (a1 : Int32) (a2 : Nat) (h : xH) : Sim K L cX3_keep RX3 "keep" 4 2 (fun q : xH => q) (xRv cX3_keep) 0 [(0, .ref a0), (1, .int a1), (2, .ref a2)] [] h (f_X3_keep a0 a1 a2 h) := by
  unfold f_X3_keep
  refine S_aload_n (pc := 0) 0 rfl dX3_keep_0 rfl ?_
  refine S_getI (pc := 1) fd_X3_oldest wd_99 dX3_keep_1 (fun v1 => ?_)
  refine S_aload_n (pc := 4) 0 rfl dX3_keep_4 rfl ?_
  refine S_getI (pc := 5) fd_X3_held wd_100 dX3_keep_5 (fun v2 => ?_)
  refine S_iadd (pc := 8) dX3_keep_8 ?_
  refine S_bipush (pc := 9) dX3_keep_9 bi_12 ?_
  refine S_irem (pc := 11) (by decide) dX3_keep_11 ?_
  refine S_istore_n (pc := 12) dX3_keep_12 rfl (Nat.le_of_ble_eq_true rfl) rfl ?_
  refine S_aload_n (pc := 13) 1 rfl dX3_keep_13 rfl ?_
  refine S_getR (pc := 14) fd_X3_before wd_97 dX3_keep_14 (fun v3 => ?_)
  refine S_iload_n (pc := 17) 0 rfl dX3_keep_17 rfl ?_
  refine S_aR (pc := 18) (fun _ => rfl) dX3_keep_18 (fun v4 => ?_)
  refine S_aload_n (pc := 19) 3 rfl dX3_keep_19 rfl ?_
  refine S_call_v (pc := 20) (rest := []) (fun q hq => (x_if hq).elim (fun z => R_V (av := [.ref a2]) (q := (RX1, TX1, 2)) (M_X1_copyFrom _ v4 a2 h z.2) z.1 rfl wd_402 wd_399 wd_400 wd_45 wd_401 ⟨rfl, hd_X1_copyFrom⟩ ⟨Nat.le_of_ble_eq_true rfl, Nat.le_of_ble_eq_true rfl⟩ rfl (Nat.le_of_ble_eq_true rfl) dX3_keep_20) (fun hq => (by cases hq))) (fun _ h => absurd h List.not_mem_nil) (fun q5 => ?_)
  refine S_aload_n (pc := 23) 1 rfl dX3_keep_23 rfl ?_
  refine S_getR (pc := 24) fd_X3_changed wd_98 dX3_keep_24 (fun v6 => ?_)
  refine S_iload_n (pc := 27) 0 rfl dX3_keep_27 rfl ?_
  refine S_iload_n (pc := 28) 2 rfl dX3_keep_28 rfl ?_
  refine S_uI (pc := 29) dX3_keep_29 (fun h7 => ?_)
  refine S_aload_n (pc := 30) 1 rfl dX3_keep_30 rfl ?_
  refine S_getI (pc := 31) fd_X3_held wd_100 dX3_keep_31 (fun v8 => ?_)
  refine S_bipush (pc := 34) dX3_keep_34 bi_12 ?_
  refine S_icmp_ge (pc := 36) (tgt := 52) dX3_keep_36 (by decide) ?_ ?_
  · refine S_aload_n (pc := 52) 1 rfl dX3_keep_52 rfl ?_
    refine S_aload_n (pc := 53) 1 rfl dX3_keep_53 rfl ?_
    refine S_getI (pc := 54) fd_X3_oldest wd_99 dX3_keep_54 (fun v9 => ?_)
    refine S_iconst (pc := 57) dX3_keep_57 ic_1 ?_
    refine S_iadd (pc := 58) dX3_keep_58 ?_
    refine S_bipush (pc := 59) dX3_keep_59 bi_12 ?_
    refine S_irem (pc := 61) (by decide) dX3_keep_61 ?_
    refine S_putI (pc := 62) fd_X3_oldest wd_99 rfl rfl dX3_keep_62 (fun h10 => ?_)
    exact Sim.fin ⟨dX3_keep_65, rfl, rfl⟩ rfl
  · refine S_aload_n (pc := 39) 1 rfl dX3_keep_39 rfl ?_
    refine S_dup (pc := 40) rfl dX3_keep_40 ?_
    refine S_getI (pc := 41) fd_X3_held wd_100 dX3_keep_41 (fun v11 => ?_)
    refine S_iconst (pc := 44) dX3_keep_44 ic_1 ?_
    refine S_iadd (pc := 45) dX3_keep_45 ?_
    refine S_putI (pc := 46) fd_X3_held wd_100 rfl rfl dX3_keep_46 (fun h12 => ?_)
    refine S_goto (pc := 49) (tgt := 65) dX3_keep_49 (by decide) ?_
    exact Sim.fin ⟨dX3_keep_65, rfl, rfl⟩ rfl
theorem M_X3_keep (l : Launch) (a0 : Nat) (a1 : Int32) (a2 : Nat) (h : xH) {q : xH} (hq : f_X3_keep a0 a1 a2 h = some q) : xM l yX3_keep cX3_keep 4 none 2 [.ref a0, .int a1, .ref a2] h none q := xM_v (by decide +kernel) (Nat.le_of_ble_eq_true rfl) (fun K L => W_X3_keep K L a0 a1 a2 h) hq
theorem dX11_vectorToChange_0 : decode cX11_vectorToChange 0 = .ok (.aload_n 0, 1) := by decide +kernel
theorem dX11_vectorToChange_1 : decode cX11_vectorToChange 1 = .ok (.getfield 36, 3) := by decide +kernel
theorem dX11_vectorToChange_4 : decode cX11_vectorToChange 4 = .ok (.iload_n 1, 1) := by decide +kernel
theorem dX11_vectorToChange_5 : decode cX11_vectorToChange 5 = .ok (.aload_n 0, 1) := by decide +kernel
theorem dX11_vectorToChange_6 : decode cX11_vectorToChange 6 = .ok (.getfield 17, 3) := by decide +kernel
theorem dX11_vectorToChange_9 : decode cX11_vectorToChange 9 = .ok (.iload_n 1, 1) := by decide +kernel
theorem dX11_vectorToChange_10 : decode cX11_vectorToChange 10 = .ok (.aaload, 1) := by decide +kernel
theorem dX11_vectorToChange_11 : decode cX11_vectorToChange 11 = .ok (.invokevirtual 287, 3) := by decide +kernel
theorem dX11_vectorToChange_14 : decode cX11_vectorToChange 14 = .ok (.aload_n 0, 1) := by decide +kernel
theorem dX11_vectorToChange_15 : decode cX11_vectorToChange 15 = .ok (.getfield 17, 3) := by decide +kernel
theorem dX11_vectorToChange_18 : decode cX11_vectorToChange 18 = .ok (.iload_n 1, 1) := by decide +kernel
theorem dX11_vectorToChange_19 : decode cX11_vectorToChange 19 = .ok (.aaload, 1) := by decide +kernel
theorem dX11_vectorToChange_20 : decode cX11_vectorToChange 20 = .ok (.areturn, 1) := by decide +kernel
set_option maxRecDepth 20000 in
set_option maxHeartbeats 4000000 in
theorem W_X11_vectorToChange (K : xK) (L : xL) (a0 : Nat) (a1 : Int32) (h : xH) : Sim K L cX11_vectorToChange RX11 "vectorToChange" 2 3 (fun q : Nat × xH => q.2) (xRr cX11_vectorToChange) 0 [(0, .ref a0), (1, .int a1)] [] h (f_X11_vectorToChange a0 a1 h) := by
  unfold f_X11_vectorToChange
  refine S_aload_n (pc := 0) 0 rfl dX11_vectorToChange_0 rfl ?_
  refine S_getR (pc := 1) fd_X11_history wd_194 dX11_vectorToChange_1 (fun v1 => ?_)
  refine S_iload_n (pc := 4) 1 rfl dX11_vectorToChange_4 rfl ?_
  refine S_aload_n (pc := 5) 0 rfl dX11_vectorToChange_5 rfl ?_
  refine S_getR (pc := 6) fd_X11_vectors wd_190 dX11_vectorToChange_6 (fun v2 => ?_)
  refine S_iload_n (pc := 9) 1 rfl dX11_vectorToChange_9 rfl ?_
  refine S_aR (pc := 10) (fun _ => rfl) dX11_vectorToChange_10 (fun v3 => ?_)
  refine S_call_v (pc := 11) (rest := []) (fun q hq => (x_if hq).elim (fun z => R_V (av := [.int a1, .ref v3]) (q := (RX3, TX3, 4)) (M_X3_keep _ v1 a1 v3 h z.2) z.1 rfl wd_398 wd_395 wd_396 wd_46 wd_397 ⟨rfl, hd_X3_keep⟩ ⟨Nat.le_of_ble_eq_true rfl, Nat.le_of_ble_eq_true rfl⟩ rfl (Nat.le_of_ble_eq_true rfl) dX11_vectorToChange_11) (fun hq => (by cases hq))) (fun _ h => absurd h List.not_mem_nil) (fun q4 => ?_)
  refine S_aload_n (pc := 14) 0 rfl dX11_vectorToChange_14 rfl ?_
  refine S_getR (pc := 15) fd_X11_vectors wd_190 dX11_vectorToChange_15 (fun v5 => ?_)
  refine S_iload_n (pc := 18) 1 rfl dX11_vectorToChange_18 rfl ?_
  refine S_aR (pc := 19) (fun _ => rfl) dX11_vectorToChange_19 (fun v6 => ?_)
  exact Sim.fin ⟨dX11_vectorToChange_20, rfl, rfl⟩ rfl
theorem M_X11_vectorToChange (l : Launch) (a0 : Nat) (a1 : Int32) (h : xH) {q : Nat × xH} (hq : f_X11_vectorToChange a0 a1 h = some q) : xM l yX11_vectorToChange cX11_vectorToChange 2 (some (.object "ClassBits$BitVector")) 3 [.ref a0, .int a1] h (some (.ref q.1)) q.2 := xM_r (by decide +kernel) (Nat.le_of_ble_eq_true rfl) (fun K L => W_X11_vectorToChange K L a0 a1 h) hq
theorem dX1_write_0 : decode cX1_write 0 = .ok (.iload_n 1, 1) := by decide +kernel
theorem dX1_write_1 : decode cX1_write 1 = .ok (.ifCond .lt 11, 3) := by decide +kernel
theorem dX1_write_4 : decode cX1_write 4 = .ok (.iload_n 1, 1) := by decide +kernel
theorem dX1_write_5 : decode cX1_write 5 = .ok (.aload_n 0, 1) := by decide +kernel
theorem dX1_write_6 : decode cX1_write 6 = .ok (.getfield 15, 3) := by decide +kernel
theorem dX1_write_9 : decode cX1_write 9 = .ok (.if_icmp .lt 4, 3) := by decide +kernel
theorem dX1_write_12 : decode cX1_write 12 = .ok (.return_, 1) := by decide +kernel
theorem dX1_write_13 : decode cX1_write 13 = .ok (.iload_n 1, 1) := by decide +kernel
theorem dX1_write_14 : decode cX1_write 14 = .ok (.bipush 15, 2) := by decide +kernel
theorem dX1_write_16 : decode cX1_write 16 = .ok (.idiv, 1) := by decide +kernel
theorem dX1_write_17 : decode cX1_write 17 = .ok (.istore_n 3, 1) := by decide +kernel
theorem dX1_write_18 : decode cX1_write 18 = .ok (.iconst 1, 1) := by decide +kernel
theorem dX1_write_19 : decode cX1_write 19 = .ok (.iload_n 1, 1) := by decide +kernel
theorem dX1_write_20 : decode cX1_write 20 = .ok (.bipush 15, 2) := by decide +kernel
theorem dX1_write_22 : decode cX1_write 22 = .ok (.irem, 1) := by decide +kernel
theorem dX1_write_23 : decode cX1_write 23 = .ok (.ishl, 1) := by decide +kernel
theorem dX1_write_24 : decode cX1_write 24 = .ok (.istore 4, 2) := by decide +kernel
theorem dX1_write_26 : decode cX1_write 26 = .ok (.aload_n 0, 1) := by decide +kernel
theorem dX1_write_27 : decode cX1_write 27 = .ok (.getfield 9, 3) := by decide +kernel
theorem dX1_write_30 : decode cX1_write 30 = .ok (.iload_n 3, 1) := by decide +kernel
theorem dX1_write_31 : decode cX1_write 31 = .ok (.iload_n 2, 1) := by decide +kernel
theorem dX1_write_32 : decode cX1_write 32 = .ok (.iconst 1, 1) := by decide +kernel
theorem dX1_write_33 : decode cX1_write 33 = .ok (.if_icmp .ne 15, 3) := by decide +kernel
theorem dX1_write_36 : decode cX1_write 36 = .ok (.aload_n 0, 1) := by decide +kernel
theorem dX1_write_37 : decode cX1_write 37 = .ok (.getfield 9, 3) := by decide +kernel
theorem dX1_write_40 : decode cX1_write 40 = .ok (.iload_n 3, 1) := by decide +kernel
theorem dX1_write_41 : decode cX1_write 41 = .ok (.iaload, 1) := by decide +kernel
theorem dX1_write_42 : decode cX1_write 42 = .ok (.iload 4, 2) := by decide +kernel
theorem dX1_write_44 : decode cX1_write 44 = .ok (.ior, 1) := by decide +kernel
theorem dX1_write_45 : decode cX1_write 45 = .ok (.goto 14, 3) := by decide +kernel
theorem dX1_write_48 : decode cX1_write 48 = .ok (.aload_n 0, 1) := by decide +kernel
theorem dX1_write_49 : decode cX1_write 49 = .ok (.getfield 9, 3) := by decide +kernel
theorem dX1_write_52 : decode cX1_write 52 = .ok (.iload_n 3, 1) := by decide +kernel
theorem dX1_write_53 : decode cX1_write 53 = .ok (.iaload, 1) := by decide +kernel
theorem dX1_write_54 : decode cX1_write 54 = .ok (.iload 4, 2) := by decide +kernel
theorem dX1_write_56 : decode cX1_write 56 = .ok (.iconst (-1), 1) := by decide +kernel
theorem dX1_write_57 : decode cX1_write 57 = .ok (.ixor, 1) := by decide +kernel
theorem dX1_write_58 : decode cX1_write 58 = .ok (.iand, 1) := by decide +kernel
theorem dX1_write_59 : decode cX1_write 59 = .ok (.iastore, 1) := by decide +kernel
theorem dX1_write_60 : decode cX1_write 60 = .ok (.return_, 1) := by decide +kernel
set_option maxRecDepth 20000 in
set_option maxHeartbeats 4000000 in
theorem W_X1_write (K : xK) (L : xL) (a0 : Nat) (a1 : Int32) (a2 : Int32) (h : xH) : Sim K L cX1_write RX1 "write" 5 0 (fun q : xH => q) (xRv cX1_write) 0 [(0, .ref a0), (1, .int a1), (2, .int a2)] [] h (f_X1_write a0 a1 a2 h) := by
  unfold f_X1_write
  refine S_iload_n (pc := 0) 1 rfl dX1_write_0 rfl ?_
  refine S_if_lt (pc := 1) (tgt := 12) dX1_write_1 (by decide) ?_ ?_
  · exact Sim.fin ⟨dX1_write_12, rfl, rfl⟩ rfl
  · refine S_iload_n (pc := 4) 1 rfl dX1_write_4 rfl ?_
    refine S_aload_n (pc := 5) 0 rfl dX1_write_5 rfl ?_
    refine S_getI (pc := 6) fd_X1_length wd_80 dX1_write_6 (fun v1 => ?_)
    refine S_icmp_lt (pc := 9) (tgt := 13) dX1_write_9 (by decide) ?_ ?_
    · refine S_iload_n (pc := 13) 1 rfl dX1_write_13 rfl ?_
      refine S_bipush (pc := 14) dX1_write_14 bi_15 ?_
      refine S_idiv (pc := 16) (by decide) dX1_write_16 ?_
      refine S_istore_n (pc := 17) dX1_write_17 rfl (Nat.le_of_ble_eq_true rfl) rfl ?_
      refine S_iconst (pc := 18) dX1_write_18 ic_1 ?_
      refine S_iload_n (pc := 19) 2 rfl dX1_write_19 rfl ?_
      refine S_bipush (pc := 20) dX1_write_20 bi_15 ?_
      refine S_irem (pc := 22) (by decide) dX1_write_22 ?_
      refine S_ishl (pc := 23) dX1_write_23 ?_
      refine S_istore (pc := 24) dX1_write_24 (Nat.le_of_ble_eq_true rfl) rfl ?_
      refine S_aload_n (pc := 26) 2 rfl dX1_write_26 rfl ?_
      refine S_getR (pc := 27) fd_X1_masks wd_78 dX1_write_27 (fun v2 => ?_)
      refine S_iload_n (pc := 30) 1 rfl dX1_write_30 rfl ?_
      refine S_iload_n (pc := 31) 4 rfl dX1_write_31 rfl ?_
      refine S_iconst (pc := 32) dX1_write_32 ic_1 ?_
      refine S_icmp_ne (pc := 33) (tgt := 48) dX1_write_33 (by decide) ?_ ?_
      · refine S_aload_n (pc := 36) 2 rfl dX1_write_36 rfl ?_
        refine S_getR (pc := 37) fd_X1_masks wd_78 dX1_write_37 (fun v3 => ?_)
        refine S_iload_n (pc := 40) 1 rfl dX1_write_40 rfl ?_
        refine S_aI (pc := 41) dX1_write_41 (fun v4 => ?_)
        refine S_iload (pc := 42) 0 rfl dX1_write_42 ?_
        refine S_ior (pc := 44) dX1_write_44 ?_
        refine S_goto (pc := 45) (tgt := 59) dX1_write_45 (by decide) ?_
        refine S_uI (pc := 59) dX1_write_59 (fun h5 => ?_)
        exact Sim.fin ⟨dX1_write_60, rfl, rfl⟩ rfl
      · refine S_aload_n (pc := 48) 2 rfl dX1_write_48 rfl ?_
        refine S_getR (pc := 49) fd_X1_masks wd_78 dX1_write_49 (fun v6 => ?_)
        refine S_iload_n (pc := 52) 1 rfl dX1_write_52 rfl ?_
        refine S_aI (pc := 53) dX1_write_53 (fun v7 => ?_)
        refine S_iload (pc := 54) 0 rfl dX1_write_54 ?_
        refine S_iconst (pc := 56) dX1_write_56 ic_m1 ?_
        refine S_ixor (pc := 57) dX1_write_57 ?_
        refine S_iand (pc := 58) dX1_write_58 ?_
        refine S_uI (pc := 59) dX1_write_59 (fun h8 => ?_)
        exact Sim.fin ⟨dX1_write_60, rfl, rfl⟩ rfl
    · exact Sim.fin ⟨dX1_write_12, rfl, rfl⟩ rfl
theorem M_X1_write (l : Launch) (a0 : Nat) (a1 : Int32) (a2 : Int32) (h : xH) {q : xH} (hq : f_X1_write a0 a1 a2 h = some q) : xM l yX1_write cX1_write 5 none 0 [.ref a0, .int a1, .int a2] h none q := xM_v (by decide +kernel) (Nat.le_of_ble_eq_true rfl) (fun K L => W_X1_write K L a0 a1 a2 h) hq
theorem dX1_append_0 : decode cX1_append 0 = .ok (.aload_n 0, 1) := by decide +kernel
theorem dX1_append_1 : decode cX1_append 1 = .ok (.getfield 15, 3) := by decide +kernel
theorem dX1_append_4 : decode cX1_append 4 = .ok (.sipush 480, 3) := by decide +kernel
theorem dX1_append_7 : decode cX1_append 7 = .ok (.if_icmp .ge 24, 3) := by decide +kernel
theorem dX1_append_10 : decode cX1_append 10 = .ok (.aload_n 0, 1) := by decide +kernel
theorem dX1_append_11 : decode cX1_append 11 = .ok (.dup, 1) := by decide +kernel
theorem dX1_append_12 : decode cX1_append 12 = .ok (.getfield 15, 3) := by decide +kernel
theorem dX1_append_15 : decode cX1_append 15 = .ok (.iconst 1, 1) := by decide +kernel
theorem dX1_append_16 : decode cX1_append 16 = .ok (.iadd, 1) := by decide +kernel
theorem dX1_append_17 : decode cX1_append 17 = .ok (.putfield 15, 3) := by decide +kernel
theorem dX1_append_20 : decode cX1_append 20 = .ok (.aload_n 0, 1) := by decide +kernel
theorem dX1_append_21 : decode cX1_append 21 = .ok (.aload_n 0, 1) := by decide +kernel
theorem dX1_append_22 : decode cX1_append 22 = .ok (.getfield 15, 3) := by decide +kernel
theorem dX1_append_25 : decode cX1_append 25 = .ok (.iconst 1, 1) := by decide +kernel
theorem dX1_append_26 : decode cX1_append 26 = .ok (.isub, 1) := by decide +kernel
theorem dX1_append_27 : decode cX1_append 27 = .ok (.iload_n 1, 1) := by decide +kernel
theorem dX1_append_28 : decode cX1_append 28 = .ok (.invokevirtual 19, 3) := by decide +kernel
theorem dX1_append_31 : decode cX1_append 31 = .ok (.return_, 1) := by decide +kernel
set_option maxRecDepth 20000 in
set_option maxHeartbeats 4000000 in
theorem W_X1_append (K : xK) (L : xL) (a0 : Nat) (a1 : Int32) (h : xH) : Sim K L cX1_append RX1 "append" 2 1 (fun q : xH => q) (xRv cX1_append) 0 [(0, .ref a0), (1, .int a1)] [] h (f_X1_append a0 a1 h) := by
  unfold f_X1_append
  refine S_aload_n (pc := 0) 0 rfl dX1_append_0 rfl ?_
  refine S_getI (pc := 1) fd_X1_length wd_80 dX1_append_1 (fun v1 => ?_)
  refine S_sipush (pc := 4) dX1_append_4 si_480 ?_
  refine S_icmp_ge (pc := 7) (tgt := 31) dX1_append_7 (by decide) ?_ ?_
  · exact Sim.fin ⟨dX1_append_31, rfl, rfl⟩ rfl
  · refine S_aload_n (pc := 10) 0 rfl dX1_append_10 rfl ?_
    refine S_dup (pc := 11) rfl dX1_append_11 ?_
    refine S_getI (pc := 12) fd_X1_length wd_80 dX1_append_12 (fun v2 => ?_)
    refine S_iconst (pc := 15) dX1_append_15 ic_1 ?_
    refine S_iadd (pc := 16) dX1_append_16 ?_
    refine S_putI (pc := 17) fd_X1_length wd_80 rfl rfl dX1_append_17 (fun h3 => ?_)
    refine S_aload_n (pc := 20) 0 rfl dX1_append_20 rfl ?_
    refine S_aload_n (pc := 21) 0 rfl dX1_append_21 rfl ?_
    refine S_getI (pc := 22) fd_X1_length wd_80 dX1_append_22 (fun v4 => ?_)
    refine S_iconst (pc := 25) dX1_append_25 ic_1 ?_
    refine S_isub (pc := 26) dX1_append_26 ?_
    refine S_iload_n (pc := 27) 1 rfl dX1_append_27 rfl ?_
    refine S_call_v (pc := 28) (rest := []) (fun q hq => (x_if hq).elim (fun z => R_V (av := [.int (v4 - (1 : Int32)), .int a1]) (q := (RX1, TX1, 2)) (M_X1_write _ a0 (v4 - (1 : Int32)) a1 h3 z.2) z.1 rfl wd_439 wd_436 wd_437 wd_45 wd_438 ⟨rfl, hd_X1_write⟩ ⟨Nat.le_of_ble_eq_true rfl, Nat.le_of_ble_eq_true rfl⟩ rfl (Nat.le_of_ble_eq_true rfl) dX1_append_28) (fun hq => (by cases hq))) (fun _ h => absurd h List.not_mem_nil) (fun q5 => ?_)
    exact Sim.fin ⟨dX1_append_31, rfl, rfl⟩ rfl
theorem M_X1_append (l : Launch) (a0 : Nat) (a1 : Int32) (h : xH) {q : xH} (hq : f_X1_append a0 a1 h = some q) : xM l yX1_append cX1_append 2 none 1 [.ref a0, .int a1] h none q := xM_v (by decide +kernel) (Nat.le_of_ble_eq_true rfl) (fun K L => W_X1_append K L a0 a1 h) hq
theorem dX11_add_0 : decode cX11_add 0 = .ok (.iload_n 1, 1) := by decide +kernel
theorem dX11_add_1 : decode cX11_add 1 = .ok (.invokestatic 113, 3) := by decide +kernel
theorem dX11_add_4 : decode cX11_add 4 = .ok (.ifCond .eq 22, 3) := by decide +kernel
theorem dX11_add_7 : decode cX11_add 7 = .ok (.iload_n 2, 1) := by decide +kernel
theorem dX11_add_8 : decode cX11_add 8 = .ok (.invokestatic 149, 3) := by decide +kernel
theorem dX11_add_11 : decode cX11_add 11 = .ok (.ifCond .eq 15, 3) := by decide +kernel
theorem dX11_add_14 : decode cX11_add 14 = .ok (.iload_n 3, 1) := by decide +kernel
theorem dX11_add_15 : decode cX11_add 15 = .ok (.iconst 1, 1) := by decide +kernel
theorem dX11_add_16 : decode cX11_add 16 = .ok (.if_icmp .lt 10, 3) := by decide +kernel
theorem dX11_add_19 : decode cX11_add 19 = .ok (.iload_n 3, 1) := by decide +kernel
theorem dX11_add_20 : decode cX11_add 20 = .ok (.sipush 480, 3) := by decide +kernel
theorem dX11_add_23 : decode cX11_add 23 = .ok (.if_icmp .le 6, 3) := by decide +kernel
theorem dX11_add_26 : decode cX11_add 26 = .ok (.ldc 65, 2) := by decide +kernel
theorem dX11_add_28 : decode cX11_add 28 = .ok (.ireturn, 1) := by decide +kernel
theorem dX11_add_29 : decode cX11_add 29 = .ok (.aload_n 0, 1) := by decide +kernel
theorem dX11_add_30 : decode cX11_add 30 = .ok (.getfield 17, 3) := by decide +kernel
theorem dX11_add_33 : decode cX11_add 33 = .ok (.iload_n 1, 1) := by decide +kernel
theorem dX11_add_34 : decode cX11_add 34 = .ok (.aaload, 1) := by decide +kernel
theorem dX11_add_35 : decode cX11_add 35 = .ok (.getfield 148, 3) := by decide +kernel
theorem dX11_add_38 : decode cX11_add 38 = .ok (.iload_n 3, 1) := by decide +kernel
theorem dX11_add_39 : decode cX11_add 39 = .ok (.iadd, 1) := by decide +kernel
theorem dX11_add_40 : decode cX11_add 40 = .ok (.sipush 480, 3) := by decide +kernel
theorem dX11_add_43 : decode cX11_add 43 = .ok (.if_icmp .le 6, 3) := by decide +kernel
theorem dX11_add_46 : decode cX11_add 46 = .ok (.ldc 109, 2) := by decide +kernel
theorem dX11_add_48 : decode cX11_add 48 = .ok (.ireturn, 1) := by decide +kernel
theorem dX11_add_49 : decode cX11_add 49 = .ok (.aload_n 0, 1) := by decide +kernel
theorem dX11_add_50 : decode cX11_add 50 = .ok (.iload_n 1, 1) := by decide +kernel
theorem dX11_add_51 : decode cX11_add 51 = .ok (.invokevirtual 133, 3) := by decide +kernel
theorem dX11_add_54 : decode cX11_add 54 = .ok (.astore 4, 2) := by decide +kernel
theorem dX11_add_56 : decode cX11_add 56 = .ok (.iconst 0, 1) := by decide +kernel
theorem dX11_add_57 : decode cX11_add 57 = .ok (.istore 5, 2) := by decide +kernel
theorem dX11_add_59 : decode cX11_add 59 = .ok (.iload 5, 2) := by decide +kernel
theorem dX11_add_61 : decode cX11_add 61 = .ok (.iload_n 3, 1) := by decide +kernel
theorem dX11_add_62 : decode cX11_add 62 = .ok (.if_icmp .ge 15, 3) := by decide +kernel
theorem dX11_add_65 : decode cX11_add 65 = .ok (.aload 4, 2) := by decide +kernel
theorem dX11_add_67 : decode cX11_add 67 = .ok (.iload_n 2, 1) := by decide +kernel
theorem dX11_add_68 : decode cX11_add 68 = .ok (.invokevirtual 158, 3) := by decide +kernel
theorem dX11_add_71 : decode cX11_add 71 = .ok (.iinc 5 1, 3) := by decide +kernel
theorem dX11_add_74 : decode cX11_add 74 = .ok (.goto (-15), 3) := by decide +kernel
theorem dX11_add_77 : decode cX11_add 77 = .ok (.aload 4, 2) := by decide +kernel
theorem dX11_add_79 : decode cX11_add 79 = .ok (.getfield 148, 3) := by decide +kernel
theorem dX11_add_82 : decode cX11_add 82 = .ok (.ireturn, 1) := by decide +kernel
set_option maxRecDepth 20000 in
set_option maxHeartbeats 4000000 in
theorem L_X11_add_59 (K : xK) (L : xL) : ∀ (n : Nat) (a2 : Int32) (a3 : Int32) (a4 : Nat) (a5 : Int32) (h : xH), Sim K L cX11_add RX11 "add" 6 4 (fun q : Int32 × xH => q.2) (fun q pc' ls' st' h' => pc' = 77 ∧ ls' = [(2, .int a2), (3, .int a3), (4, .ref a4), (5, .int q.1)] ∧ st' = [] ∧ h' = q.2) 59 [(2, .int a2), (3, .int a3), (4, .ref a4), (5, .int a5)] [] h (f_X11_add_L59 n a2 a3 a4 a5 h) := by
  intro n
  induction n with
  | zero =>
    intro a2 a3 a4 a5 h
    exact Sim.none
  | succ n ih =>
    intro a2 a3 a4 a5 h
    unfold f_X11_add_L59
    refine S_iload (pc := 59) 3 rfl dX11_add_59 ?_
    refine S_iload_n (pc := 61) 1 rfl dX11_add_61 rfl ?_
    refine S_icmp_ge (pc := 62) (tgt := 77) dX11_add_62 (by decide) ?_ ?_
    · refine S_sub [0, 1, 2, 3] rfl ?_
      exact Sim.fin ⟨rfl, rfl, rfl, rfl⟩ rfl
    · refine S_aload (pc := 65) 2 rfl dX11_add_65 ?_
      refine S_iload_n (pc := 67) 0 rfl dX11_add_67 rfl ?_
      refine S_call_v (pc := 68) (rest := []) (fun q hq => (x_if hq).elim (fun z => R_V (av := [.int a2]) (q := (RX1, TX1, 2)) (M_X1_append _ a4 a2 h z.2) z.1 rfl wd_435 wd_460 wd_433 wd_45 wd_434 ⟨rfl, hd_X1_append⟩ ⟨Nat.le_of_ble_eq_true rfl, Nat.le_of_ble_eq_true rfl⟩ rfl (Nat.le_of_ble_eq_true rfl) dX11_add_68) (fun hq => (by cases hq))) (fun _ h => absurd h List.not_mem_nil) (fun q7 => ?_)
      refine S_iinc (pc := 71) (v := a5 + (1 : Int32)) 3 rfl dX11_add_71 (x_inc ic_1) (Nat.le_of_ble_eq_true rfl) rfl ?_
      refine S_goto (pc := 74) (tgt := 59) dX11_add_74 (by decide) ?_
      refine S_sub [1, 2, 3, 0] rfl ?_
      exact ih a2 a3 a4 (a5 + (1 : Int32)) q7
set_option maxRecDepth 20000 in
set_option maxHeartbeats 4000000 in
theorem W_X11_add (K : xK) (L : xL) (a0 : Nat) (a1 : Int32) (a2 : Int32) (a3 : Int32) (h : xH) : Sim K L cX11_add RX11 "add" 6 4 (fun q : Int32 × xH => q.2) (xRi cX11_add) 0 [(0, .ref a0), (1, .int a1), (2, .int a2), (3, .int a3)] [] h (f_X11_add a0 a1 a2 a3 h) := by
  unfold f_X11_add
  refine S_iload_n (pc := 0) 1 rfl dX11_add_0 rfl ?_
  refine S_call_i (pc := 1) (rest := []) (fun q hq => R_S (av := [.int a1]) (M_X11_isVector _ a1 h hq) wd_293 wd_291 wd_292 wd_44 hd_X11_isVector ⟨Nat.le_of_ble_eq_true rfl, Nat.le_of_ble_eq_true rfl⟩ rfl (Nat.le_of_ble_eq_true rfl) dX11_add_1) (fun _ h => absurd h List.not_mem_nil) (fun q1 => ?_)
  refine S_if_eq (pc := 4) (tgt := 26) dX11_add_4 (by decide) ?_ ?_
  · refine S_ldc (pc := 26) wd_233 dX11_add_26 ?_
    exact Sim.fin ⟨dX11_add_28, rfl, rfl⟩ rfl
  · refine S_iload_n (pc := 7) 2 rfl dX11_add_7 rfl ?_
    refine S_call_i (pc := 8) (rest := []) (fun q hq => R_S (av := [.int a2]) (M_X11_isValue _ a2 q1.2 hq) wd_450 wd_448 wd_449 wd_44 hd_X11_isValue ⟨Nat.le_of_ble_eq_true rfl, Nat.le_of_ble_eq_true rfl⟩ rfl (Nat.le_of_ble_eq_true rfl) dX11_add_8) (fun _ h => absurd h List.not_mem_nil) (fun q2 => ?_)
    refine S_if_eq (pc := 11) (tgt := 26) dX11_add_11 (by decide) ?_ ?_
    · refine S_ldc (pc := 26) wd_233 dX11_add_26 ?_
      exact Sim.fin ⟨dX11_add_28, rfl, rfl⟩ rfl
    · refine S_iload_n (pc := 14) 3 rfl dX11_add_14 rfl ?_
      refine S_iconst (pc := 15) dX11_add_15 ic_1 ?_
      refine S_icmp_lt (pc := 16) (tgt := 26) dX11_add_16 (by decide) ?_ ?_
      · refine S_ldc (pc := 26) wd_233 dX11_add_26 ?_
        exact Sim.fin ⟨dX11_add_28, rfl, rfl⟩ rfl
      · refine S_iload_n (pc := 19) 3 rfl dX11_add_19 rfl ?_
        refine S_sipush (pc := 20) dX11_add_20 si_480 ?_
        refine S_icmp_le (pc := 23) (tgt := 29) dX11_add_23 (by decide) ?_ ?_
        · refine S_aload_n (pc := 29) 0 rfl dX11_add_29 rfl ?_
          refine S_getR (pc := 30) fd_X11_vectors wd_190 dX11_add_30 (fun v3 => ?_)
          refine S_iload_n (pc := 33) 1 rfl dX11_add_33 rfl ?_
          refine S_aR (pc := 34) (fun _ => rfl) dX11_add_34 (fun v4 => ?_)
          refine S_getI (pc := 35) fd_X1_length wd_81 dX11_add_35 (fun v5 => ?_)
          refine S_iload_n (pc := 38) 3 rfl dX11_add_38 rfl ?_
          refine S_iadd (pc := 39) dX11_add_39 ?_
          refine S_sipush (pc := 40) dX11_add_40 si_480 ?_
          refine S_icmp_le (pc := 43) (tgt := 49) dX11_add_43 (by decide) ?_ ?_
          · refine S_aload_n (pc := 49) 0 rfl dX11_add_49 rfl ?_
            refine S_iload_n (pc := 50) 1 rfl dX11_add_50 rfl ?_
            refine S_call_r (pc := 51) (rest := []) (fun q hq => (x_if hq).elim (fun z => R_V (av := [.int a1]) (q := (RX11, TX11, 12)) (M_X11_vectorToChange _ a0 a1 q2.2 z.2) z.1 rfl wd_394 wd_391 wd_393 wd_44 wd_8 ⟨rfl, hd_X11_vectorToChange⟩ ⟨Nat.le_of_ble_eq_true rfl, Nat.le_of_ble_eq_true rfl⟩ rfl (Nat.le_of_ble_eq_true rfl) dX11_add_51) (fun hq => (by cases hq))) (fun _ h => absurd h List.not_mem_nil) (fun q6 => ?_)
            refine S_astore (pc := 54) dX11_add_54 (Nat.le_of_ble_eq_true rfl) rfl ?_
            refine S_iconst (pc := 56) dX11_add_56 ic_0 ?_
            refine S_istore (pc := 57) dX11_add_57 (Nat.le_of_ble_eq_true rfl) rfl ?_
            refine S_sub [4, 5, 1, 0] rfl ?_
            refine Sim.bind (hs := fun q8 : Int32 × xH => q8.2) (px := 77) (lsx := fun q8 => [(2, .int a2), (3, .int a3), (4, .ref q6.1), (5, .int q8.1)]) (L_X11_add_59 K L xN a2 a3 q6.1 (0 : Int32) q6.2) (fun q8 => ?_)
            refine S_aload (pc := 77) 2 rfl dX11_add_77 ?_
            refine S_getI (pc := 79) fd_X1_length wd_81 dX11_add_79 (fun v9 => ?_)
            exact Sim.fin ⟨dX11_add_82, rfl, rfl⟩ rfl
          · refine S_ldc (pc := 46) wd_281 dX11_add_46 ?_
            exact Sim.fin ⟨dX11_add_48, rfl, rfl⟩ rfl
        · refine S_ldc (pc := 26) wd_233 dX11_add_26 ?_
          exact Sim.fin ⟨dX11_add_28, rfl, rfl⟩ rfl
theorem M_X11_add (l : Launch) (a0 : Nat) (a1 : Int32) (a2 : Int32) (a3 : Int32) (h : xH) {q : Int32 × xH} (hq : f_X11_add a0 a1 a2 a3 h = some q) : xM l yX11_add cX11_add 6 (some .int) 4 [.ref a0, .int a1, .int a2, .int a3] h (some (.int q.1)) q.2 := xM_i (by decide +kernel) (Nat.le_of_ble_eq_true rfl) (fun K L => W_X11_add K L a0 a1 a2 a3 h) hq
theorem dX11_commonDivisor_0 : decode cX11_commonDivisor 0 = .ok (.iload_n 0, 1) := by decide +kernel
theorem dX11_commonDivisor_1 : decode cX11_commonDivisor 1 = .ok (.istore_n 2, 1) := by decide +kernel
theorem dX11_commonDivisor_2 : decode cX11_commonDivisor 2 = .ok (.iload_n 1, 1) := by decide +kernel
theorem dX11_commonDivisor_3 : decode cX11_commonDivisor 3 = .ok (.istore_n 3, 1) := by decide +kernel
theorem dX11_commonDivisor_4 : decode cX11_commonDivisor 4 = .ok (.iconst 0, 1) := by decide +kernel
theorem dX11_commonDivisor_5 : decode cX11_commonDivisor 5 = .ok (.istore 4, 2) := by decide +kernel
theorem dX11_commonDivisor_7 : decode cX11_commonDivisor 7 = .ok (.iload 4, 2) := by decide +kernel
theorem dX11_commonDivisor_9 : decode cX11_commonDivisor 9 = .ok (.sipush 480, 3) := by decide +kernel
theorem dX11_commonDivisor_12 : decode cX11_commonDivisor 12 = .ok (.if_icmp .ge 23, 3) := by decide +kernel
theorem dX11_commonDivisor_15 : decode cX11_commonDivisor 15 = .ok (.iload_n 3, 1) := by decide +kernel
theorem dX11_commonDivisor_16 : decode cX11_commonDivisor 16 = .ok (.ifCond .eq 19, 3) := by decide +kernel
theorem dX11_commonDivisor_19 : decode cX11_commonDivisor 19 = .ok (.iload_n 2, 1) := by decide +kernel
theorem dX11_commonDivisor_20 : decode cX11_commonDivisor 20 = .ok (.iload_n 3, 1) := by decide +kernel
theorem dX11_commonDivisor_21 : decode cX11_commonDivisor 21 = .ok (.irem, 1) := by decide +kernel
theorem dX11_commonDivisor_22 : decode cX11_commonDivisor 22 = .ok (.istore 5, 2) := by decide +kernel
theorem dX11_commonDivisor_24 : decode cX11_commonDivisor 24 = .ok (.iload_n 3, 1) := by decide +kernel
theorem dX11_commonDivisor_25 : decode cX11_commonDivisor 25 = .ok (.istore_n 2, 1) := by decide +kernel
theorem dX11_commonDivisor_26 : decode cX11_commonDivisor 26 = .ok (.iload 5, 2) := by decide +kernel
theorem dX11_commonDivisor_28 : decode cX11_commonDivisor 28 = .ok (.istore_n 3, 1) := by decide +kernel
theorem dX11_commonDivisor_29 : decode cX11_commonDivisor 29 = .ok (.iinc 4 1, 3) := by decide +kernel
theorem dX11_commonDivisor_32 : decode cX11_commonDivisor 32 = .ok (.goto (-25), 3) := by decide +kernel
theorem dX11_commonDivisor_35 : decode cX11_commonDivisor 35 = .ok (.iconst 1, 1) := by decide +kernel
theorem dX11_commonDivisor_36 : decode cX11_commonDivisor 36 = .ok (.iload_n 2, 1) := by decide +kernel
theorem dX11_commonDivisor_37 : decode cX11_commonDivisor 37 = .ok (.invokestatic 310, 3) := by decide +kernel
theorem dX11_commonDivisor_40 : decode cX11_commonDivisor 40 = .ok (.ireturn, 1) := by decide +kernel
set_option maxRecDepth 20000 in
set_option maxHeartbeats 4000000 in
theorem L_X11_commonDivisor_7 (K : xK) (L : xL) : ∀ (n : Nat) (a2 : Int32) (a3 : Int32) (a4 : Int32) (h : xH), Sim K L cX11_commonDivisor RX11 "commonDivisor" 6 1 (fun q : Int32 × Int32 × Int32 × xH => q.2.2.2) (fun q pc' ls' st' h' => pc' = 35 ∧ ls' = [(2, .int q.1), (3, .int q.2.1), (4, .int q.2.2.1)] ∧ st' = [] ∧ h' = q.2.2.2) 7 [(2, .int a2), (3, .int a3), (4, .int a4)] [] h (f_X11_commonDivisor_L7 n a2 a3 a4 h) := by
  intro n
  induction n with
  | zero =>
    intro a2 a3 a4 h
    exact Sim.none
  | succ n ih =>
    intro a2 a3 a4 h
    unfold f_X11_commonDivisor_L7
    refine S_iload (pc := 7) 2 rfl dX11_commonDivisor_7 ?_
    refine S_sipush (pc := 9) dX11_commonDivisor_9 si_480 ?_
    refine S_icmp_ge (pc := 12) (tgt := 35) dX11_commonDivisor_12 (by decide) ?_ ?_
    · refine S_sub [0, 1, 2] rfl ?_
      exact Sim.fin ⟨rfl, rfl, rfl, rfl⟩ rfl
    · refine S_iload_n (pc := 15) 1 rfl dX11_commonDivisor_15 rfl ?_
      refine S_if_eq (pc := 16) (tgt := 35) dX11_commonDivisor_16 (by decide) ?_ ?_
      · refine S_sub [0, 1, 2] rfl ?_
        exact Sim.fin ⟨rfl, rfl, rfl, rfl⟩ rfl
      · refine S_iload_n (pc := 19) 0 rfl dX11_commonDivisor_19 rfl ?_
        refine S_iload_n (pc := 20) 1 rfl dX11_commonDivisor_20 rfl ?_
        refine Sim.ite (fun _ => Sim.none) (fun hz1 => ?_)
        refine S_irem (pc := 21) hz1 dX11_commonDivisor_21 ?_
        refine S_istore (pc := 22) dX11_commonDivisor_22 (Nat.le_of_ble_eq_true rfl) rfl ?_
        refine S_iload_n (pc := 24) 2 rfl dX11_commonDivisor_24 rfl ?_
        refine S_istore_n (pc := 25) dX11_commonDivisor_25 rfl (Nat.le_of_ble_eq_true rfl) rfl ?_
        refine S_iload (pc := 26) 1 rfl dX11_commonDivisor_26 ?_
        refine S_istore_n (pc := 28) dX11_commonDivisor_28 rfl (Nat.le_of_ble_eq_true rfl) rfl ?_
        refine S_iinc (pc := 29) (v := a4 + (1 : Int32)) 3 rfl dX11_commonDivisor_29 (x_inc ic_1) (Nat.le_of_ble_eq_true rfl) rfl ?_
        refine S_goto (pc := 32) (tgt := 7) dX11_commonDivisor_32 (by decide) ?_
        refine S_sub [2, 1, 0] rfl ?_
        exact ih a3 (a2 - a2 / a3 * a3) (a4 + (1 : Int32)) h
set_option maxRecDepth 20000 in
set_option maxHeartbeats 4000000 in
theorem W_X11_commonDivisor (K : xK) (L : xL) (a0 : Int32) (a1 : Int32) (h : xH) : Sim K L cX11_commonDivisor RX11 "commonDivisor" 6 1 (fun q : Int32 × xH => q.2) (xRi cX11_commonDivisor) 0 [(0, .int a0), (1, .int a1)] [] h (f_X11_commonDivisor a0 a1 h) := by
  unfold f_X11_commonDivisor
  refine S_iload_n (pc := 0) 0 rfl dX11_commonDivisor_0 rfl ?_
  refine S_istore_n (pc := 1) dX11_commonDivisor_1 rfl (Nat.le_of_ble_eq_true rfl) rfl ?_
  refine S_iload_n (pc := 2) 2 rfl dX11_commonDivisor_2 rfl ?_
  refine S_istore_n (pc := 3) dX11_commonDivisor_3 rfl (Nat.le_of_ble_eq_true rfl) rfl ?_
  refine S_iconst (pc := 4) dX11_commonDivisor_4 ic_0 ?_
  refine S_istore (pc := 5) dX11_commonDivisor_5 (Nat.le_of_ble_eq_true rfl) rfl ?_
  refine S_sub [2, 1, 0] rfl ?_
  refine Sim.bind (hs := fun q2 : Int32 × Int32 × Int32 × xH => q2.2.2.2) (px := 35) (lsx := fun q2 => [(2, .int q2.1), (3, .int q2.2.1), (4, .int q2.2.2.1)]) (L_X11_commonDivisor_7 K L xN a0 a1 (0 : Int32) h) (fun q2 => ?_)
  refine S_iconst (pc := 35) dX11_commonDivisor_35 ic_1 ?_
  refine S_iload_n (pc := 36) 0 rfl dX11_commonDivisor_36 rfl ?_
  refine S_mmax (pc := 37) (Nat.le_of_ble_eq_true rfl) wd_475 wd_476 wd_59 wdm_max (Nat.le_of_ble_eq_true rfl) dX11_commonDivisor_37 ?_
  exact Sim.fin ⟨dX11_commonDivisor_40, rfl, rfl⟩ rfl
theorem M_X11_commonDivisor (l : Launch) (a0 : Int32) (a1 : Int32) (h : xH) {q : Int32 × xH} (hq : f_X11_commonDivisor a0 a1 h = some q) : xM l yX11_commonDivisor cX11_commonDivisor 6 (some .int) 1 [.int a0, .int a1] h (some (.int q.1)) q.2 := xM_i (by decide +kernel) (Nat.le_of_ble_eq_true rfl) (fun K L => W_X11_commonDivisor K L a0 a1 h) hq
theorem dX1_joinedMask_0 : decode cX1_joinedMask 0 = .ok (.iload_n 0, 1) := by decide +kernel
theorem dX1_joinedMask_1 : decode cX1_joinedMask 1 = .ok (.tableswitch 39 0 2 #[27, 31, 35], 27) := by decide +kernel
theorem dX1_joinedMask_28 : decode cX1_joinedMask 28 = .ok (.iload_n 1, 1) := by decide +kernel
theorem dX1_joinedMask_29 : decode cX1_joinedMask 29 = .ok (.iload_n 2, 1) := by decide +kernel
theorem dX1_joinedMask_30 : decode cX1_joinedMask 30 = .ok (.iand, 1) := by decide +kernel
theorem dX1_joinedMask_31 : decode cX1_joinedMask 31 = .ok (.ireturn, 1) := by decide +kernel
theorem dX1_joinedMask_32 : decode cX1_joinedMask 32 = .ok (.iload_n 1, 1) := by decide +kernel
theorem dX1_joinedMask_33 : decode cX1_joinedMask 33 = .ok (.iload_n 2, 1) := by decide +kernel
theorem dX1_joinedMask_34 : decode cX1_joinedMask 34 = .ok (.ior, 1) := by decide +kernel
theorem dX1_joinedMask_35 : decode cX1_joinedMask 35 = .ok (.ireturn, 1) := by decide +kernel
theorem dX1_joinedMask_36 : decode cX1_joinedMask 36 = .ok (.iload_n 1, 1) := by decide +kernel
theorem dX1_joinedMask_37 : decode cX1_joinedMask 37 = .ok (.iload_n 2, 1) := by decide +kernel
theorem dX1_joinedMask_38 : decode cX1_joinedMask 38 = .ok (.ixor, 1) := by decide +kernel
theorem dX1_joinedMask_39 : decode cX1_joinedMask 39 = .ok (.ireturn, 1) := by decide +kernel
theorem dX1_joinedMask_40 : decode cX1_joinedMask 40 = .ok (.iload_n 1, 1) := by decide +kernel
theorem dX1_joinedMask_41 : decode cX1_joinedMask 41 = .ok (.iload_n 2, 1) := by decide +kernel
theorem dX1_joinedMask_42 : decode cX1_joinedMask 42 = .ok (.iconst (-1), 1) := by decide +kernel
theorem dX1_joinedMask_43 : decode cX1_joinedMask 43 = .ok (.ixor, 1) := by decide +kernel
theorem dX1_joinedMask_44 : decode cX1_joinedMask 44 = .ok (.iand, 1) := by decide +kernel
theorem dX1_joinedMask_45 : decode cX1_joinedMask 45 = .ok (.ireturn, 1) := by decide +kernel
set_option maxRecDepth 20000 in
set_option maxHeartbeats 4000000 in
theorem W_X1_joinedMask (K : xK) (L : xL) (a0 : Int32) (a1 : Int32) (a2 : Int32) (h : xH) : Sim K L cX1_joinedMask RX1 "joinedMask" 3 0 (fun q : Int32 × xH => q.2) (xRi cX1_joinedMask) 0 [(0, .int a0), (1, .int a1), (2, .int a2)] [] h (f_X1_joinedMask a0 a1 a2 h) := by
  unfold f_X1_joinedMask
  refine S_iload_n (pc := 0) 0 rfl dX1_joinedMask_0 rfl ?_
  refine S_tabIn (pc := 1) (v := 0) (tgt := 28) dX1_joinedMask_1 (by decide) (by decide) rfl (by decide) ?_ (fun hs1 => ?_)
  · refine S_iload_n (pc := 28) 1 rfl dX1_joinedMask_28 rfl ?_
    refine S_iload_n (pc := 29) 2 rfl dX1_joinedMask_29 rfl ?_
    refine S_iand (pc := 30) dX1_joinedMask_30 ?_
    exact Sim.fin ⟨dX1_joinedMask_31, rfl, rfl⟩ rfl
  refine S_tabIn (pc := 1) (v := 1) (tgt := 32) dX1_joinedMask_1 (by decide) (by decide) rfl (by decide) ?_ (fun hs2 => ?_)
  · refine S_iload_n (pc := 32) 1 rfl dX1_joinedMask_32 rfl ?_
    refine S_iload_n (pc := 33) 2 rfl dX1_joinedMask_33 rfl ?_
    refine S_ior (pc := 34) dX1_joinedMask_34 ?_
    exact Sim.fin ⟨dX1_joinedMask_35, rfl, rfl⟩ rfl
  refine S_tabIn (pc := 1) (v := 2) (tgt := 36) dX1_joinedMask_1 (by decide) (by decide) rfl (by decide) ?_ (fun hs3 => ?_)
  · refine S_iload_n (pc := 36) 1 rfl dX1_joinedMask_36 rfl ?_
    refine S_iload_n (pc := 37) 2 rfl dX1_joinedMask_37 rfl ?_
    refine S_ixor (pc := 38) dX1_joinedMask_38 ?_
    exact Sim.fin ⟨dX1_joinedMask_39, rfl, rfl⟩ rfl
  refine S_tabOut (pc := 1) (tgt := 40) dX1_joinedMask_1 (by have := lv_neT hs1 (show (0 : Int32).toInt = 0 from by decide); have := lv_neT hs2 (show (1 : Int32).toInt = 1 from by decide); have := lv_neT hs3 (show (2 : Int32).toInt = 2 from by decide); omega) (by decide) ?_
  refine S_iload_n (pc := 40) 1 rfl dX1_joinedMask_40 rfl ?_
  refine S_iload_n (pc := 41) 2 rfl dX1_joinedMask_41 rfl ?_
  refine S_iconst (pc := 42) dX1_joinedMask_42 ic_m1 ?_
  refine S_ixor (pc := 43) dX1_joinedMask_43 ?_
  refine S_iand (pc := 44) dX1_joinedMask_44 ?_
  exact Sim.fin ⟨dX1_joinedMask_45, rfl, rfl⟩ rfl
theorem M_X1_joinedMask (l : Launch) (a0 : Int32) (a1 : Int32) (a2 : Int32) (h : xH) {q : Int32 × xH} (hq : f_X1_joinedMask a0 a1 a2 h = some q) : xM l yX1_joinedMask cX1_joinedMask 3 (some .int) 0 [.int a0, .int a1, .int a2] h (some (.int q.1)) q.2 := xM_i (by decide +kernel) (Nat.le_of_ble_eq_true rfl) (fun K L => W_X1_joinedMask K L a0 a1 a2 h) hq
theorem dX1_becomeJoined_0 : decode cX1_becomeJoined 0 = .ok (.aload_n 0, 1) := by decide +kernel
theorem dX1_becomeJoined_1 : decode cX1_becomeJoined 1 = .ok (.aload_n 2, 1) := by decide +kernel
theorem dX1_becomeJoined_2 : decode cX1_becomeJoined 2 = .ok (.getfield 15, 3) := by decide +kernel
theorem dX1_becomeJoined_5 : decode cX1_becomeJoined 5 = .ok (.aload_n 3, 1) := by decide +kernel
theorem dX1_becomeJoined_6 : decode cX1_becomeJoined 6 = .ok (.getfield 15, 3) := by decide +kernel
theorem dX1_becomeJoined_9 : decode cX1_becomeJoined 9 = .ok (.invokestatic 49, 3) := by decide +kernel
theorem dX1_becomeJoined_12 : decode cX1_becomeJoined 12 = .ok (.putfield 15, 3) := by decide +kernel
theorem dX1_becomeJoined_15 : decode cX1_becomeJoined 15 = .ok (.iconst 0, 1) := by decide +kernel
theorem dX1_becomeJoined_16 : decode cX1_becomeJoined 16 = .ok (.istore 4, 2) := by decide +kernel
theorem dX1_becomeJoined_18 : decode cX1_becomeJoined 18 = .ok (.iload 4, 2) := by decide +kernel
theorem dX1_becomeJoined_20 : decode cX1_becomeJoined 20 = .ok (.bipush 32, 2) := by decide +kernel
theorem dX1_becomeJoined_22 : decode cX1_becomeJoined 22 = .ok (.if_icmp .ge 34, 3) := by decide +kernel
theorem dX1_becomeJoined_25 : decode cX1_becomeJoined 25 = .ok (.aload_n 0, 1) := by decide +kernel
theorem dX1_becomeJoined_26 : decode cX1_becomeJoined 26 = .ok (.getfield 9, 3) := by decide +kernel
theorem dX1_becomeJoined_29 : decode cX1_becomeJoined 29 = .ok (.iload 4, 2) := by decide +kernel
theorem dX1_becomeJoined_31 : decode cX1_becomeJoined 31 = .ok (.iload_n 1, 1) := by decide +kernel
theorem dX1_becomeJoined_32 : decode cX1_becomeJoined 32 = .ok (.aload_n 2, 1) := by decide +kernel
theorem dX1_becomeJoined_33 : decode cX1_becomeJoined 33 = .ok (.getfield 9, 3) := by decide +kernel
theorem dX1_becomeJoined_36 : decode cX1_becomeJoined 36 = .ok (.iload 4, 2) := by decide +kernel
theorem dX1_becomeJoined_38 : decode cX1_becomeJoined 38 = .ok (.iaload, 1) := by decide +kernel
theorem dX1_becomeJoined_39 : decode cX1_becomeJoined 39 = .ok (.aload_n 3, 1) := by decide +kernel
theorem dX1_becomeJoined_40 : decode cX1_becomeJoined 40 = .ok (.getfield 9, 3) := by decide +kernel
theorem dX1_becomeJoined_43 : decode cX1_becomeJoined 43 = .ok (.iload 4, 2) := by decide +kernel
theorem dX1_becomeJoined_45 : decode cX1_becomeJoined 45 = .ok (.iaload, 1) := by decide +kernel
theorem dX1_becomeJoined_46 : decode cX1_becomeJoined 46 = .ok (.invokestatic 55, 3) := by decide +kernel
theorem dX1_becomeJoined_49 : decode cX1_becomeJoined 49 = .ok (.iastore, 1) := by decide +kernel
theorem dX1_becomeJoined_50 : decode cX1_becomeJoined 50 = .ok (.iinc 4 1, 3) := by decide +kernel
theorem dX1_becomeJoined_53 : decode cX1_becomeJoined 53 = .ok (.goto (-35), 3) := by decide +kernel
theorem dX1_becomeJoined_56 : decode cX1_becomeJoined 56 = .ok (.return_, 1) := by decide +kernel
set_option maxRecDepth 20000 in
set_option maxHeartbeats 4000000 in
theorem L_X1_becomeJoined_18 (K : xK) (L : xL) : ∀ (n : Nat) (a0 : Nat) (a1 : Int32) (a2 : Nat) (a3 : Nat) (a4 : Int32) (h : xH), Sim K L cX1_becomeJoined RX1 "becomeJoined" 5 1 (fun q : Int32 × xH => q.2) (fun q pc' ls' st' h' => pc' = 56 ∧ ls' = [(0, .ref a0), (1, .int a1), (2, .ref a2), (3, .ref a3), (4, .int q.1)] ∧ st' = [] ∧ h' = q.2) 18 [(0, .ref a0), (1, .int a1), (2, .ref a2), (3, .ref a3), (4, .int a4)] [] h (f_X1_becomeJoined_L18 n a0 a1 a2 a3 a4 h) := by
  intro n
  induction n with
  | zero =>
    intro a0 a1 a2 a3 a4 h
    exact Sim.none
  | succ n ih =>
    intro a0 a1 a2 a3 a4 h
    unfold f_X1_becomeJoined_L18
    refine S_iload (pc := 18) 4 rfl dX1_becomeJoined_18 ?_
    refine S_bipush (pc := 20) dX1_becomeJoined_20 bi_32 ?_
    refine S_icmp_ge (pc := 22) (tgt := 56) dX1_becomeJoined_22 (by decide) ?_ ?_
    · refine S_sub [0, 1, 2, 3, 4] rfl ?_
      exact Sim.fin ⟨rfl, rfl, rfl, rfl⟩ rfl
    · refine S_aload_n (pc := 25) 0 rfl dX1_becomeJoined_25 rfl ?_
      refine S_getR (pc := 26) fd_X1_masks wd_78 dX1_becomeJoined_26 (fun v4 => ?_)
      refine S_iload (pc := 29) 4 rfl dX1_becomeJoined_29 ?_
      refine S_iload_n (pc := 31) 1 rfl dX1_becomeJoined_31 rfl ?_
      refine S_aload_n (pc := 32) 2 rfl dX1_becomeJoined_32 rfl ?_
      refine S_getR (pc := 33) fd_X1_masks wd_78 dX1_becomeJoined_33 (fun v5 => ?_)
      refine S_iload (pc := 36) 4 rfl dX1_becomeJoined_36 ?_
      refine S_aI (pc := 38) dX1_becomeJoined_38 (fun v6 => ?_)
      refine S_aload_n (pc := 39) 3 rfl dX1_becomeJoined_39 rfl ?_
      refine S_getR (pc := 40) fd_X1_masks wd_78 dX1_becomeJoined_40 (fun v7 => ?_)
      refine S_iload (pc := 43) 4 rfl dX1_becomeJoined_43 ?_
      refine S_aI (pc := 45) dX1_becomeJoined_45 (fun v8 => ?_)
      refine S_call_i (pc := 46) (rest := [.int a4, .ref v4]) (fun q hq => R_S (av := [.int a1, .int v6, .int v8]) (M_X1_joinedMask _ a1 v6 v8 h hq) wd_489 wd_487 wd_488 wd_45 hd_X1_joinedMask ⟨Nat.le_of_ble_eq_true rfl, Nat.le_of_ble_eq_true rfl⟩ rfl (Nat.le_of_ble_eq_true rfl) dX1_becomeJoined_46) (fun _ h => List.mem_cons_of_mem _ (List.mem_cons_of_mem _ (List.mem_cons_of_mem _ (h)))) (fun q9 => ?_)
      refine S_uI (pc := 49) dX1_becomeJoined_49 (fun h10 => ?_)
      refine S_iinc (pc := 50) (v := a4 + (1 : Int32)) 4 rfl dX1_becomeJoined_50 (x_inc ic_1) (Nat.le_of_ble_eq_true rfl) rfl ?_
      refine S_goto (pc := 53) (tgt := 18) dX1_becomeJoined_53 (by decide) ?_
      refine S_sub [1, 2, 3, 4, 0] rfl ?_
      exact ih a0 a1 a2 a3 (a4 + (1 : Int32)) h10
set_option maxRecDepth 20000 in
set_option maxHeartbeats 4000000 in
theorem W_X1_becomeJoined (K : xK) (L : xL) (a0 : Nat) (a1 : Int32) (a2 : Nat) (a3 : Nat) (h : xH) : Sim K L cX1_becomeJoined RX1 "becomeJoined" 5 1 (fun q : xH => q) (xRv cX1_becomeJoined) 0 [(0, .ref a0), (1, .int a1), (2, .ref a2), (3, .ref a3)] [] h (f_X1_becomeJoined a0 a1 a2 a3 h) := by
  unfold f_X1_becomeJoined
  refine S_aload_n (pc := 0) 0 rfl dX1_becomeJoined_0 rfl ?_
  refine S_aload_n (pc := 1) 2 rfl dX1_becomeJoined_1 rfl ?_
  refine S_getI (pc := 2) fd_X1_length wd_80 dX1_becomeJoined_2 (fun v1 => ?_)
  refine S_aload_n (pc := 5) 3 rfl dX1_becomeJoined_5 rfl ?_
  refine S_getI (pc := 6) fd_X1_length wd_80 dX1_becomeJoined_6 (fun v2 => ?_)
  refine S_mmax (pc := 9) (Nat.le_of_ble_eq_true rfl) wd_486 wd_476 wd_59 wdm_max (Nat.le_of_ble_eq_true rfl) dX1_becomeJoined_9 ?_
  refine S_putI (pc := 12) fd_X1_length wd_80 rfl rfl dX1_becomeJoined_12 (fun h3 => ?_)
  refine S_iconst (pc := 15) dX1_becomeJoined_15 ic_0 ?_
  refine S_istore (pc := 16) dX1_becomeJoined_16 (Nat.le_of_ble_eq_true rfl) rfl ?_
  refine S_sub [1, 2, 3, 4, 0] rfl ?_
  refine Sim.bind (hs := fun q11 : Int32 × xH => q11.2) (px := 56) (lsx := fun q11 => [(0, .ref a0), (1, .int a1), (2, .ref a2), (3, .ref a3), (4, .int q11.1)]) (L_X1_becomeJoined_18 K L xN a0 a1 a2 a3 (0 : Int32) h3) (fun q11 => ?_)
  exact Sim.fin ⟨dX1_becomeJoined_56, rfl, rfl⟩ rfl
theorem M_X1_becomeJoined (l : Launch) (a0 : Nat) (a1 : Int32) (a2 : Nat) (a3 : Nat) (h : xH) {q : xH} (hq : f_X1_becomeJoined a0 a1 a2 a3 h = some q) : xM l yX1_becomeJoined cX1_becomeJoined 5 none 1 [.ref a0, .int a1, .ref a2, .ref a3] h none q := xM_v (by decide +kernel) (Nat.le_of_ble_eq_true rfl) (fun K L => W_X1_becomeJoined K L a0 a1 a2 a3 h) hq
theorem dX11_firstPlaces_0 : decode cX11_firstPlaces 0 = .ok (.iconst 1, 1) := by decide +kernel
theorem dX11_firstPlaces_1 : decode cX11_firstPlaces 1 = .ok (.iconst 0, 1) := by decide +kernel
theorem dX11_firstPlaces_2 : decode cX11_firstPlaces 2 = .ok (.iload_n 0, 1) := by decide +kernel
theorem dX11_firstPlaces_3 : decode cX11_firstPlaces 3 = .ok (.bipush 15, 2) := by decide +kernel
theorem dX11_firstPlaces_5 : decode cX11_firstPlaces 5 = .ok (.invokestatic 305, 3) := by decide +kernel
theorem dX11_firstPlaces_8 : decode cX11_firstPlaces 8 = .ok (.invokestatic 310, 3) := by decide +kernel
theorem dX11_firstPlaces_11 : decode cX11_firstPlaces 11 = .ok (.ishl, 1) := by decide +kernel
theorem dX11_firstPlaces_12 : decode cX11_firstPlaces 12 = .ok (.iconst 1, 1) := by decide +kernel
theorem dX11_firstPlaces_13 : decode cX11_firstPlaces 13 = .ok (.isub, 1) := by decide +kernel
theorem dX11_firstPlaces_14 : decode cX11_firstPlaces 14 = .ok (.ireturn, 1) := by decide +kernel
set_option maxRecDepth 20000 in
set_option maxHeartbeats 4000000 in
theorem W_X11_firstPlaces (K : xK) (L : xL) (a0 : Int32) (h : xH) : Sim K L cX11_firstPlaces RX11 "firstPlaces" 1 1 (fun q : Int32 × xH => q.2) (xRi cX11_firstPlaces) 0 [(0, .int a0)] [] h (f_X11_firstPlaces a0 h) := by
  unfold f_X11_firstPlaces
  refine S_iconst (pc := 0) dX11_firstPlaces_0 ic_1 ?_
  refine S_iconst (pc := 1) dX11_firstPlaces_1 ic_0 ?_
  refine S_iload_n (pc := 2) 0 rfl dX11_firstPlaces_2 rfl ?_
  refine S_bipush (pc := 3) dX11_firstPlaces_3 bi_15 ?_
  refine S_mmin (pc := 5) (Nat.le_of_ble_eq_true rfl) wd_472 wd_473 wd_59 wdm_min (Nat.le_of_ble_eq_true rfl) dX11_firstPlaces_5 ?_
  refine S_mmax (pc := 8) (Nat.le_of_ble_eq_true rfl) wd_475 wd_476 wd_59 wdm_max (Nat.le_of_ble_eq_true rfl) dX11_firstPlaces_8 ?_
  refine S_ishl (pc := 11) dX11_firstPlaces_11 ?_
  refine S_iconst (pc := 12) dX11_firstPlaces_12 ic_1 ?_
  refine S_isub (pc := 13) dX11_firstPlaces_13 ?_
  exact Sim.fin ⟨dX11_firstPlaces_14, rfl, rfl⟩ rfl
theorem M_X11_firstPlaces (l : Launch) (a0 : Int32) (h : xH) {q : Int32 × xH} (hq : f_X11_firstPlaces a0 h = some q) : xM l yX11_firstPlaces cX11_firstPlaces 1 (some .int) 1 [.int a0] h (some (.int q.1)) q.2 := xM_i (by decide +kernel) (Nat.le_of_ble_eq_true rfl) (fun K L => W_X11_firstPlaces K L a0 h) hq
theorem dJ6_bitCount_0f7a4_0 : decode cJ6_bitCount_0f7a4 0 = .ok (.iload_n 0, 1) := by decide +kernel
theorem dJ6_bitCount_0f7a4_1 : decode cJ6_bitCount_0f7a4 1 = .ok (.iload_n 0, 1) := by decide +kernel
theorem dJ6_bitCount_0f7a4_2 : decode cJ6_bitCount_0f7a4 2 = .ok (.iconst 1, 1) := by decide +kernel
theorem dJ6_bitCount_0f7a4_3 : decode cJ6_bitCount_0f7a4 3 = .ok (.iushr, 1) := by decide +kernel
theorem dJ6_bitCount_0f7a4_4 : decode cJ6_bitCount_0f7a4 4 = .ok (.ldc_w 265, 3) := by decide +kernel
theorem dJ6_bitCount_0f7a4_7 : decode cJ6_bitCount_0f7a4 7 = .ok (.iand, 1) := by decide +kernel
theorem dJ6_bitCount_0f7a4_8 : decode cJ6_bitCount_0f7a4 8 = .ok (.isub, 1) := by decide +kernel
theorem dJ6_bitCount_0f7a4_9 : decode cJ6_bitCount_0f7a4 9 = .ok (.istore_n 0, 1) := by decide +kernel
theorem dJ6_bitCount_0f7a4_10 : decode cJ6_bitCount_0f7a4 10 = .ok (.iload_n 0, 1) := by decide +kernel
theorem dJ6_bitCount_0f7a4_11 : decode cJ6_bitCount_0f7a4 11 = .ok (.ldc_w 266, 3) := by decide +kernel
theorem dJ6_bitCount_0f7a4_14 : decode cJ6_bitCount_0f7a4 14 = .ok (.iand, 1) := by decide +kernel
theorem dJ6_bitCount_0f7a4_15 : decode cJ6_bitCount_0f7a4 15 = .ok (.iload_n 0, 1) := by decide +kernel
theorem dJ6_bitCount_0f7a4_16 : decode cJ6_bitCount_0f7a4 16 = .ok (.iconst 2, 1) := by decide +kernel
theorem dJ6_bitCount_0f7a4_17 : decode cJ6_bitCount_0f7a4 17 = .ok (.iushr, 1) := by decide +kernel
theorem dJ6_bitCount_0f7a4_18 : decode cJ6_bitCount_0f7a4 18 = .ok (.ldc_w 266, 3) := by decide +kernel
theorem dJ6_bitCount_0f7a4_21 : decode cJ6_bitCount_0f7a4 21 = .ok (.iand, 1) := by decide +kernel
theorem dJ6_bitCount_0f7a4_22 : decode cJ6_bitCount_0f7a4 22 = .ok (.iadd, 1) := by decide +kernel
theorem dJ6_bitCount_0f7a4_23 : decode cJ6_bitCount_0f7a4 23 = .ok (.istore_n 0, 1) := by decide +kernel
theorem dJ6_bitCount_0f7a4_24 : decode cJ6_bitCount_0f7a4 24 = .ok (.iload_n 0, 1) := by decide +kernel
theorem dJ6_bitCount_0f7a4_25 : decode cJ6_bitCount_0f7a4 25 = .ok (.iload_n 0, 1) := by decide +kernel
theorem dJ6_bitCount_0f7a4_26 : decode cJ6_bitCount_0f7a4 26 = .ok (.iconst 4, 1) := by decide +kernel
theorem dJ6_bitCount_0f7a4_27 : decode cJ6_bitCount_0f7a4 27 = .ok (.iushr, 1) := by decide +kernel
theorem dJ6_bitCount_0f7a4_28 : decode cJ6_bitCount_0f7a4 28 = .ok (.iadd, 1) := by decide +kernel
theorem dJ6_bitCount_0f7a4_29 : decode cJ6_bitCount_0f7a4 29 = .ok (.ldc_w 267, 3) := by decide +kernel
theorem dJ6_bitCount_0f7a4_32 : decode cJ6_bitCount_0f7a4 32 = .ok (.iand, 1) := by decide +kernel
theorem dJ6_bitCount_0f7a4_33 : decode cJ6_bitCount_0f7a4 33 = .ok (.istore_n 0, 1) := by decide +kernel
theorem dJ6_bitCount_0f7a4_34 : decode cJ6_bitCount_0f7a4 34 = .ok (.iload_n 0, 1) := by decide +kernel
theorem dJ6_bitCount_0f7a4_35 : decode cJ6_bitCount_0f7a4 35 = .ok (.iload_n 0, 1) := by decide +kernel
theorem dJ6_bitCount_0f7a4_36 : decode cJ6_bitCount_0f7a4 36 = .ok (.bipush 8, 2) := by decide +kernel
theorem dJ6_bitCount_0f7a4_38 : decode cJ6_bitCount_0f7a4 38 = .ok (.iushr, 1) := by decide +kernel
theorem dJ6_bitCount_0f7a4_39 : decode cJ6_bitCount_0f7a4 39 = .ok (.iadd, 1) := by decide +kernel
theorem dJ6_bitCount_0f7a4_40 : decode cJ6_bitCount_0f7a4 40 = .ok (.istore_n 0, 1) := by decide +kernel
theorem dJ6_bitCount_0f7a4_41 : decode cJ6_bitCount_0f7a4 41 = .ok (.iload_n 0, 1) := by decide +kernel
theorem dJ6_bitCount_0f7a4_42 : decode cJ6_bitCount_0f7a4 42 = .ok (.iload_n 0, 1) := by decide +kernel
theorem dJ6_bitCount_0f7a4_43 : decode cJ6_bitCount_0f7a4 43 = .ok (.bipush 16, 2) := by decide +kernel
theorem dJ6_bitCount_0f7a4_45 : decode cJ6_bitCount_0f7a4 45 = .ok (.iushr, 1) := by decide +kernel
theorem dJ6_bitCount_0f7a4_46 : decode cJ6_bitCount_0f7a4 46 = .ok (.iadd, 1) := by decide +kernel
theorem dJ6_bitCount_0f7a4_47 : decode cJ6_bitCount_0f7a4 47 = .ok (.istore_n 0, 1) := by decide +kernel
theorem dJ6_bitCount_0f7a4_48 : decode cJ6_bitCount_0f7a4 48 = .ok (.iload_n 0, 1) := by decide +kernel
theorem dJ6_bitCount_0f7a4_49 : decode cJ6_bitCount_0f7a4 49 = .ok (.bipush 63, 2) := by decide +kernel
theorem dJ6_bitCount_0f7a4_51 : decode cJ6_bitCount_0f7a4 51 = .ok (.iand, 1) := by decide +kernel
theorem dJ6_bitCount_0f7a4_52 : decode cJ6_bitCount_0f7a4 52 = .ok (.ireturn, 1) := by decide +kernel
set_option maxRecDepth 20000 in
set_option maxHeartbeats 4000000 in
theorem W_J6_bitCount_0f7a4 (K : xK) (L : xL) (a0 : Int32) (h : xH) : Sim K L cJ6_bitCount_0f7a4 RJ6 "bitCount" 1 0 (fun q : Int32 × xH => q.2) (xRi cJ6_bitCount_0f7a4) 0 [(0, .int a0)] [] h (f_J6_bitCount_0f7a4 a0 h) := by
  unfold f_J6_bitCount_0f7a4
  refine S_iload_n (pc := 0) 0 rfl dJ6_bitCount_0f7a4_0 rfl ?_
  refine S_iload_n (pc := 1) 0 rfl dJ6_bitCount_0f7a4_1 rfl ?_
  refine S_iconst (pc := 2) dJ6_bitCount_0f7a4_2 ic_1 ?_
  refine S_iushr (pc := 3) dJ6_bitCount_0f7a4_3 ?_
  refine S_ldcw (pc := 4) wd_501 dJ6_bitCount_0f7a4_4 ?_
  refine S_iand (pc := 7) dJ6_bitCount_0f7a4_7 ?_
  refine S_isub (pc := 8) dJ6_bitCount_0f7a4_8 ?_
  refine S_istore_n (pc := 9) dJ6_bitCount_0f7a4_9 rfl (Nat.le_of_ble_eq_true rfl) rfl ?_
  refine S_iload_n (pc := 10) 0 rfl dJ6_bitCount_0f7a4_10 rfl ?_
  refine S_ldcw (pc := 11) wd_502 dJ6_bitCount_0f7a4_11 ?_
  refine S_iand (pc := 14) dJ6_bitCount_0f7a4_14 ?_
  refine S_iload_n (pc := 15) 0 rfl dJ6_bitCount_0f7a4_15 rfl ?_
  refine S_iconst (pc := 16) dJ6_bitCount_0f7a4_16 ic_2 ?_
  refine S_iushr (pc := 17) dJ6_bitCount_0f7a4_17 ?_
  refine S_ldcw (pc := 18) wd_502 dJ6_bitCount_0f7a4_18 ?_
  refine S_iand (pc := 21) dJ6_bitCount_0f7a4_21 ?_
  refine S_iadd (pc := 22) dJ6_bitCount_0f7a4_22 ?_
  refine S_istore_n (pc := 23) dJ6_bitCount_0f7a4_23 rfl (Nat.le_of_ble_eq_true rfl) rfl ?_
  refine S_iload_n (pc := 24) 0 rfl dJ6_bitCount_0f7a4_24 rfl ?_
  refine S_iload_n (pc := 25) 0 rfl dJ6_bitCount_0f7a4_25 rfl ?_
  refine S_iconst (pc := 26) dJ6_bitCount_0f7a4_26 ic_4 ?_
  refine S_iushr (pc := 27) dJ6_bitCount_0f7a4_27 ?_
  refine S_iadd (pc := 28) dJ6_bitCount_0f7a4_28 ?_
  refine S_ldcw (pc := 29) wd_503 dJ6_bitCount_0f7a4_29 ?_
  refine S_iand (pc := 32) dJ6_bitCount_0f7a4_32 ?_
  refine S_istore_n (pc := 33) dJ6_bitCount_0f7a4_33 rfl (Nat.le_of_ble_eq_true rfl) rfl ?_
  refine S_iload_n (pc := 34) 0 rfl dJ6_bitCount_0f7a4_34 rfl ?_
  refine S_iload_n (pc := 35) 0 rfl dJ6_bitCount_0f7a4_35 rfl ?_
  refine S_bipush (pc := 36) dJ6_bitCount_0f7a4_36 bi_8 ?_
  refine S_iushr (pc := 38) dJ6_bitCount_0f7a4_38 ?_
  refine S_iadd (pc := 39) dJ6_bitCount_0f7a4_39 ?_
  refine S_istore_n (pc := 40) dJ6_bitCount_0f7a4_40 rfl (Nat.le_of_ble_eq_true rfl) rfl ?_
  refine S_iload_n (pc := 41) 0 rfl dJ6_bitCount_0f7a4_41 rfl ?_
  refine S_iload_n (pc := 42) 0 rfl dJ6_bitCount_0f7a4_42 rfl ?_
  refine S_bipush (pc := 43) dJ6_bitCount_0f7a4_43 bi_16 ?_
  refine S_iushr (pc := 45) dJ6_bitCount_0f7a4_45 ?_
  refine S_iadd (pc := 46) dJ6_bitCount_0f7a4_46 ?_
  refine S_istore_n (pc := 47) dJ6_bitCount_0f7a4_47 rfl (Nat.le_of_ble_eq_true rfl) rfl ?_
  refine S_iload_n (pc := 48) 0 rfl dJ6_bitCount_0f7a4_48 rfl ?_
  refine S_bipush (pc := 49) dJ6_bitCount_0f7a4_49 bi_63 ?_
  refine S_iand (pc := 51) dJ6_bitCount_0f7a4_51 ?_
  exact Sim.fin ⟨dJ6_bitCount_0f7a4_52, rfl, rfl⟩ rfl
theorem M_J6_bitCount_0f7a4 (l : Launch) (a0 : Int32) (h : xH) {q : Int32 × xH} (hq : f_J6_bitCount_0f7a4 a0 h = some q) : xM l yJ6_bitCount_0f7a4 cJ6_bitCount_0f7a4 1 (some .int) 0 [.int a0] h (some (.int q.1)) q.2 := xM_i (by decide +kernel) (Nat.le_of_ble_eq_true rfl) (fun K L => W_J6_bitCount_0f7a4 K L a0 h) hq
theorem dX1_onesAhead_0 : decode cX1_onesAhead 0 = .ok (.iconst 0, 1) := by decide +kernel
theorem dX1_onesAhead_1 : decode cX1_onesAhead 1 = .ok (.istore_n 2, 1) := by decide +kernel
theorem dX1_onesAhead_2 : decode cX1_onesAhead 2 = .ok (.iconst 0, 1) := by decide +kernel
theorem dX1_onesAhead_3 : decode cX1_onesAhead 3 = .ok (.istore_n 3, 1) := by decide +kernel
theorem dX1_onesAhead_4 : decode cX1_onesAhead 4 = .ok (.iload_n 3, 1) := by decide +kernel
theorem dX1_onesAhead_5 : decode cX1_onesAhead 5 = .ok (.bipush 32, 2) := by decide +kernel
theorem dX1_onesAhead_7 : decode cX1_onesAhead 7 = .ok (.if_icmp .ge 31, 3) := by decide +kernel
theorem dX1_onesAhead_10 : decode cX1_onesAhead 10 = .ok (.iload_n 2, 1) := by decide +kernel
theorem dX1_onesAhead_11 : decode cX1_onesAhead 11 = .ok (.aload_n 0, 1) := by decide +kernel
theorem dX1_onesAhead_12 : decode cX1_onesAhead 12 = .ok (.getfield 9, 3) := by decide +kernel
theorem dX1_onesAhead_15 : decode cX1_onesAhead 15 = .ok (.iload_n 3, 1) := by decide +kernel
theorem dX1_onesAhead_16 : decode cX1_onesAhead 16 = .ok (.iaload, 1) := by decide +kernel
theorem dX1_onesAhead_17 : decode cX1_onesAhead 17 = .ok (.iload_n 1, 1) := by decide +kernel
theorem dX1_onesAhead_18 : decode cX1_onesAhead 18 = .ok (.bipush 15, 2) := by decide +kernel
theorem dX1_onesAhead_20 : decode cX1_onesAhead 20 = .ok (.iload_n 3, 1) := by decide +kernel
theorem dX1_onesAhead_21 : decode cX1_onesAhead 21 = .ok (.imul, 1) := by decide +kernel
theorem dX1_onesAhead_22 : decode cX1_onesAhead 22 = .ok (.isub, 1) := by decide +kernel
theorem dX1_onesAhead_23 : decode cX1_onesAhead 23 = .ok (.invokestatic 40, 3) := by decide +kernel
theorem dX1_onesAhead_26 : decode cX1_onesAhead 26 = .ok (.iand, 1) := by decide +kernel
theorem dX1_onesAhead_27 : decode cX1_onesAhead 27 = .ok (.invokestatic 59, 3) := by decide +kernel
theorem dX1_onesAhead_30 : decode cX1_onesAhead 30 = .ok (.iadd, 1) := by decide +kernel
theorem dX1_onesAhead_31 : decode cX1_onesAhead 31 = .ok (.istore_n 2, 1) := by decide +kernel
theorem dX1_onesAhead_32 : decode cX1_onesAhead 32 = .ok (.iinc 3 1, 3) := by decide +kernel
theorem dX1_onesAhead_35 : decode cX1_onesAhead 35 = .ok (.goto (-31), 3) := by decide +kernel
theorem dX1_onesAhead_38 : decode cX1_onesAhead 38 = .ok (.iload_n 2, 1) := by decide +kernel
theorem dX1_onesAhead_39 : decode cX1_onesAhead 39 = .ok (.ireturn, 1) := by decide +kernel
set_option maxRecDepth 20000 in
set_option maxHeartbeats 4000000 in
theorem L_X1_onesAhead_4 (K : xK) (L : xL) : ∀ (n : Nat) (a0 : Nat) (a1 : Int32) (a2 : Int32) (a3 : Int32) (h : xH), Sim K L cX1_onesAhead RX1 "onesAhead" 4 2 (fun q : Int32 × Int32 × xH => q.2.2) (fun q pc' ls' st' h' => pc' = 38 ∧ ls' = [(0, .ref a0), (1, .int a1), (2, .int q.1), (3, .int q.2.1)] ∧ st' = [] ∧ h' = q.2.2) 4 [(0, .ref a0), (1, .int a1), (2, .int a2), (3, .int a3)] [] h (f_X1_onesAhead_L4 n a0 a1 a2 a3 h) := by
  intro n
  induction n with
  | zero =>
    intro a0 a1 a2 a3 h
    exact Sim.none
  | succ n ih =>
    intro a0 a1 a2 a3 h
    unfold f_X1_onesAhead_L4
    refine S_iload_n (pc := 4) 3 rfl dX1_onesAhead_4 rfl ?_
    refine S_bipush (pc := 5) dX1_onesAhead_5 bi_32 ?_
    refine S_icmp_ge (pc := 7) (tgt := 38) dX1_onesAhead_7 (by decide) ?_ ?_
    · refine S_sub [0, 1, 2, 3] rfl ?_
      exact Sim.fin ⟨rfl, rfl, rfl, rfl⟩ rfl
    · refine S_iload_n (pc := 10) 2 rfl dX1_onesAhead_10 rfl ?_
      refine S_aload_n (pc := 11) 0 rfl dX1_onesAhead_11 rfl ?_
      refine S_getR (pc := 12) fd_X1_masks wd_78 dX1_onesAhead_12 (fun v1 => ?_)
      refine S_iload_n (pc := 15) 3 rfl dX1_onesAhead_15 rfl ?_
      refine S_aI (pc := 16) dX1_onesAhead_16 (fun v2 => ?_)
      refine S_iload_n (pc := 17) 1 rfl dX1_onesAhead_17 rfl ?_
      refine S_bipush (pc := 18) dX1_onesAhead_18 bi_15 ?_
      refine S_iload_n (pc := 20) 3 rfl dX1_onesAhead_20 rfl ?_
      refine S_imul (pc := 21) dX1_onesAhead_21 ?_
      refine S_isub (pc := 22) dX1_onesAhead_22 ?_
      refine S_call_i (pc := 23) (rest := [.int v2, .int a2]) (fun q hq => R_SN (av := [.int (a1 - ((15 : Int32) * a3))]) (host := RX11) (M_X11_firstPlaces _ (a1 - ((15 : Int32) * a3)) h hq) wd_471 (by decide +kernel) wd_470 wd_44 hd_X11_firstPlaces ⟨Nat.le_of_ble_eq_true rfl, Nat.le_of_ble_eq_true rfl⟩ rfl (Nat.le_of_ble_eq_true rfl) dX1_onesAhead_23) (fun _ h => List.mem_cons_of_mem _ (h)) (fun q3 => ?_)
      refine S_iand (pc := 26) dX1_onesAhead_26 ?_
      refine S_call_i (pc := 27) (rest := [.int a2]) (fun q hq => R_S (av := [.int (v2 &&& q3.1)]) (M_J6_bitCount_0f7a4 _ (v2 &&& q3.1) q3.2 hq) wd_500 wd_498 wd_499 wd_60 hd_J6_bitCount_0f7a4 ⟨Nat.le_of_ble_eq_true rfl, Nat.le_of_ble_eq_true rfl⟩ rfl (Nat.le_of_ble_eq_true rfl) dX1_onesAhead_27) (fun _ h => List.mem_cons_of_mem _ (h)) (fun q4 => ?_)
      refine S_iadd (pc := 30) dX1_onesAhead_30 ?_
      refine S_istore_n (pc := 31) dX1_onesAhead_31 rfl (Nat.le_of_ble_eq_true rfl) rfl ?_
      refine S_iinc (pc := 32) (v := a3 + (1 : Int32)) 3 rfl dX1_onesAhead_32 (x_inc ic_1) (Nat.le_of_ble_eq_true rfl) rfl ?_
      refine S_goto (pc := 35) (tgt := 4) dX1_onesAhead_35 (by decide) ?_
      refine S_sub [2, 3, 1, 0] rfl ?_
      exact ih a0 a1 (a2 + q4.1) (a3 + (1 : Int32)) q4.2
set_option maxRecDepth 20000 in
set_option maxHeartbeats 4000000 in
theorem W_X1_onesAhead (K : xK) (L : xL) (a0 : Nat) (a1 : Int32) (h : xH) : Sim K L cX1_onesAhead RX1 "onesAhead" 4 2 (fun q : Int32 × xH => q.2) (xRi cX1_onesAhead) 0 [(0, .ref a0), (1, .int a1)] [] h (f_X1_onesAhead a0 a1 h) := by
  unfold f_X1_onesAhead
  refine S_iconst (pc := 0) dX1_onesAhead_0 ic_0 ?_
  refine S_istore_n (pc := 1) dX1_onesAhead_1 rfl (Nat.le_of_ble_eq_true rfl) rfl ?_
  refine S_iconst (pc := 2) dX1_onesAhead_2 ic_0 ?_
  refine S_istore_n (pc := 3) dX1_onesAhead_3 rfl (Nat.le_of_ble_eq_true rfl) rfl ?_
  refine S_sub [2, 3, 1, 0] rfl ?_
  refine Sim.bind (hs := fun q5 : Int32 × Int32 × xH => q5.2.2) (px := 38) (lsx := fun q5 => [(0, .ref a0), (1, .int a1), (2, .int q5.1), (3, .int q5.2.1)]) (L_X1_onesAhead_4 K L xN a0 a1 (0 : Int32) (0 : Int32) h) (fun q5 => ?_)
  refine S_iload_n (pc := 38) 2 rfl dX1_onesAhead_38 rfl ?_
  exact Sim.fin ⟨dX1_onesAhead_39, rfl, rfl⟩ rfl
theorem M_X1_onesAhead (l : Launch) (a0 : Nat) (a1 : Int32) (h : xH) {q : Int32 × xH} (hq : f_X1_onesAhead a0 a1 h = some q) : xM l yX1_onesAhead cX1_onesAhead 4 (some .int) 2 [.ref a0, .int a1] h (some (.int q.1)) q.2 := xM_i (by decide +kernel) (Nat.le_of_ble_eq_true rfl) (fun K L => W_X1_onesAhead K L a0 a1 h) hq
theorem dX1_countOnes_0 : decode cX1_countOnes 0 = .ok (.aload_n 0, 1) := by decide +kernel
theorem dX1_countOnes_1 : decode cX1_countOnes 1 = .ok (.aload_n 0, 1) := by decide +kernel
theorem dX1_countOnes_2 : decode cX1_countOnes 2 = .ok (.getfield 15, 3) := by decide +kernel
theorem dX1_countOnes_5 : decode cX1_countOnes 5 = .ok (.invokevirtual 64, 3) := by decide +kernel
theorem dX1_countOnes_8 : decode cX1_countOnes 8 = .ok (.ireturn, 1) := by decide +kernel
set_option maxRecDepth 20000 in
set_option maxHeartbeats 4000000 in
theorem W_X1_countOnes (K : xK) (L : xL) (a0 : Nat) (h : xH) : Sim K L cX1_countOnes RX1 "countOnes" 1 3 (fun q : Int32 × xH => q.2) (xRi cX1_countOnes) 0 [(0, .ref a0)] [] h (f_X1_countOnes a0 h) := by
  unfold f_X1_countOnes
  refine S_aload_n (pc := 0) 0 rfl dX1_countOnes_0 rfl ?_
  refine S_aload_n (pc := 1) 0 rfl dX1_countOnes_1 rfl ?_
  refine S_getI (pc := 2) fd_X1_length wd_80 dX1_countOnes_2 (fun v1 => ?_)
  refine S_call_i (pc := 5) (rest := []) (fun q hq => (x_if hq).elim (fun z => R_V (av := [.int v1]) (q := (RX1, TX1, 2)) (M_X1_onesAhead _ a0 v1 h z.2) z.1 rfl wd_497 wd_494 wd_495 wd_45 wd_496 ⟨rfl, hd_X1_onesAhead⟩ ⟨Nat.le_of_ble_eq_true rfl, Nat.le_of_ble_eq_true rfl⟩ rfl (Nat.le_of_ble_eq_true rfl) dX1_countOnes_5) (fun hq => (by cases hq))) (fun _ h => absurd h List.not_mem_nil) (fun q2 => ?_)
  exact Sim.fin ⟨dX1_countOnes_8, rfl, rfl⟩ rfl
theorem M_X1_countOnes (l : Launch) (a0 : Nat) (h : xH) {q : Int32 × xH} (hq : f_X1_countOnes a0 h = some q) : xM l yX1_countOnes cX1_countOnes 1 (some .int) 3 [.ref a0] h (some (.int q.1)) q.2 := xM_i (by decide +kernel) (Nat.le_of_ble_eq_true rfl) (fun K L => W_X1_countOnes K L a0 h) hq
theorem dX11_alike_0 : decode cX11_alike 0 = .ok (.iload_n 1, 1) := by decide +kernel
theorem dX11_alike_1 : decode cX11_alike 1 = .ok (.invokestatic 113, 3) := by decide +kernel
theorem dX11_alike_4 : decode cX11_alike 4 = .ok (.ifCond .eq 19, 3) := by decide +kernel
theorem dX11_alike_7 : decode cX11_alike 7 = .ok (.iload_n 2, 1) := by decide +kernel
theorem dX11_alike_8 : decode cX11_alike 8 = .ok (.invokestatic 113, 3) := by decide +kernel
theorem dX11_alike_11 : decode cX11_alike 11 = .ok (.ifCond .eq 12, 3) := by decide +kernel
theorem dX11_alike_14 : decode cX11_alike 14 = .ok (.iload_n 3, 1) := by decide +kernel
theorem dX11_alike_15 : decode cX11_alike 15 = .ok (.ifCond .lt 8, 3) := by decide +kernel
theorem dX11_alike_18 : decode cX11_alike 18 = .ok (.iload_n 3, 1) := by decide +kernel
theorem dX11_alike_19 : decode cX11_alike 19 = .ok (.iconst 1, 1) := by decide +kernel
theorem dX11_alike_20 : decode cX11_alike 20 = .ok (.if_icmp .le 6, 3) := by decide +kernel
theorem dX11_alike_23 : decode cX11_alike 23 = .ok (.ldc 65, 2) := by decide +kernel
theorem dX11_alike_25 : decode cX11_alike 25 = .ok (.ireturn, 1) := by decide +kernel
theorem dX11_alike_26 : decode cX11_alike 26 = .ok (.aload_n 0, 1) := by decide +kernel
theorem dX11_alike_27 : decode cX11_alike 27 = .ok (.getfield 29, 3) := by decide +kernel
theorem dX11_alike_30 : decode cX11_alike 30 = .ok (.iconst 0, 1) := by decide +kernel
theorem dX11_alike_31 : decode cX11_alike 31 = .ok (.aload_n 0, 1) := by decide +kernel
theorem dX11_alike_32 : decode cX11_alike 32 = .ok (.getfield 17, 3) := by decide +kernel
theorem dX11_alike_35 : decode cX11_alike 35 = .ok (.iload_n 1, 1) := by decide +kernel
theorem dX11_alike_36 : decode cX11_alike 36 = .ok (.aaload, 1) := by decide +kernel
theorem dX11_alike_37 : decode cX11_alike 37 = .ok (.aload_n 0, 1) := by decide +kernel
theorem dX11_alike_38 : decode cX11_alike 38 = .ok (.getfield 17, 3) := by decide +kernel
theorem dX11_alike_41 : decode cX11_alike 41 = .ok (.iload_n 2, 1) := by decide +kernel
theorem dX11_alike_42 : decode cX11_alike 42 = .ok (.aaload, 1) := by decide +kernel
theorem dX11_alike_43 : decode cX11_alike 43 = .ok (.invokevirtual 163, 3) := by decide +kernel
theorem dX11_alike_46 : decode cX11_alike 46 = .ok (.aload_n 0, 1) := by decide +kernel
theorem dX11_alike_47 : decode cX11_alike 47 = .ok (.getfield 29, 3) := by decide +kernel
theorem dX11_alike_50 : decode cX11_alike 50 = .ok (.invokevirtual 167, 3) := by decide +kernel
theorem dX11_alike_53 : decode cX11_alike 53 = .ok (.istore 4, 2) := by decide +kernel
theorem dX11_alike_55 : decode cX11_alike 55 = .ok (.aload_n 0, 1) := by decide +kernel
theorem dX11_alike_56 : decode cX11_alike 56 = .ok (.getfield 29, 3) := by decide +kernel
theorem dX11_alike_59 : decode cX11_alike 59 = .ok (.iconst 1, 1) := by decide +kernel
theorem dX11_alike_60 : decode cX11_alike 60 = .ok (.aload_n 0, 1) := by decide +kernel
theorem dX11_alike_61 : decode cX11_alike 61 = .ok (.getfield 17, 3) := by decide +kernel
theorem dX11_alike_64 : decode cX11_alike 64 = .ok (.iload_n 1, 1) := by decide +kernel
theorem dX11_alike_65 : decode cX11_alike 65 = .ok (.aaload, 1) := by decide +kernel
theorem dX11_alike_66 : decode cX11_alike 66 = .ok (.aload_n 0, 1) := by decide +kernel
theorem dX11_alike_67 : decode cX11_alike 67 = .ok (.getfield 17, 3) := by decide +kernel
theorem dX11_alike_70 : decode cX11_alike 70 = .ok (.iload_n 2, 1) := by decide +kernel
theorem dX11_alike_71 : decode cX11_alike 71 = .ok (.aaload, 1) := by decide +kernel
theorem dX11_alike_72 : decode cX11_alike 72 = .ok (.invokevirtual 163, 3) := by decide +kernel
theorem dX11_alike_75 : decode cX11_alike 75 = .ok (.aload_n 0, 1) := by decide +kernel
theorem dX11_alike_76 : decode cX11_alike 76 = .ok (.getfield 29, 3) := by decide +kernel
theorem dX11_alike_79 : decode cX11_alike 79 = .ok (.invokevirtual 167, 3) := by decide +kernel
theorem dX11_alike_82 : decode cX11_alike 82 = .ok (.istore 5, 2) := by decide +kernel
theorem dX11_alike_84 : decode cX11_alike 84 = .ok (.iload 4, 2) := by decide +kernel
theorem dX11_alike_86 : decode cX11_alike 86 = .ok (.ifCond .ne 5, 3) := by decide +kernel
theorem dX11_alike_89 : decode cX11_alike 89 = .ok (.iload_n 3, 1) := by decide +kernel
theorem dX11_alike_90 : decode cX11_alike 90 = .ok (.ireturn, 1) := by decide +kernel
theorem dX11_alike_91 : decode cX11_alike 91 = .ok (.iload 5, 2) := by decide +kernel
theorem dX11_alike_93 : decode cX11_alike 93 = .ok (.iload 4, 2) := by decide +kernel
theorem dX11_alike_95 : decode cX11_alike 95 = .ok (.invokestatic 228, 3) := by decide +kernel
theorem dX11_alike_98 : decode cX11_alike 98 = .ok (.istore 6, 2) := by decide +kernel
theorem dX11_alike_100 : decode cX11_alike 100 = .ok (.iload_n 3, 1) := by decide +kernel
theorem dX11_alike_101 : decode cX11_alike 101 = .ok (.ifCond .ne 11, 3) := by decide +kernel
theorem dX11_alike_104 : decode cX11_alike 104 = .ok (.iload 4, 2) := by decide +kernel
theorem dX11_alike_106 : decode cX11_alike 106 = .ok (.iload 6, 2) := by decide +kernel
theorem dX11_alike_108 : decode cX11_alike 108 = .ok (.idiv, 1) := by decide +kernel
theorem dX11_alike_109 : decode cX11_alike 109 = .ok (.goto 8, 3) := by decide +kernel
theorem dX11_alike_112 : decode cX11_alike 112 = .ok (.iload 5, 2) := by decide +kernel
theorem dX11_alike_114 : decode cX11_alike 114 = .ok (.iload 6, 2) := by decide +kernel
theorem dX11_alike_116 : decode cX11_alike 116 = .ok (.idiv, 1) := by decide +kernel
theorem dX11_alike_117 : decode cX11_alike 117 = .ok (.ireturn, 1) := by decide +kernel
set_option maxRecDepth 20000 in
set_option maxHeartbeats 4000000 in
theorem W_X11_alike (K : xK) (L : xL) (a0 : Nat) (a1 : Int32) (a2 : Int32) (a3 : Int32) (h : xH) : Sim K L cX11_alike RX11 "alike" 7 4 (fun q : Int32 × xH => q.2) (xRi cX11_alike) 0 [(0, .ref a0), (1, .int a1), (2, .int a2), (3, .int a3)] [] h (f_X11_alike a0 a1 a2 a3 h) := by
  unfold f_X11_alike
  refine S_iload_n (pc := 0) 1 rfl dX11_alike_0 rfl ?_
  refine S_call_i (pc := 1) (rest := []) (fun q hq => R_S (av := [.int a1]) (M_X11_isVector _ a1 h hq) wd_293 wd_291 wd_292 wd_44 hd_X11_isVector ⟨Nat.le_of_ble_eq_true rfl, Nat.le_of_ble_eq_true rfl⟩ rfl (Nat.le_of_ble_eq_true rfl) dX11_alike_1) (fun _ h => absurd h List.not_mem_nil) (fun q1 => ?_)
  refine S_if_eq (pc := 4) (tgt := 23) dX11_alike_4 (by decide) ?_ ?_
  · refine S_ldc (pc := 23) wd_233 dX11_alike_23 ?_
    exact Sim.fin ⟨dX11_alike_25, rfl, rfl⟩ rfl
  · refine S_iload_n (pc := 7) 2 rfl dX11_alike_7 rfl ?_
    refine S_call_i (pc := 8) (rest := []) (fun q hq => R_S (av := [.int a2]) (M_X11_isVector _ a2 q1.2 hq) wd_293 wd_291 wd_292 wd_44 hd_X11_isVector ⟨Nat.le_of_ble_eq_true rfl, Nat.le_of_ble_eq_true rfl⟩ rfl (Nat.le_of_ble_eq_true rfl) dX11_alike_8) (fun _ h => absurd h List.not_mem_nil) (fun q2 => ?_)
    refine S_if_eq (pc := 11) (tgt := 23) dX11_alike_11 (by decide) ?_ ?_
    · refine S_ldc (pc := 23) wd_233 dX11_alike_23 ?_
      exact Sim.fin ⟨dX11_alike_25, rfl, rfl⟩ rfl
    · refine S_iload_n (pc := 14) 3 rfl dX11_alike_14 rfl ?_
      refine S_if_lt (pc := 15) (tgt := 23) dX11_alike_15 (by decide) ?_ ?_
      · refine S_ldc (pc := 23) wd_233 dX11_alike_23 ?_
        exact Sim.fin ⟨dX11_alike_25, rfl, rfl⟩ rfl
      · refine S_iload_n (pc := 18) 3 rfl dX11_alike_18 rfl ?_
        refine S_iconst (pc := 19) dX11_alike_19 ic_1 ?_
        refine S_icmp_le (pc := 20) (tgt := 26) dX11_alike_20 (by decide) ?_ ?_
        · refine S_aload_n (pc := 26) 0 rfl dX11_alike_26 rfl ?_
          refine S_getR (pc := 27) fd_X11_scratch wd_193 dX11_alike_27 (fun v3 => ?_)
          refine S_iconst (pc := 30) dX11_alike_30 ic_0 ?_
          refine S_aload_n (pc := 31) 0 rfl dX11_alike_31 rfl ?_
          refine S_getR (pc := 32) fd_X11_vectors wd_190 dX11_alike_32 (fun v4 => ?_)
          refine S_iload_n (pc := 35) 1 rfl dX11_alike_35 rfl ?_
          refine S_aR (pc := 36) (fun _ => rfl) dX11_alike_36 (fun v5 => ?_)
          refine S_aload_n (pc := 37) 0 rfl dX11_alike_37 rfl ?_
          refine S_getR (pc := 38) fd_X11_vectors wd_190 dX11_alike_38 (fun v6 => ?_)
          refine S_iload_n (pc := 41) 2 rfl dX11_alike_41 rfl ?_
          refine S_aR (pc := 42) (fun _ => rfl) dX11_alike_42 (fun v7 => ?_)
          refine S_call_v (pc := 43) (rest := []) (fun q hq => (x_if hq).elim (fun z => R_V (av := [.int (0 : Int32), .ref v5, .ref v7]) (q := (RX1, TX1, 2)) (M_X1_becomeJoined _ v3 (0 : Int32) v5 v7 q2.2 z.2) z.1 rfl wd_485 wd_482 wd_483 wd_45 wd_484 ⟨rfl, hd_X1_becomeJoined⟩ ⟨Nat.le_of_ble_eq_true rfl, Nat.le_of_ble_eq_true rfl⟩ rfl (Nat.le_of_ble_eq_true rfl) dX11_alike_43) (fun hq => (by cases hq))) (fun _ h => absurd h List.not_mem_nil) (fun q8 => ?_)
          refine S_aload_n (pc := 46) 0 rfl dX11_alike_46 rfl ?_
          refine S_getR (pc := 47) fd_X11_scratch wd_193 dX11_alike_47 (fun v9 => ?_)
          refine S_call_i (pc := 50) (rest := []) (fun q hq => (x_if hq).elim (fun z => R_V (av := []) (q := (RX1, TX1, 2)) (M_X1_countOnes _ v9 q8 z.2) z.1 rfl wd_493 wd_490 wd_491 wd_45 wd_492 ⟨rfl, hd_X1_countOnes⟩ ⟨Nat.le_of_ble_eq_true rfl, Nat.le_of_ble_eq_true rfl⟩ rfl (Nat.le_of_ble_eq_true rfl) dX11_alike_50) (fun hq => (by cases hq))) (fun _ h => absurd h List.not_mem_nil) (fun q10 => ?_)
          refine S_istore (pc := 53) dX11_alike_53 (Nat.le_of_ble_eq_true rfl) rfl ?_
          refine S_aload_n (pc := 55) 1 rfl dX11_alike_55 rfl ?_
          refine S_getR (pc := 56) fd_X11_scratch wd_193 dX11_alike_56 (fun v11 => ?_)
          refine S_iconst (pc := 59) dX11_alike_59 ic_1 ?_
          refine S_aload_n (pc := 60) 1 rfl dX11_alike_60 rfl ?_
          refine S_getR (pc := 61) fd_X11_vectors wd_190 dX11_alike_61 (fun v12 => ?_)
          refine S_iload_n (pc := 64) 2 rfl dX11_alike_64 rfl ?_
          refine S_aR (pc := 65) (fun _ => rfl) dX11_alike_65 (fun v13 => ?_)
          refine S_aload_n (pc := 66) 1 rfl dX11_alike_66 rfl ?_
          refine S_getR (pc := 67) fd_X11_vectors wd_190 dX11_alike_67 (fun v14 => ?_)
          refine S_iload_n (pc := 70) 3 rfl dX11_alike_70 rfl ?_
          refine S_aR (pc := 71) (fun _ => rfl) dX11_alike_71 (fun v15 => ?_)
          refine S_call_v (pc := 72) (rest := []) (fun q hq => (x_if hq).elim (fun z => R_V (av := [.int (1 : Int32), .ref v13, .ref v15]) (q := (RX1, TX1, 2)) (M_X1_becomeJoined _ v11 (1 : Int32) v13 v15 q10.2 z.2) z.1 rfl wd_485 wd_482 wd_483 wd_45 wd_484 ⟨rfl, hd_X1_becomeJoined⟩ ⟨Nat.le_of_ble_eq_true rfl, Nat.le_of_ble_eq_true rfl⟩ rfl (Nat.le_of_ble_eq_true rfl) dX11_alike_72) (fun hq => (by cases hq))) (fun _ h => absurd h List.not_mem_nil) (fun q16 => ?_)
          refine S_aload_n (pc := 75) 1 rfl dX11_alike_75 rfl ?_
          refine S_getR (pc := 76) fd_X11_scratch wd_193 dX11_alike_76 (fun v17 => ?_)
          refine S_call_i (pc := 79) (rest := []) (fun q hq => (x_if hq).elim (fun z => R_V (av := []) (q := (RX1, TX1, 2)) (M_X1_countOnes _ v17 q16 z.2) z.1 rfl wd_493 wd_490 wd_491 wd_45 wd_492 ⟨rfl, hd_X1_countOnes⟩ ⟨Nat.le_of_ble_eq_true rfl, Nat.le_of_ble_eq_true rfl⟩ rfl (Nat.le_of_ble_eq_true rfl) dX11_alike_79) (fun hq => (by cases hq))) (fun _ h => absurd h List.not_mem_nil) (fun q18 => ?_)
          refine S_istore (pc := 82) dX11_alike_82 (Nat.le_of_ble_eq_true rfl) rfl ?_
          refine S_iload (pc := 84) 1 rfl dX11_alike_84 ?_
          refine S_if_ne (pc := 86) (tgt := 91) dX11_alike_86 (by decide) ?_ ?_
          · refine S_iload_n (pc := 89) 5 rfl dX11_alike_89 rfl ?_
            exact Sim.fin ⟨dX11_alike_90, rfl, rfl⟩ rfl
          · refine S_iload (pc := 91) 0 rfl dX11_alike_91 ?_
            refine S_iload (pc := 93) 1 rfl dX11_alike_93 ?_
            refine S_call_i (pc := 95) (rest := []) (fun q hq => R_S (av := [.int q18.1, .int q10.1]) (M_X11_commonDivisor _ q18.1 q10.1 q18.2 hq) wd_648 wd_646 wd_647 wd_44 hd_X11_commonDivisor ⟨Nat.le_of_ble_eq_true rfl, Nat.le_of_ble_eq_true rfl⟩ rfl (Nat.le_of_ble_eq_true rfl) dX11_alike_95) (fun _ h => absurd h List.not_mem_nil) (fun q19 => ?_)
            refine S_istore (pc := 98) dX11_alike_98 (Nat.le_of_ble_eq_true rfl) rfl ?_
            refine S_iload_n (pc := 100) 6 rfl dX11_alike_100 rfl ?_
            refine S_if_ne (pc := 101) (tgt := 112) dX11_alike_101 (by decide) ?_ ?_
            · refine S_iload (pc := 104) 2 rfl dX11_alike_104 ?_
              refine S_iload (pc := 106) 0 rfl dX11_alike_106 ?_
              refine Sim.ite (fun _ => Sim.none) (fun hz20 => ?_)
              refine S_idiv (pc := 108) hz20 dX11_alike_108 ?_
              refine S_goto (pc := 109) (tgt := 117) dX11_alike_109 (by decide) ?_
              exact Sim.fin ⟨dX11_alike_117, rfl, rfl⟩ rfl
            · refine S_iload (pc := 112) 1 rfl dX11_alike_112 ?_
              refine S_iload (pc := 114) 0 rfl dX11_alike_114 ?_
              refine Sim.ite (fun _ => Sim.none) (fun hz21 => ?_)
              refine S_idiv (pc := 116) hz21 dX11_alike_116 ?_
              exact Sim.fin ⟨dX11_alike_117, rfl, rfl⟩ rfl
        · refine S_ldc (pc := 23) wd_233 dX11_alike_23 ?_
          exact Sim.fin ⟨dX11_alike_25, rfl, rfl⟩ rfl
theorem M_X11_alike (l : Launch) (a0 : Nat) (a1 : Int32) (a2 : Int32) (a3 : Int32) (h : xH) {q : Int32 × xH} (hq : f_X11_alike a0 a1 a2 a3 h = some q) : xM l yX11_alike cX11_alike 7 (some .int) 4 [.ref a0, .int a1, .int a2, .int a3] h (some (.int q.1)) q.2 := xM_i (by decide +kernel) (Nat.le_of_ble_eq_true rfl) (fun K L => W_X11_alike K L a0 a1 a2 a3 h) hq
theorem dX11_fine_0 : decode cX11_fine 0 = .ok (.aload_n 0, 1) := by decide +kernel
theorem dX11_fine_1 : decode cX11_fine 1 = .ok (.iconst 0, 1) := by decide +kernel
theorem dX11_fine_2 : decode cX11_fine 2 = .ok (.putfield 283, 3) := by decide +kernel
theorem dX11_fine_5 : decode cX11_fine 5 = .ok (.iload_n 1, 1) := by decide +kernel
theorem dX11_fine_6 : decode cX11_fine 6 = .ok (.ireturn, 1) := by decide +kernel
set_option maxRecDepth 20000 in
set_option maxHeartbeats 4000000 in
theorem W_X11_fine (K : xK) (L : xL) (a0 : Nat) (a1 : Int32) (h : xH) : Sim K L cX11_fine RX11 "fine" 2 0 (fun q : Int32 × xH => q.2) (xRi cX11_fine) 0 [(0, .ref a0), (1, .int a1)] [] h (f_X11_fine a0 a1 h) := by
  unfold f_X11_fine
  refine S_aload_n (pc := 0) 0 rfl dX11_fine_0 rfl ?_
  refine S_iconst (pc := 1) dX11_fine_1 ic_0 ?_
  refine S_putI (pc := 2) fd_X11_latestFinding wd_200 rfl rfl dX11_fine_2 (fun h1 => ?_)
  refine S_iload_n (pc := 5) 1 rfl dX11_fine_5 rfl ?_
  exact Sim.fin ⟨dX11_fine_6, rfl, rfl⟩ rfl
theorem M_X11_fine (l : Launch) (a0 : Nat) (a1 : Int32) (h : xH) {q : Int32 × xH} (hq : f_X11_fine a0 a1 h = some q) : xM l yX11_fine cX11_fine 2 (some .int) 0 [.ref a0, .int a1] h (some (.int q.1)) q.2 := xM_i (by decide +kernel) (Nat.le_of_ble_eq_true rfl) (fun K L => W_X11_fine K L a0 a1 h) hq
theorem dX11_found_0 : decode cX11_found 0 = .ok (.aload_n 0, 1) := by decide +kernel
theorem dX11_found_1 : decode cX11_found 1 = .ok (.iload_n 1, 1) := by decide +kernel
theorem dX11_found_2 : decode cX11_found 2 = .ok (.putfield 283, 3) := by decide +kernel
theorem dX11_found_5 : decode cX11_found 5 = .ok (.ldc_w 286, 3) := by decide +kernel
theorem dX11_found_8 : decode cX11_found 8 = .ok (.iload_n 1, 1) := by decide +kernel
theorem dX11_found_9 : decode cX11_found 9 = .ok (.isub, 1) := by decide +kernel
theorem dX11_found_10 : decode cX11_found 10 = .ok (.ireturn, 1) := by decide +kernel
set_option maxRecDepth 20000 in
set_option maxHeartbeats 4000000 in
theorem W_X11_found (K : xK) (L : xL) (a0 : Nat) (a1 : Int32) (h : xH) : Sim K L cX11_found RX11 "found" 2 0 (fun q : Int32 × xH => q.2) (xRi cX11_found) 0 [(0, .ref a0), (1, .int a1)] [] h (f_X11_found a0 a1 h) := by
  unfold f_X11_found
  refine S_aload_n (pc := 0) 0 rfl dX11_found_0 rfl ?_
  refine S_iload_n (pc := 1) 1 rfl dX11_found_1 rfl ?_
  refine S_putI (pc := 2) fd_X11_latestFinding wd_200 rfl rfl dX11_found_2 (fun h1 => ?_)
  refine S_ldcw (pc := 5) wd_238 dX11_found_5 ?_
  refine S_iload_n (pc := 8) 1 rfl dX11_found_8 rfl ?_
  refine S_isub (pc := 9) dX11_found_9 ?_
  exact Sim.fin ⟨dX11_found_10, rfl, rfl⟩ rfl
theorem M_X11_found (l : Launch) (a0 : Nat) (a1 : Int32) (h : xH) {q : Int32 × xH} (hq : f_X11_found a0 a1 h = some q) : xM l yX11_found cX11_found 2 (some .int) 0 [.ref a0, .int a1] h (some (.int q.1)) q.2 := xM_i (by decide +kernel) (Nat.le_of_ble_eq_true rfl) (fun K L => W_X11_found K L a0 a1 h) hq
theorem dX11_isOfKind_0 : decode cX11_isOfKind 0 = .ok (.iload_n 1, 1) := by decide +kernel
theorem dX11_isOfKind_1 : decode cX11_isOfKind 1 = .ok (.tableswitch 60 1 5 #[35, 40, 45, 50, 55], 35) := by decide +kernel
theorem dX11_isOfKind_36 : decode cX11_isOfKind 36 = .ok (.aload_n 0, 1) := by decide +kernel
theorem dX11_isOfKind_37 : decode cX11_isOfKind 37 = .ok (.instanceof 326, 3) := by decide +kernel
theorem dX11_isOfKind_40 : decode cX11_isOfKind 40 = .ok (.ireturn, 1) := by decide +kernel
theorem dX11_isOfKind_41 : decode cX11_isOfKind 41 = .ok (.aload_n 0, 1) := by decide +kernel
theorem dX11_isOfKind_42 : decode cX11_isOfKind 42 = .ok (.instanceof 313, 3) := by decide +kernel
theorem dX11_isOfKind_45 : decode cX11_isOfKind 45 = .ok (.ireturn, 1) := by decide +kernel
theorem dX11_isOfKind_46 : decode cX11_isOfKind 46 = .ok (.aload_n 0, 1) := by decide +kernel
theorem dX11_isOfKind_47 : decode cX11_isOfKind 47 = .ok (.instanceof 317, 3) := by decide +kernel
theorem dX11_isOfKind_50 : decode cX11_isOfKind 50 = .ok (.ireturn, 1) := by decide +kernel
theorem dX11_isOfKind_51 : decode cX11_isOfKind 51 = .ok (.aload_n 0, 1) := by decide +kernel
theorem dX11_isOfKind_52 : decode cX11_isOfKind 52 = .ok (.instanceof 320, 3) := by decide +kernel
theorem dX11_isOfKind_55 : decode cX11_isOfKind 55 = .ok (.ireturn, 1) := by decide +kernel
theorem dX11_isOfKind_56 : decode cX11_isOfKind 56 = .ok (.aload_n 0, 1) := by decide +kernel
theorem dX11_isOfKind_57 : decode cX11_isOfKind 57 = .ok (.instanceof 323, 3) := by decide +kernel
theorem dX11_isOfKind_60 : decode cX11_isOfKind 60 = .ok (.ireturn, 1) := by decide +kernel
theorem dX11_isOfKind_61 : decode cX11_isOfKind 61 = .ok (.iload_n 1, 1) := by decide +kernel
theorem dX11_isOfKind_62 : decode cX11_isOfKind 62 = .ok (.ifCond .ne 7, 3) := by decide +kernel
theorem dX11_isOfKind_65 : decode cX11_isOfKind 65 = .ok (.iconst 1, 1) := by decide +kernel
theorem dX11_isOfKind_66 : decode cX11_isOfKind 66 = .ok (.goto 4, 3) := by decide +kernel
theorem dX11_isOfKind_69 : decode cX11_isOfKind 69 = .ok (.iconst 0, 1) := by decide +kernel
theorem dX11_isOfKind_70 : decode cX11_isOfKind 70 = .ok (.ireturn, 1) := by decide +kernel
set_option maxRecDepth 20000 in
set_option maxHeartbeats 4000000 in
theorem W_X11_isOfKind (K : xK) (L : xL) (a0 : Nat) (a1 : Int32) (h : xH) : Sim K L cX11_isOfKind RX11 "isOfKind" 2 0 (fun q : Int32 × xH => q.2) (xRz cX11_isOfKind) 0 [(0, .ref a0), (1, .int a1)] [] h (f_X11_isOfKind a0 a1 h) := by
  unfold f_X11_isOfKind
  refine S_iload_n (pc := 0) 1 rfl dX11_isOfKind_0 rfl ?_
  refine S_tabIn (pc := 1) (v := 1) (tgt := 36) dX11_isOfKind_1 (by decide) (by decide) rfl (by decide) ?_ (fun hs3 => ?_)
  · refine S_aload_n (pc := 36) 0 rfl dX11_isOfKind_36 rfl ?_
    refine S_inst (pc := 37) wd_385 (List.forall_mem_cons.mpr ⟨⟨(RX4, TX4, 2), rfl, Or.inr (by decide +kernel)⟩, (List.forall_mem_cons.mpr ⟨⟨(RX8, TX8, 2), rfl, Or.inr (by decide +kernel)⟩, (List.forall_mem_cons.mpr ⟨⟨(RX10, TX10, 2), rfl, Or.inl rfl⟩, (fun _ h => absurd h List.not_mem_nil)⟩)⟩)⟩) (List.forall_mem_cons.mpr ⟨⟨(RX0, TX0, 2), rfl, by decide +kernel⟩, (List.forall_mem_cons.mpr ⟨⟨(RX2, TX2, 2), rfl, by decide +kernel⟩, (fun _ h => absurd h List.not_mem_nil)⟩)⟩) dX11_isOfKind_37 (fun v1 => ?_)
    refine Sim.ite (fun hz2 => ?_) (fun _ => Sim.none)
    exact Sim.fin ⟨dX11_isOfKind_40, rfl, rfl, x_nar hz2⟩ rfl
  refine S_tabIn (pc := 1) (v := 2) (tgt := 41) dX11_isOfKind_1 (by decide) (by decide) rfl (by decide) ?_ (fun hs6 => ?_)
  · refine S_aload_n (pc := 41) 0 rfl dX11_isOfKind_41 rfl ?_
    refine S_inst (pc := 42) wd_337 (List.forall_mem_cons.mpr ⟨⟨(RX4, TX4, 2), rfl, Or.inl rfl⟩, (fun _ h => absurd h List.not_mem_nil)⟩) (List.forall_mem_cons.mpr ⟨⟨(RX0, TX0, 2), rfl, by decide +kernel⟩, (List.forall_mem_cons.mpr ⟨⟨(RX2, TX2, 2), rfl, by decide +kernel⟩, (List.forall_mem_cons.mpr ⟨⟨(RX8, TX8, 2), rfl, by decide +kernel⟩, (List.forall_mem_cons.mpr ⟨⟨(RX10, TX10, 2), rfl, by decide +kernel⟩, (fun _ h => absurd h List.not_mem_nil)⟩)⟩)⟩)⟩) dX11_isOfKind_42 (fun v4 => ?_)
    refine Sim.ite (fun hz5 => ?_) (fun _ => Sim.none)
    exact Sim.fin ⟨dX11_isOfKind_45, rfl, rfl, x_nar hz5⟩ rfl
  refine S_tabIn (pc := 1) (v := 3) (tgt := 46) dX11_isOfKind_1 (by decide) (by decide) rfl (by decide) ?_ (fun hs9 => ?_)
  · refine S_aload_n (pc := 46) 0 rfl dX11_isOfKind_46 rfl ?_
    refine S_inst (pc := 47) wd_358 (List.forall_mem_cons.mpr ⟨⟨(RX8, TX8, 2), rfl, Or.inl rfl⟩, (fun _ h => absurd h List.not_mem_nil)⟩) (List.forall_mem_cons.mpr ⟨⟨(RX0, TX0, 2), rfl, by decide +kernel⟩, (List.forall_mem_cons.mpr ⟨⟨(RX2, TX2, 2), rfl, by decide +kernel⟩, (List.forall_mem_cons.mpr ⟨⟨(RX4, TX4, 2), rfl, by decide +kernel⟩, (List.forall_mem_cons.mpr ⟨⟨(RX10, TX10, 2), rfl, by decide +kernel⟩, (fun _ h => absurd h List.not_mem_nil)⟩)⟩)⟩)⟩) dX11_isOfKind_47 (fun v7 => ?_)
    refine Sim.ite (fun hz8 => ?_) (fun _ => Sim.none)
    exact Sim.fin ⟨dX11_isOfKind_50, rfl, rfl, x_nar hz8⟩ rfl
  refine S_tabIn (pc := 1) (v := 4) (tgt := 51) dX11_isOfKind_1 (by decide) (by decide) rfl (by decide) ?_ (fun hs12 => ?_)
  · refine S_aload_n (pc := 51) 0 rfl dX11_isOfKind_51 rfl ?_
    refine S_inst (pc := 52) wd_367 (List.forall_mem_cons.mpr ⟨⟨(RX0, TX0, 2), rfl, Or.inl rfl⟩, (List.forall_mem_cons.mpr ⟨⟨(RX2, TX2, 2), rfl, Or.inr (by decide +kernel)⟩, (fun _ h => absurd h List.not_mem_nil)⟩)⟩) (List.forall_mem_cons.mpr ⟨⟨(RX4, TX4, 2), rfl, by decide +kernel⟩, (List.forall_mem_cons.mpr ⟨⟨(RX8, TX8, 2), rfl, by decide +kernel⟩, (List.forall_mem_cons.mpr ⟨⟨(RX10, TX10, 2), rfl, by decide +kernel⟩, (fun _ h => absurd h List.not_mem_nil)⟩)⟩)⟩) dX11_isOfKind_52 (fun v10 => ?_)
    refine Sim.ite (fun hz11 => ?_) (fun _ => Sim.none)
    exact Sim.fin ⟨dX11_isOfKind_55, rfl, rfl, x_nar hz11⟩ rfl
  refine S_tabIn (pc := 1) (v := 5) (tgt := 56) dX11_isOfKind_1 (by decide) (by decide) rfl (by decide) ?_ (fun hs15 => ?_)
  · refine S_aload_n (pc := 56) 0 rfl dX11_isOfKind_56 rfl ?_
    refine S_inst (pc := 57) wd_376 (List.forall_mem_cons.mpr ⟨⟨(RX2, TX2, 2), rfl, Or.inl rfl⟩, (fun _ h => absurd h List.not_mem_nil)⟩) (List.forall_mem_cons.mpr ⟨⟨(RX0, TX0, 2), rfl, by decide +kernel⟩, (List.forall_mem_cons.mpr ⟨⟨(RX4, TX4, 2), rfl, by decide +kernel⟩, (List.forall_mem_cons.mpr ⟨⟨(RX8, TX8, 2), rfl, by decide +kernel⟩, (List.forall_mem_cons.mpr ⟨⟨(RX10, TX10, 2), rfl, by decide +kernel⟩, (fun _ h => absurd h List.not_mem_nil)⟩)⟩)⟩)⟩) dX11_isOfKind_57 (fun v13 => ?_)
    refine Sim.ite (fun hz14 => ?_) (fun _ => Sim.none)
    exact Sim.fin ⟨dX11_isOfKind_60, rfl, rfl, x_nar hz14⟩ rfl
  refine S_tabOut (pc := 1) (tgt := 61) dX11_isOfKind_1 (by have := lv_neT hs3 (show (1 : Int32).toInt = 1 from by decide); have := lv_neT hs6 (show (2 : Int32).toInt = 2 from by decide); have := lv_neT hs9 (show (3 : Int32).toInt = 3 from by decide); have := lv_neT hs12 (show (4 : Int32).toInt = 4 from by decide); have := lv_neT hs15 (show (5 : Int32).toInt = 5 from by decide); omega) (by decide) ?_
  refine S_iload_n (pc := 61) 1 rfl dX11_isOfKind_61 rfl ?_
  refine S_if_ne (pc := 62) (tgt := 69) dX11_isOfKind_62 (by decide) ?_ ?_
  · refine S_iconst (pc := 65) dX11_isOfKind_65 ic_1 ?_
    refine S_goto (pc := 66) (tgt := 70) dX11_isOfKind_66 (by decide) ?_
    exact Sim.fin ⟨dX11_isOfKind_70, rfl, rfl, x_nar (Or.inr rfl)⟩ rfl
  · refine S_iconst (pc := 69) dX11_isOfKind_69 ic_0 ?_
    exact Sim.fin ⟨dX11_isOfKind_70, rfl, rfl, x_nar (Or.inl rfl)⟩ rfl
theorem M_X11_isOfKind (l : Launch) (a0 : Nat) (a1 : Int32) (h : xH) {q : Int32 × xH} (hq : f_X11_isOfKind a0 a1 h = some q) : xM l yX11_isOfKind cX11_isOfKind 2 (some .boolean) 0 [.ref a0, .int a1] h (some (.int q.1)) q.2 := xM_z (by decide +kernel) (Nat.le_of_ble_eq_true rfl) (fun K L => W_X11_isOfKind K L a0 a1 h) hq
theorem dX11_isRun_0 : decode cX11_isRun 0 = .ok (.iload_n 1, 1) := by decide +kernel
theorem dX11_isRun_1 : decode cX11_isRun 1 = .ok (.ifCond .lt 24, 3) := by decide +kernel
theorem dX11_isRun_4 : decode cX11_isRun 4 = .ok (.iload_n 1, 1) := by decide +kernel
theorem dX11_isRun_5 : decode cX11_isRun 5 = .ok (.aload_n 0, 1) := by decide +kernel
theorem dX11_isRun_6 : decode cX11_isRun 6 = .ok (.getfield 141, 3) := by decide +kernel
theorem dX11_isRun_9 : decode cX11_isRun 9 = .ok (.if_icmp .ge 16, 3) := by decide +kernel
theorem dX11_isRun_12 : decode cX11_isRun 12 = .ok (.aload_n 0, 1) := by decide +kernel
theorem dX11_isRun_13 : decode cX11_isRun 13 = .ok (.getfield 49, 3) := by decide +kernel
theorem dX11_isRun_16 : decode cX11_isRun 16 = .ok (.iload_n 1, 1) := by decide +kernel
theorem dX11_isRun_17 : decode cX11_isRun 17 = .ok (.aaload, 1) := by decide +kernel
theorem dX11_isRun_18 : decode cX11_isRun 18 = .ok (.ifnull 7, 3) := by decide +kernel
theorem dX11_isRun_21 : decode cX11_isRun 21 = .ok (.iconst 1, 1) := by decide +kernel
theorem dX11_isRun_22 : decode cX11_isRun 22 = .ok (.goto 4, 3) := by decide +kernel
theorem dX11_isRun_25 : decode cX11_isRun 25 = .ok (.iconst 0, 1) := by decide +kernel
theorem dX11_isRun_26 : decode cX11_isRun 26 = .ok (.ireturn, 1) := by decide +kernel
set_option maxRecDepth 20000 in
set_option maxHeartbeats 4000000 in
theorem W_X11_isRun (K : xK) (L : xL) (a0 : Nat) (a1 : Int32) (h : xH) : Sim K L cX11_isRun RX11 "isRun" 2 0 (fun q : Int32 × xH => q.2) (xRz cX11_isRun) 0 [(0, .ref a0), (1, .int a1)] [] h (f_X11_isRun a0 a1 h) := by
  unfold f_X11_isRun
  refine S_iload_n (pc := 0) 1 rfl dX11_isRun_0 rfl ?_
  refine S_if_lt (pc := 1) (tgt := 25) dX11_isRun_1 (by decide) ?_ ?_
  · refine S_iconst (pc := 25) dX11_isRun_25 ic_0 ?_
    exact Sim.fin ⟨dX11_isRun_26, rfl, rfl, x_nar (Or.inl rfl)⟩ rfl
  · refine S_iload_n (pc := 4) 1 rfl dX11_isRun_4 rfl ?_
    refine S_aload_n (pc := 5) 0 rfl dX11_isRun_5 rfl ?_
    refine S_getI (pc := 6) fd_X11_runCount wd_198 dX11_isRun_6 (fun v1 => ?_)
    refine S_icmp_ge (pc := 9) (tgt := 25) dX11_isRun_9 (by decide) ?_ ?_
    · refine S_iconst (pc := 25) dX11_isRun_25 ic_0 ?_
      exact Sim.fin ⟨dX11_isRun_26, rfl, rfl, x_nar (Or.inl rfl)⟩ rfl
    · refine S_aload_n (pc := 12) 0 rfl dX11_isRun_12 rfl ?_
      refine S_getR (pc := 13) fd_X11_runs wd_196 dX11_isRun_13 (fun v2 => ?_)
      refine S_iload_n (pc := 16) 1 rfl dX11_isRun_16 rfl ?_
      refine S_aQ (pc := 17) (fun _ => rfl) dX11_isRun_17 ?_ (fun v3 => ?_)
      · refine S_ifnull_n (pc := 18) (tgt := 25) dX11_isRun_18 (by decide) ?_
        refine S_iconst (pc := 25) dX11_isRun_25 ic_0 ?_
        exact Sim.fin ⟨dX11_isRun_26, rfl, rfl, x_nar (Or.inl rfl)⟩ rfl
      · refine S_ifnull_r (pc := 18) dX11_isRun_18 ?_
        refine S_iconst (pc := 21) dX11_isRun_21 ic_1 ?_
        refine S_goto (pc := 22) (tgt := 26) dX11_isRun_22 (by decide) ?_
        exact Sim.fin ⟨dX11_isRun_26, rfl, rfl, x_nar (Or.inr rfl)⟩ rfl
theorem M_X11_isRun (l : Launch) (a0 : Nat) (a1 : Int32) (h : xH) {q : Int32 × xH} (hq : f_X11_isRun a0 a1 h = some q) : xM l yX11_isRun cX11_isRun 2 (some .boolean) 0 [.ref a0, .int a1] h (some (.int q.1)) q.2 := xM_z (by decide +kernel) (Nat.le_of_ble_eq_true rfl) (fun K L => W_X11_isRun K L a0 a1 h) hq
theorem dX11_as_0 : decode cX11_as 0 = .ok (.aload_n 0, 1) := by decide +kernel
theorem dX11_as_1 : decode cX11_as 1 = .ok (.iload_n 1, 1) := by decide +kernel
theorem dX11_as_2 : decode cX11_as 2 = .ok (.invokevirtual 250, 3) := by decide +kernel
theorem dX11_as_5 : decode cX11_as 5 = .ok (.ifCond .eq 12, 3) := by decide +kernel
theorem dX11_as_8 : decode cX11_as 8 = .ok (.iload_n 2, 1) := by decide +kernel
theorem dX11_as_9 : decode cX11_as 9 = .ok (.ifCond .lt 8, 3) := by decide +kernel
theorem dX11_as_12 : decode cX11_as 12 = .ok (.iload_n 2, 1) := by decide +kernel
theorem dX11_as_13 : decode cX11_as 13 = .ok (.iconst 5, 1) := by decide +kernel
theorem dX11_as_14 : decode cX11_as 14 = .ok (.if_icmp .le 6, 3) := by decide +kernel
theorem dX11_as_17 : decode cX11_as 17 = .ok (.ldc 65, 2) := by decide +kernel
theorem dX11_as_19 : decode cX11_as 19 = .ok (.ireturn, 1) := by decide +kernel
theorem dX11_as_20 : decode cX11_as 20 = .ok (.aload_n 0, 1) := by decide +kernel
theorem dX11_as_21 : decode cX11_as 21 = .ok (.getfield 49, 3) := by decide +kernel
theorem dX11_as_24 : decode cX11_as 24 = .ok (.iload_n 1, 1) := by decide +kernel
theorem dX11_as_25 : decode cX11_as 25 = .ok (.aaload, 1) := by decide +kernel
theorem dX11_as_26 : decode cX11_as 26 = .ok (.iload_n 2, 1) := by decide +kernel
theorem dX11_as_27 : decode cX11_as 27 = .ok (.invokestatic 256, 3) := by decide +kernel
theorem dX11_as_30 : decode cX11_as 30 = .ok (.ifCond .ne 9, 3) := by decide +kernel
theorem dX11_as_33 : decode cX11_as 33 = .ok (.aload_n 0, 1) := by decide +kernel
theorem dX11_as_34 : decode cX11_as 34 = .ok (.iconst 3, 1) := by decide +kernel
theorem dX11_as_35 : decode cX11_as 35 = .ok (.invokevirtual 66, 3) := by decide +kernel
theorem dX11_as_38 : decode cX11_as 38 = .ok (.ireturn, 1) := by decide +kernel
theorem dX11_as_39 : decode cX11_as 39 = .ok (.aload_n 0, 1) := by decide +kernel
theorem dX11_as_40 : decode cX11_as 40 = .ok (.aload_n 0, 1) := by decide +kernel
theorem dX11_as_41 : decode cX11_as 41 = .ok (.getfield 49, 3) := by decide +kernel
theorem dX11_as_44 : decode cX11_as 44 = .ok (.iload_n 1, 1) := by decide +kernel
theorem dX11_as_45 : decode cX11_as 45 = .ok (.aaload, 1) := by decide +kernel
theorem dX11_as_46 : decode cX11_as 46 = .ok (.getfield 260, 3) := by decide +kernel
theorem dX11_as_49 : decode cX11_as 49 = .ok (.invokevirtual 74, 3) := by decide +kernel
theorem dX11_as_52 : decode cX11_as 52 = .ok (.ireturn, 1) := by decide +kernel
set_option maxRecDepth 20000 in
set_option maxHeartbeats 4000000 in
theorem W_X11_as (K : xK) (L : xL) (a0 : Nat) (a1 : Int32) (a2 : Int32) (h : xH) : Sim K L cX11_as RX11 "as" 3 1 (fun q : Int32 × xH => q.2) (xRi cX11_as) 0 [(0, .ref a0), (1, .int a1), (2, .int a2)] [] h (f_X11_as a0 a1 a2 h) := by
  unfold f_X11_as
  refine S_aload_n (pc := 0) 0 rfl dX11_as_0 rfl ?_
  refine S_iload_n (pc := 1) 1 rfl dX11_as_1 rfl ?_
  refine S_call_i (pc := 2) (rest := []) (fun q hq => (x_if hq).elim (fun z => R_V (av := [.int a1]) (q := (RX11, TX11, 12)) (M_X11_isRun _ a0 a1 h z.2) z.1 rfl wd_691 wd_688 wd_690 wd_44 wd_11 ⟨rfl, hd_X11_isRun⟩ ⟨Nat.le_of_ble_eq_true rfl, Nat.le_of_ble_eq_true rfl⟩ rfl (Nat.le_of_ble_eq_true rfl) dX11_as_2) (fun hq => (by cases hq))) (fun _ h => absurd h List.not_mem_nil) (fun q1 => ?_)
  refine S_if_eq (pc := 5) (tgt := 17) dX11_as_5 (by decide) ?_ ?_
  · refine S_ldc (pc := 17) wd_233 dX11_as_17 ?_
    exact Sim.fin ⟨dX11_as_19, rfl, rfl⟩ rfl
  · refine S_iload_n (pc := 8) 2 rfl dX11_as_8 rfl ?_
    refine S_if_lt (pc := 9) (tgt := 17) dX11_as_9 (by decide) ?_ ?_
    · refine S_ldc (pc := 17) wd_233 dX11_as_17 ?_
      exact Sim.fin ⟨dX11_as_19, rfl, rfl⟩ rfl
    · refine S_iload_n (pc := 12) 2 rfl dX11_as_12 rfl ?_
      refine S_iconst (pc := 13) dX11_as_13 ic_5 ?_
      refine S_icmp_le (pc := 14) (tgt := 20) dX11_as_14 (by decide) ?_ ?_
      · refine S_aload_n (pc := 20) 0 rfl dX11_as_20 rfl ?_
        refine S_getR (pc := 21) fd_X11_runs wd_196 dX11_as_21 (fun v2 => ?_)
        refine S_iload_n (pc := 24) 1 rfl dX11_as_24 rfl ?_
        refine S_aR (pc := 25) (fun _ => rfl) dX11_as_25 (fun v3 => ?_)
        refine S_iload_n (pc := 26) 2 rfl dX11_as_26 rfl ?_
        refine S_call_i (pc := 27) (rest := []) (fun q hq => R_S (av := [.ref v3, .int a2]) (M_X11_isOfKind _ v3 a2 q1.2 hq) wd_716 wd_714 wd_715 wd_44 hd_X11_isOfKind ⟨Nat.le_of_ble_eq_true rfl, Nat.le_of_ble_eq_true rfl⟩ rfl (Nat.le_of_ble_eq_true rfl) dX11_as_27) (fun _ h => absurd h List.not_mem_nil) (fun q4 => ?_)
        refine S_if_ne (pc := 30) (tgt := 39) dX11_as_30 (by decide) ?_ ?_
        · refine S_aload_n (pc := 33) 0 rfl dX11_as_33 rfl ?_
          refine S_iconst (pc := 34) dX11_as_34 ic_3 ?_
          refine S_call_i (pc := 35) (rest := []) (fun q hq => (x_if hq).elim (fun z => R_V (av := [.int (3 : Int32)]) (q := (RX11, TX11, 12)) (M_X11_found _ a0 (3 : Int32) q4.2 z.2) z.1 rfl wd_237 wd_234 wd_236 wd_44 wd_0 ⟨rfl, hd_X11_found⟩ ⟨Nat.le_of_ble_eq_true rfl, Nat.le_of_ble_eq_true rfl⟩ rfl (Nat.le_of_ble_eq_true rfl) dX11_as_35) (fun hq => (by cases hq))) (fun _ h => absurd h List.not_mem_nil) (fun q5 => ?_)
          exact Sim.fin ⟨dX11_as_38, rfl, rfl⟩ rfl
        · refine S_aload_n (pc := 39) 0 rfl dX11_as_39 rfl ?_
          refine S_aload_n (pc := 40) 0 rfl dX11_as_40 rfl ?_
          refine S_getR (pc := 41) fd_X11_runs wd_196 dX11_as_41 (fun v6 => ?_)
          refine S_iload_n (pc := 44) 1 rfl dX11_as_44 rfl ?_
          refine S_aR (pc := 45) (fun _ => rfl) dX11_as_45 (fun v7 => ?_)
          refine S_getI (pc := 46) fd_X6_number wd_350 dX11_as_46 (fun v8 => ?_)
          refine S_call_i (pc := 49) (rest := []) (fun q hq => (x_if hq).elim (fun z => R_V (av := [.int v8]) (q := (RX11, TX11, 12)) (M_X11_fine _ a0 v8 q4.2 z.2) z.1 rfl wd_249 wd_246 wd_248 wd_44 wd_1 ⟨rfl, hd_X11_fine⟩ ⟨Nat.le_of_ble_eq_true rfl, Nat.le_of_ble_eq_true rfl⟩ rfl (Nat.le_of_ble_eq_true rfl) dX11_as_49) (fun hq => (by cases hq))) (fun _ h => absurd h List.not_mem_nil) (fun q9 => ?_)
          exact Sim.fin ⟨dX11_as_52, rfl, rfl⟩ rfl
      · refine S_ldc (pc := 17) wd_233 dX11_as_17 ?_
        exact Sim.fin ⟨dX11_as_19, rfl, rfl⟩ rfl
theorem M_X11_as (l : Launch) (a0 : Nat) (a1 : Int32) (a2 : Int32) (h : xH) {q : Int32 × xH} (hq : f_X11_as a0 a1 a2 h = some q) : xM l yX11_as cX11_as 3 (some .int) 1 [.ref a0, .int a1, .int a2] h (some (.int q.1)) q.2 := xM_i (by decide +kernel) (Nat.le_of_ble_eq_true rfl) (fun K L => W_X11_as K L a0 a1 a2 h) hq
theorem dX9_note_0 : decode cX9_note 0 = .ok (.aload_n 0, 1) := by decide +kernel
theorem dX9_note_1 : decode cX9_note 1 = .ok (.getfield 15, 3) := by decide +kernel
theorem dX9_note_4 : decode cX9_note 4 = .ok (.bipush 16, 2) := by decide +kernel
theorem dX9_note_6 : decode cX9_note 6 = .ok (.if_icmp .ge 23, 3) := by decide +kernel
theorem dX9_note_9 : decode cX9_note 9 = .ok (.aload_n 0, 1) := by decide +kernel
theorem dX9_note_10 : decode cX9_note 10 = .ok (.getfield 9, 3) := by decide +kernel
theorem dX9_note_13 : decode cX9_note 13 = .ok (.aload_n 0, 1) := by decide +kernel
theorem dX9_note_14 : decode cX9_note 14 = .ok (.getfield 15, 3) := by decide +kernel
theorem dX9_note_17 : decode cX9_note 17 = .ok (.iload_n 1, 1) := by decide +kernel
theorem dX9_note_18 : decode cX9_note 18 = .ok (.iastore, 1) := by decide +kernel
theorem dX9_note_19 : decode cX9_note 19 = .ok (.aload_n 0, 1) := by decide +kernel
theorem dX9_note_20 : decode cX9_note 20 = .ok (.dup, 1) := by decide +kernel
theorem dX9_note_21 : decode cX9_note 21 = .ok (.getfield 15, 3) := by decide +kernel
theorem dX9_note_24 : decode cX9_note 24 = .ok (.iconst 1, 1) := by decide +kernel
theorem dX9_note_25 : decode cX9_note 25 = .ok (.iadd, 1) := by decide +kernel
theorem dX9_note_26 : decode cX9_note 26 = .ok (.putfield 15, 3) := by decide +kernel
theorem dX9_note_29 : decode cX9_note 29 = .ok (.return_, 1) := by decide +kernel
set_option maxRecDepth 20000 in
set_option maxHeartbeats 4000000 in
theorem W_X9_note (K : xK) (L : xL) (a0 : Nat) (a1 : Int32) (h : xH) : Sim K L cX9_note RX9 "note" 2 0 (fun q : xH => q) (xRv cX9_note) 0 [(0, .ref a0), (1, .int a1)] [] h (f_X9_note a0 a1 h) := by
  unfold f_X9_note
  refine S_aload_n (pc := 0) 0 rfl dX9_note_0 rfl ?_
  refine S_getI (pc := 1) fd_X9_held wd_160 dX9_note_1 (fun v1 => ?_)
  refine S_bipush (pc := 4) dX9_note_4 bi_16 ?_
  refine S_icmp_ge (pc := 6) (tgt := 29) dX9_note_6 (by decide) ?_ ?_
  · exact Sim.fin ⟨dX9_note_29, rfl, rfl⟩ rfl
  · refine S_aload_n (pc := 9) 0 rfl dX9_note_9 rfl ?_
    refine S_getR (pc := 10) fd_X9_numbers wd_158 dX9_note_10 (fun v2 => ?_)
    refine S_aload_n (pc := 13) 0 rfl dX9_note_13 rfl ?_
    refine S_getI (pc := 14) fd_X9_held wd_160 dX9_note_14 (fun v3 => ?_)
    refine S_iload_n (pc := 17) 1 rfl dX9_note_17 rfl ?_
    refine S_uI (pc := 18) dX9_note_18 (fun h4 => ?_)
    refine S_aload_n (pc := 19) 0 rfl dX9_note_19 rfl ?_
    refine S_dup (pc := 20) rfl dX9_note_20 ?_
    refine S_getI (pc := 21) fd_X9_held wd_160 dX9_note_21 (fun v5 => ?_)
    refine S_iconst (pc := 24) dX9_note_24 ic_1 ?_
    refine S_iadd (pc := 25) dX9_note_25 ?_
    refine S_putI (pc := 26) fd_X9_held wd_160 rfl rfl dX9_note_26 (fun h6 => ?_)
    exact Sim.fin ⟨dX9_note_29, rfl, rfl⟩ rfl
theorem M_X9_note (l : Launch) (a0 : Nat) (a1 : Int32) (h : xH) {q : xH} (hq : f_X9_note a0 a1 h = some q) : xM l yX9_note cX9_note 2 none 0 [.ref a0, .int a1] h none q := xM_v (by decide +kernel) (Nat.le_of_ble_eq_true rfl) (fun K L => W_X9_note K L a0 a1 h) hq
theorem dX6_tellSize_0 : decode cX6_tellSize 0 = .ok (.aload_n 1, 1) := by decide +kernel
theorem dX6_tellSize_1 : decode cX6_tellSize 1 = .ok (.bipush 10, 2) := by decide +kernel
theorem dX6_tellSize_3 : decode cX6_tellSize 3 = .ok (.invokevirtual 20, 3) := by decide +kernel
theorem dX6_tellSize_6 : decode cX6_tellSize 6 = .ok (.aload_n 0, 1) := by decide +kernel
theorem dX6_tellSize_7 : decode cX6_tellSize 7 = .ok (.getfield 13, 3) := by decide +kernel
theorem dX6_tellSize_10 : decode cX6_tellSize 10 = .ok (.ireturn, 1) := by decide +kernel
set_option maxRecDepth 20000 in
set_option maxHeartbeats 4000000 in
theorem W_X6_tellSize (K : xK) (L : xL) (a0 : Nat) (a1 : Nat) (h : xH) : Sim K L cX6_tellSize RX6 "tellSize" 2 1 (fun q : Int32 × xH => q.2) (xRi cX6_tellSize) 0 [(0, .ref a0), (1, .ref a1)] [] h (f_X6_tellSize a0 a1 h) := by
  unfold f_X6_tellSize
  refine S_aload_n (pc := 0) 1 rfl dX6_tellSize_0 rfl ?_
  refine S_bipush (pc := 1) dX6_tellSize_1 bi_10 ?_
  refine S_call_v (pc := 3) (rest := []) (fun q hq => (x_if hq).elim (fun z => R_V (av := [.int (10 : Int32)]) (q := (RX9, TX9, 2)) (M_X9_note _ a1 (10 : Int32) h z.2) z.1 rfl wd_730 wd_763 wd_728 wd_48 wd_729 ⟨rfl, hd_X9_note⟩ ⟨Nat.le_of_ble_eq_true rfl, Nat.le_of_ble_eq_true rfl⟩ rfl (Nat.le_of_ble_eq_true rfl) dX6_tellSize_3) (fun hq => (by cases hq))) (fun _ h => absurd h List.not_mem_nil) (fun q1 => ?_)
  refine S_aload_n (pc := 6) 0 rfl dX6_tellSize_6 rfl ?_
  refine S_getI (pc := 7) fd_X6_length wd_351 dX6_tellSize_7 (fun v2 => ?_)
  exact Sim.fin ⟨dX6_tellSize_10, rfl, rfl⟩ rfl
theorem M_X6_tellSize (l : Launch) (a0 : Nat) (a1 : Nat) (h : xH) {q : Int32 × xH} (hq : f_X6_tellSize a0 a1 h = some q) : xM l yX6_tellSize cX6_tellSize 2 (some .int) 1 [.ref a0, .ref a1] h (some (.int q.1)) q.2 := xM_i (by decide +kernel) (Nat.le_of_ble_eq_true rfl) (fun K L => W_X6_tellSize K L a0 a1 h) hq
theorem dX0_tellSize_0 : decode cX0_tellSize 0 = .ok (.aload_n 1, 1) := by decide +kernel
theorem dX0_tellSize_1 : decode cX0_tellSize 1 = .ok (.bipush 13, 2) := by decide +kernel
theorem dX0_tellSize_3 : decode cX0_tellSize 3 = .ok (.invokevirtual 9, 3) := by decide +kernel
theorem dX0_tellSize_6 : decode cX0_tellSize 6 = .ok (.aload_n 0, 1) := by decide +kernel
theorem dX0_tellSize_7 : decode cX0_tellSize 7 = .ok (.aload_n 1, 1) := by decide +kernel
theorem dX0_tellSize_8 : decode cX0_tellSize 8 = .ok (.invokespecial 15, 3) := by decide +kernel
theorem dX0_tellSize_11 : decode cX0_tellSize 11 = .ok (.bipush 100, 2) := by decide +kernel
theorem dX0_tellSize_13 : decode cX0_tellSize 13 = .ok (.isub, 1) := by decide +kernel
theorem dX0_tellSize_14 : decode cX0_tellSize 14 = .ok (.ireturn, 1) := by decide +kernel
set_option maxRecDepth 20000 in
set_option maxHeartbeats 4000000 in
theorem W_X0_tellSize (K : xK) (L : xL) (a0 : Nat) (a1 : Nat) (h : xH) : Sim K L cX0_tellSize RX0 "tellSize" 2 2 (fun q : Int32 × xH => q.2) (xRi cX0_tellSize) 0 [(0, .ref a0), (1, .ref a1)] [] h (f_X0_tellSize a0 a1 h) := by
  unfold f_X0_tellSize
  refine S_aload_n (pc := 0) 1 rfl dX0_tellSize_0 rfl ?_
  refine S_bipush (pc := 1) dX0_tellSize_1 bi_13 ?_
  refine S_call_v (pc := 3) (rest := []) (fun q hq => (x_if hq).elim (fun z => R_V (av := [.int (13 : Int32)]) (q := (RX9, TX9, 2)) (M_X9_note _ a1 (13 : Int32) h z.2) z.1 rfl wd_730 wd_727 wd_728 wd_48 wd_729 ⟨rfl, hd_X9_note⟩ ⟨Nat.le_of_ble_eq_true rfl, Nat.le_of_ble_eq_true rfl⟩ rfl (Nat.le_of_ble_eq_true rfl) dX0_tellSize_3) (fun hq => (by cases hq))) (fun _ h => absurd h List.not_mem_nil) (fun q1 => ?_)
  refine S_aload_n (pc := 6) 0 rfl dX0_tellSize_6 rfl ?_
  refine S_aload_n (pc := 7) 1 rfl dX0_tellSize_7 rfl ?_
  refine S_call_i (pc := 8) (rest := []) (fun q hq => (x_if hq).elim (fun z => R_SU (av := [.ref a1]) (q := (RX0, TX0, 2)) (M_X6_tellSize _ a0 a1 q1 z.2) z.1 rfl wd_775 wd_731 wd_722 wd_53 wd_723 wd_375 ⟨by decide, hd_X6_tellSize.2.2⟩ ⟨Nat.le_of_ble_eq_true rfl, Nat.le_of_ble_eq_true rfl⟩ rfl (Nat.le_of_ble_eq_true rfl) dX0_tellSize_8) (fun hq => (x_if hq).elim (fun z => R_SU (av := [.ref a1]) (q := (RX2, TX2, 2)) (M_X6_tellSize _ a0 a1 q1 z.2) z.1 rfl wd_775 wd_731 wd_722 wd_53 wd_723 wd_375 ⟨by decide, hd_X6_tellSize.2.2⟩ ⟨Nat.le_of_ble_eq_true rfl, Nat.le_of_ble_eq_true rfl⟩ rfl (Nat.le_of_ble_eq_true rfl) dX0_tellSize_8) (fun hq => (by cases hq)))) (fun _ h => absurd h List.not_mem_nil) (fun q2 => ?_)
  refine S_bipush (pc := 11) dX0_tellSize_11 bi_100 ?_
  refine S_isub (pc := 13) dX0_tellSize_13 ?_
  exact Sim.fin ⟨dX0_tellSize_14, rfl, rfl⟩ rfl
theorem M_X0_tellSize (l : Launch) (a0 : Nat) (a1 : Nat) (h : xH) {q : Int32 × xH} (hq : f_X0_tellSize a0 a1 h = some q) : xM l yX0_tellSize cX0_tellSize 2 (some .int) 2 [.ref a0, .ref a1] h (some (.int q.1)) q.2 := xM_i (by decide +kernel) (Nat.le_of_ble_eq_true rfl) (fun K L => W_X0_tellSize K L a0 a1 h) hq
end
