theorem b8 (x : Int32) : (x <<< ((24 : Int32) &&& 31)) >>> ((24 : Int32) &&& 31) = x.toInt8.toInt32 := by
  apply Int32.toBitVec_inj.1
  have e1 : (((24 : Int32) &&& 31).toBitVec.smod 32) = 24#32 := by decide
  show ((x.toBitVec <<< (((24 : Int32) &&& 31).toBitVec.smod 32)).sshiftRight' (((24 : Int32) &&& 31).toBitVec.smod 32)) = (x.toBitVec.signExtend 8).signExtend 32
  rw [e1]
  apply BitVec.eq_of_getLsbD_eq
  intro i hi
  simp [BitVec.getLsbD_signExtend, BitVec.getLsbD_sshiftRight, BitVec.getLsbD_shiftLeft, BitVec.sshiftRight', BitVec.msb_signExtend, BitVec.msb_eq_getLsbD_last]
  by_cases h : i < 8
  · simp [h, hi, show ¬ (24 + i < 24) by omega, show 24 + i < 32 by omega]
  · simp [h, hi, show ¬ 24 + i < 32 by omega, show ¬ 32 ≤ i by omega, BitVec.getElem_signExtend]
theorem b16 (x : Int32) : (x <<< ((16 : Int32) &&& 31)) >>> ((16 : Int32) &&& 31) = x.toInt16.toInt32 := by
  apply Int32.toBitVec_inj.1
  have e1 : (((16 : Int32) &&& 31).toBitVec.smod 32) = 16#32 := by decide
  show ((x.toBitVec <<< (((16 : Int32) &&& 31).toBitVec.smod 32)).sshiftRight' (((16 : Int32) &&& 31).toBitVec.smod 32)) = (x.toBitVec.signExtend 16).signExtend 32
  rw [e1]
  apply BitVec.eq_of_getLsbD_eq
  intro i hi
  simp [BitVec.getLsbD_signExtend, BitVec.getLsbD_sshiftRight, BitVec.getLsbD_shiftLeft, BitVec.sshiftRight', BitVec.msb_signExtend, BitVec.msb_eq_getLsbD_last]
  by_cases h : i < 16
  · simp [h, hi, show ¬ (16 + i < 16) by omega, show 16 + i < 32 by omega]
  · simp [h, hi, show ¬ 16 + i < 32 by omega, show ¬ 32 ≤ i by omega, BitVec.getElem_signExtend]
