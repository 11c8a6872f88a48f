/-! rows of numbers -/
theorem cut8 (v : Int32) : (v <<< ((24 : Int32) &&& 31)) >>> ((24 : Int32) &&& 31) = v.toInt8.toInt32 := by
  rw [show ((24 : Int32) &&& 31) = 24 from by decide]
  apply Int32.toBitVec_inj.mp
  rw [Int32.toBitVec_shiftRight, Int32.toBitVec_shiftLeft, Int8.toBitVec_toInt32, Int32.toBitVec_toInt8]
  rw [show ((24 : Int32).toBitVec.smod 32) = 24#32 from by decide]
  rw [BitVec.sshiftRight_eq', BitVec.shiftLeft_eq', show (BitVec.toNat 24#32) = 24 from rfl]
  apply BitVec.eq_of_getLsbD_eq
  intro i hi
  simp only [BitVec.getLsbD_sshiftRight, BitVec.getLsbD_signExtend, BitVec.getLsbD_shiftLeft, BitVec.msb_eq_getLsbD_last]
  by_cases h8 : i < 8
  · simp [h8, hi, show 24 + i < 32 by omega, show ¬ 32 ≤ i by omega, show ¬ 24 + i < 24 by omega]
  · simp [h8, hi, show ¬ 24 + i < 32 by omega]
theorem cut16 (v : Int32) : (v <<< ((16 : Int32) &&& 31)) >>> ((16 : Int32) &&& 31) = v.toInt16.toInt32 := by
  rw [show ((16 : Int32) &&& 31) = 16 from by decide]
  apply Int32.toBitVec_inj.mp
  rw [Int32.toBitVec_shiftRight, Int32.toBitVec_shiftLeft, Int16.toBitVec_toInt32, Int32.toBitVec_toInt16]
  rw [show ((16 : Int32).toBitVec.smod 32) = 16#32 from by decide]
  rw [BitVec.sshiftRight_eq', BitVec.shiftLeft_eq', show (BitVec.toNat 16#32) = 16 from rfl]
  apply BitVec.eq_of_getLsbD_eq
  intro i hi
  simp only [BitVec.getLsbD_sshiftRight, BitVec.getLsbD_signExtend, BitVec.getLsbD_shiftLeft, BitVec.msb_eq_getLsbD_last]
  by_cases h8 : i < 16
  · simp [h8, hi, show 16 + i < 32 by omega, show ¬ 32 ≤ i by omega, show ¬ 16 + i < 16 by omega]
  · simp [h8, hi, show ¬ 16 + i < 32 by omega]
def cutF (lane v : Int32) : Int32 := if lane = 0 then v.toInt8.toInt32 else if lane = 1 then v.toInt16.toInt32 else v
def RowOK (r lane n : Int32) : Prop := (∃ k : Nat, r.toInt = (k : Int) ∧ k < 8) ∧ (∃ l : Nat, lane.toInt = (l : Int) ∧ l ≤ 2) ∧ n.toInt ≤ 40
def PL (i n : Int32) (z : Nat) : Prop := 0 ≤ i.toInt ∧ 0 ≤ n.toInt ∧ i.toInt + n.toInt ≤ (z : Int)
def RowG (S : pmS) (P : pmP) (g : Nat) : Prop := OB S g 6 ∧ P g 0 = some (g + 1) ∧ AR S (g + 1) 11 40
