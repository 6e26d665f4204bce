theorem bv_n8 (x : BitVec 32) : (x <<< 24).sshiftRight 24 = (x.setWidth 8).signExtend 32 := by
  apply BitVec.eq_of_getLsbD_eq
  intro i hi
  rw [BitVec.getLsbD_sshiftRight, BitVec.getLsbD_signExtend]
  simp only [show ¬ (32 ≤ i) by omega, decide_false, Bool.not_false, Bool.true_and, hi, decide_true]
  by_cases h8 : i < 8
  · rw [if_pos (by omega), if_pos h8, BitVec.getLsbD_shiftLeft, BitVec.getLsbD_setWidth]
    simp [h8, show 24 + i < 32 by omega]
  · rw [if_neg (by omega), if_neg h8]
    simp [BitVec.msb_eq_getLsbD_last]
theorem bv_n16 (x : BitVec 32) : (x <<< 16).sshiftRight 16 = (x.setWidth 16).signExtend 32 := by
  apply BitVec.eq_of_getLsbD_eq
  intro i hi
  rw [BitVec.getLsbD_sshiftRight, BitVec.getLsbD_signExtend]
  simp only [show ¬ (32 ≤ i) by omega, decide_false, Bool.not_false, Bool.true_and, hi, decide_true]
  by_cases h8 : i < 16
  · rw [if_pos (by omega), if_pos h8, BitVec.getLsbD_shiftLeft, BitVec.getLsbD_setWidth]
    simp [h8, show 16 + i < 32 by omega]
  · rw [if_neg (by omega), if_neg h8]
    simp [BitVec.msb_eq_getLsbD_last]
theorem sx8 (x : BitVec 32) : x.signExtend 8 = x.setWidth 8 := by
  apply BitVec.eq_of_getLsbD_eq
  intro i hi
  rw [BitVec.getLsbD_signExtend, BitVec.getLsbD_setWidth, if_pos (by omega)]
theorem sx16 (x : BitVec 32) : x.signExtend 16 = x.setWidth 16 := by
  apply BitVec.eq_of_getLsbD_eq
  intro i hi
  rw [BitVec.getLsbD_signExtend, BitVec.getLsbD_setWidth, if_pos (by omega)]
theorem n_8 (x : Int32) : (x <<< (iI 24 &&& 31)) >>> (iI 24 &&& 31) = x.toInt8.toInt32 := by
  apply Int32.toBitVec_inj.mp
  exact (bv_n8 x.toBitVec).trans (congrArg (BitVec.signExtend 32) (sx8 x.toBitVec).symm)
theorem n_16 (x : Int32) : (x <<< (iI 16 &&& 31)) >>> (iI 16 &&& 31) = x.toInt16.toInt32 := by
  apply Int32.toBitVec_inj.mp
  exact (bv_n16 x.toBitVec).trans (congrArg (BitVec.signExtend 32) (sx16 x.toBitVec).symm)
theorem n_32 (x : Int32) : (x <<< (iI 0 &&& 31)) >>> (iI 0 &&& 31) = x := by
  apply Int32.toBitVec_inj.mp
  show (x.toBitVec <<< 0).sshiftRight 0 = x.toBitVec
  simp
theorem nrw_is {b v : Int} (hb : b = 8 ∨ b = 16 ∨ b = 32) (hv : rng v) : nrw b v = bshr (bshl v (32 - b)) (32 - b) := by
  unfold bshr bshl
  rw [iI_of]
  rcases hb with rfl | rfl | rfl
  · rw [show (32 : Int) - 8 = 24 by decide, n_8]
    rfl
  · rw [show (32 : Int) - 16 = 16 by decide, n_16]
    rfl
  · rw [show (32 : Int) - 32 = 0 by decide, n_32, iI_toInt hv]
    rfl
