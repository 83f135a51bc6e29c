/-! ===== the reference: feed ===== -/
theorem bv_8 (w : BitVec 32) (n : Nat) (hn : n ≤ 24) : (w.sshiftRight n).setWidth 8 = (w >>> n).setWidth 8 := by
  apply BitVec.eq_of_getLsbD_eq
  intro i hi
  rw [BitVec.getLsbD_setWidth, BitVec.getLsbD_setWidth, BitVec.getLsbD_sshiftRight, BitVec.getLsbD_ushiftRight]
  have h1 : ¬ 32 ≤ i := by omega
  have h2 : n + i < 32 := by omega
  simp [h1, h2]
theorem by_sh (w : Int32) (s : Int) (hs : s = 0 ∨ s = 8 ∨ s = 16 ∨ s = 24) : (w >>> (iI s &&& 31)).toInt8 = ((w.toUInt32 >>> ((iI s).toUInt32 &&& Int32.toUInt32 31)).toInt32).toInt8 := by
  apply Int8.toBitVec_inj.mp
  rw [Int32.toBitVec_toInt8, Int32.toBitVec_toInt8, BitVec.signExtend_eq_setWidth_of_le _ (by decide), BitVec.signExtend_eq_setWidth_of_le _ (by decide), Int32.toBitVec_shiftRight]
  rcases hs with rfl | rfl | rfl | rfl
  · rw [show (iI 0 &&& 31) = (0 : Int32) by decide, show ((iI 0).toUInt32 &&& Int32.toUInt32 31) = (0 : UInt32) by decide]; exact bv_8 w.toBitVec 0 (by decide)
  · rw [show (iI 8 &&& 31) = (8 : Int32) by decide, show ((iI 8).toUInt32 &&& Int32.toUInt32 31) = (8 : UInt32) by decide]; exact bv_8 w.toBitVec 8 (by decide)
  · rw [show (iI 16 &&& 31) = (16 : Int32) by decide, show ((iI 16).toUInt32 &&& Int32.toUInt32 31) = (16 : UInt32) by decide]; exact bv_8 w.toBitVec 16 (by decide)
  · rw [show (iI 24 &&& 31) = (24 : Int32) by decide, show ((iI 24).toUInt32 &&& Int32.toUInt32 31) = (24 : UInt32) by decide]; exact bv_8 w.toBitVec 24 (by decide)
