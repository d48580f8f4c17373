section Bytes
-- bytes: narrowing to eight bits with a sign, and the lower eight bits
theorem by_and (x : Int32) : x.toInt8.toInt32 &&& 255 = x &&& 255 := by
  apply Int32.toBitVec_inj.mp
  rw [Int32.toBitVec_and, Int32.toBitVec_and, Int8.toBitVec_toInt32, Int32.toBitVec_toInt8]
  have h1 : (255 : Int32).toBitVec = BitVec.setWidth 32 (BitVec.allOnes 8) := by decide
  rw [h1]
  apply BitVec.eq_of_getLsbD_eq
  intro i hi
  simp only [BitVec.getLsbD_and, BitVec.getLsbD_signExtend, BitVec.getLsbD_setWidth, BitVec.getLsbD_allOnes]
  by_cases h2 : i < 8
  · simp [hi, h2]
  · simp [h2]
theorem by_idem (x : Int32) : x.toInt8.toInt32.toInt8 = x.toInt8 := Int8.toInt8_toInt32 _
theorem br_n (x : Int32) : br x.toInt8.toInt32 := by unfold br; rw [by_idem]
theorem nar_b (x : Int32) : vp_nar .byte x.toInt8.toInt32 = x.toInt8.toInt32 := by rw [vp_nar_byte, by_idem]
end Bytes
