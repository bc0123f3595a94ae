/-! bytes of a number, in both classes' ways -/
theorem lo255 : ∀ j, j < 64 → ((255 : Int64).toBitVec.getLsbD j = decide (j < 8)) := by decide +kernel
theorem sa_and (x : Int64) {k : Nat} (hk : k ≤ 56) : (x >>> ((nI k).toInt64 &&& 63)) &&& 255 = ((x.toUInt64 >>> ((nI k).toInt64.toUInt64 &&& Int64.toUInt64 63)).toInt64) &&& 255 := by
  apply wb_inj
  rw [Int64.toBitVec_and, Int64.toBitVec_and, wb_c k (by omega), wb_cu k (by omega), Int64.toBitVec_shiftRight, wb_tb, wb_sm k (by omega)]
  show x.toBitVec.sshiftRight (BitVec.ofNat 64 k).toNat &&& _ = (x.toUInt64 >>> UInt64.ofNat k).toBitVec &&& _
  rw [UInt64.toBitVec_shiftRight]
  show x.toBitVec.sshiftRight (BitVec.ofNat 64 k).toNat &&& _ = x.toBitVec >>> ((BitVec.ofNat 64 k) % 64).toNat &&& _
  have e1 : (BitVec.ofNat 64 k).toNat = k := by rw [BitVec.toNat_ofNat, Nat.mod_eq_of_lt (by omega)]
  have e2 : ((BitVec.ofNat 64 k) % 64).toNat = k := by
    rw [BitVec.toNat_umod, e1]
    show k % 64 = k
    exact Nat.mod_eq_of_lt (by omega)
  rw [e1, e2]
  apply BitVec.eq_of_getLsbD_eq
  intro i hi
  rw [BitVec.getLsbD_and, BitVec.getLsbD_and, lo255 i hi, BitVec.getLsbD_sshiftRight, BitVec.getLsbD_ushiftRight]
  by_cases h : i < 8
  · rw [if_pos (by omega)]
    have h64 : ¬ 64 ≤ i := by omega
    simp [h64]
  · simp [h]
theorem sh32 (x : Int64) : ((x.toUInt64 >>> ((32 : Int32).toInt64.toUInt64 &&& Int64.toUInt64 63)).toInt64).toInt32 = (x >>> ((32 : Int32).toInt64 &&& 63)).toInt32 := by
  apply Int32.toBitVec_inj.mp
  rw [Int64.toBitVec_toInt32, Int64.toBitVec_toInt32]
  rw [show (32 : Int32) = nI 32 from rfl, wb_c 32 (by decide), wb_cu 32 (by decide), Int64.toBitVec_shiftRight, wb_tb, wb_sm 32 (by decide)]
  show ((x.toUInt64 >>> UInt64.ofNat 32).toBitVec).signExtend 32 = (x.toBitVec.sshiftRight (BitVec.ofNat 64 32).toNat).signExtend 32
  rw [UInt64.toBitVec_shiftRight]
  show (x.toBitVec >>> ((BitVec.ofNat 64 32) % 64).toNat).signExtend 32 = (x.toBitVec.sshiftRight 32).signExtend 32
  show (x.toBitVec >>> 32).signExtend 32 = _
  apply BitVec.eq_of_getLsbD_eq
  intro i hi
  rw [BitVec.getLsbD_signExtend, BitVec.getLsbD_signExtend, if_pos (by omega), if_pos (by omega), BitVec.getLsbD_sshiftRight, BitVec.getLsbD_ushiftRight, if_pos (by omega)]
  have h64 : ¬ 64 ≤ i := by omega
  simp [h64]
