/-! ===== the call: feed; the bytes of a word ===== -/
theorem by_bits (x : BitVec 64) (s : Nat) (hs : s ≤ 56) : ((x.sshiftRight s) &&& 255#64).setWidth 32 = (x >>> s).setWidth 32 &&& 255#32 := by
  apply BitVec.eq_of_getLsbD_eq
  intro i hi
  have e1 : (255#64).getLsbD i = (decide (i < 64) && decide (i < 8)) := by
    rw [BitVec.getLsbD_ofNat, show (255 : Nat) = 2 ^ 8 - 1 from rfl, Nat.testBit_two_pow_sub_one]
  have e2 : (255#32).getLsbD i = (decide (i < 32) && decide (i < 8)) := by
    rw [BitVec.getLsbD_ofNat, show (255 : Nat) = 2 ^ 8 - 1 from rfl, Nat.testBit_two_pow_sub_one]
  simp only [BitVec.getLsbD_setWidth, BitVec.getLsbD_and, BitVec.getLsbD_sshiftRight, BitVec.getLsbD_ushiftRight, e1, e2]
  by_cases c : i < 8
  · have h1 : ¬ 64 ≤ i := by omega
    have h2 : s + i < 64 := by omega
    have h3 : i < 64 := by omega
    simp [c, h1, h2, h3, hi]
  · simp [c]
def byN (w : Int64) (k : Nat) : Nat := (w.toBitVec >>> (8 * k)).toNat % 256
theorem by_eq (w : Int64) (k : Nat) : (w.toBitVec >>> (8 * k)).setWidth 32 &&& 255#32 = BitVec.ofNat 32 (byN w k) := by
  apply BitVec.eq_of_toNat_eq
  rw [BitVec.toNat_and, BitVec.toNat_setWidth, show (255#32).toNat = 2 ^ 8 - 1 from rfl, Nat.and_two_pow_sub_one_eq_mod, BitVec.toNat_ofNat]
  unfold byN
  omega
theorem by_s1 : ∀ k, k < 8 → (((8 * nI k).toInt64.toUInt64 &&& Int64.toUInt64 63).toBitVec % 64).toNat = 8 * k := by decide +kernel
theorem by_s2 : ∀ k, k < 8 → (((8 * nI k).toInt64 &&& 63).toBitVec.smod 64).toNat = 8 * k := by decide +kernel
theorem by_c (w : Int64) (k : Nat) (hk : k < 8) : (w.toUInt64 >>> ((8 * nI k).toInt64.toUInt64 &&& Int64.toUInt64 63)).toInt64.toInt32 &&& 255 = nI (byN w k) := by
  apply Int32.toBitVec_inj.mp
  show _ = BitVec.ofNat 32 (byN w k)
  rw [← by_eq, Int32.toBitVec_and]
  congr 1
  rw [Int64.toBitVec_toInt32, BitVec.signExtend_eq_setWidth_of_le _ (by omega)]
  show BitVec.setWidth 32 (w.toUInt64 >>> ((8 * nI k).toInt64.toUInt64 &&& Int64.toUInt64 63)).toBitVec = _
  rw [UInt64.toBitVec_shiftRight]
  show BitVec.setWidth 32 (w.toBitVec >>> (((8 * nI k).toInt64.toUInt64 &&& Int64.toUInt64 63).toBitVec % 64)) = _
  rw [BitVec.ushiftRight_eq', by_s1 k hk]
theorem by_m (w : Int64) (k : Nat) (hk : k < 8) : ((w >>> ((8 * nI k).toInt64 &&& 63)) &&& 255).toInt32 = nI (byN w k) := by
  apply Int32.toBitVec_inj.mp
  show _ = BitVec.ofNat 32 (byN w k)
  rw [← by_eq, ← by_bits _ _ (by omega)]
  rw [Int64.toBitVec_toInt32, BitVec.signExtend_eq_setWidth_of_le _ (by omega)]
  rw [Int64.toBitVec_and, Int64.toBitVec_shiftRight]
  show BitVec.setWidth 32 (BitVec.sshiftRight w.toBitVec (((8 * nI k).toInt64 &&& 63).toBitVec.smod 64).toNat &&& 255#64) = _
  rw [by_s2 k hk]
