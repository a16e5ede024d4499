def zx (r : Int32) : Int64 := r.toInt64 &&& mk9 false
theorem mkf_bit : ∀ i, i < 64 → (mk9 false).toBitVec.getLsbD i = decide (i < 32) := by decide +kernel
theorem zx_bit (r : Int32) (i : Nat) : (zx r).toBitVec.getLsbD i = r.toBitVec.getLsbD i := by
  unfold zx
  rw [Int64.toBitVec_and, BitVec.getLsbD_and, Int32.toBitVec_toInt64]
  by_cases h : i < 32
  · rw [mkf_bit i (by omega), BitVec.getLsbD_signExtend, if_pos h]
    simp [h]
    omega
  · by_cases h2 : i < 64
    · rw [mkf_bit i h2, BitVec.getLsbD_of_ge r.toBitVec i (by omega)]
      simp [h]
    · rw [BitVec.getLsbD_of_ge _ i (by omega), BitVec.getLsbD_of_ge r.toBitVec i (by omega), Bool.false_and]
theorem zx_32 (r : Int32) : (zx r).toInt32 = r := by
  apply Int32.toBitVec_inj.mp
  apply BitVec.eq_of_getLsbD_eq
  intro i hi
  rw [Int64.toBitVec_toInt32, BitVec.getLsbD_signExtend, if_pos (show i < 64 by omega), zx_bit]
  simp [hi]
theorem mk_zx (x : Int64) : x &&& mk9 false = zx x.toInt32 := by
  apply Int64.toBitVec_inj.mp
  apply BitVec.eq_of_getLsbD_eq
  intro i hi
  rw [zx_bit, Int64.toBitVec_and, BitVec.getLsbD_and, mkf_bit i hi, Int64.toBitVec_toInt32, BitVec.getLsbD_signExtend, if_pos hi]
  exact Bool.and_comm _ _
theorem lush_bv (x : Int64) : ∀ k, k < 64 → (lush x (nI k)).toBitVec = x.toBitVec >>> k := by
  intro k hk
  unfold lush
  have h : ((nI k).toInt64.toUInt64 &&& Int64.toUInt64 63).toBitVec % 64#64 = BitVec.ofNat 64 k := by
    revert k
    decide +kernel
  show (x.toUInt64 >>> ((nI k).toInt64.toUInt64 &&& Int64.toUInt64 63)).toBitVec = _
  rw [UInt64.toBitVec_shiftRight]
  rw [show (64 : BitVec 64) = 64#64 from rfl] at *
  rw [h, BitVec.ushiftRight_eq', BitVec.toNat_ofNat, Nat.mod_eq_of_lt (by omega)]
  rfl
theorem lshl_bv (x : Int64) : ∀ k, k < 64 → (lshl x (nI k)).toBitVec = x.toBitVec <<< k := by
  intro k hk
  unfold lshl
  have h : ((nI k).toInt64 &&& 63).toBitVec.smod 64#64 = BitVec.ofNat 64 k := by
    revert k
    decide +kernel
  rw [Int64.toBitVec_shiftLeft]
  rw [show (64 : BitVec 64) = 64#64 from rfl] at *
  rw [h, BitVec.shiftLeft_eq', BitVec.toNat_ofNat, Nat.mod_eq_of_lt (by omega)]
theorem shl_bv (v : Int32) : ∀ k, k < 32 → (v <<< (nI k &&& 31)).toBitVec = v.toBitVec <<< k := by
  intro k hk
  have h : ((nI k &&& 31).toBitVec.smod 32#32) = BitVec.ofNat 32 k := by
    revert k
    decide +kernel
  rw [Int32.toBitVec_shiftLeft]
  rw [show (32 : BitVec 32) = 32#32 from rfl] at *
  rw [h, BitVec.shiftLeft_eq', BitVec.toNat_ofNat, Nat.mod_eq_of_lt (by omega)]
