theorem ush_bv (v : Int32) : ∀ k, k < 32 → (ush v (nI k)).toBitVec = v.toBitVec >>> k := by
  intro k hk
  unfold ush
  have h : ((nI k).toUInt32 &&& Int32.toUInt32 31).toBitVec % 32#32 = BitVec.ofNat 32 k := by
    revert k
    decide +kernel
  show (v.toUInt32 >>> ((nI k).toUInt32 &&& Int32.toUInt32 31)).toBitVec = _
  rw [UInt32.toBitVec_shiftRight]
  rw [show (32 : BitVec 32) = 32#32 from rfl] at *
  rw [h, BitVec.ushiftRight_eq', BitVec.toNat_ofNat, Nat.mod_eq_of_lt (by omega)]
  rfl
theorem shr_bv (v : Int32) : ∀ k, k < 32 → (v >>> (nI k &&& 31)).toBitVec = v.toBitVec.sshiftRight k := by
  intro k hk
  have h : ((nI k &&& 31).toBitVec.smod 32#32) = BitVec.ofNat 32 k := by
    revert k
    decide +kernel
  rw [Int32.toBitVec_shiftRight]
  rw [show (32 : BitVec 32) = 32#32 from rfl] at *
  rw [h, BitVec.sshiftRight_eq', BitVec.toNat_ofNat, Nat.mod_eq_of_lt (by omega)]
theorem sh8 (v : Int32) (k : Nat) (hk : k ≤ 24) : (ush v (nI k)).toInt8 = (v >>> (nI k &&& 31)).toInt8 := by
  apply Int8.toBitVec_inj.mp
  rw [Int32.toBitVec_toInt8, Int32.toBitVec_toInt8, ush_bv v k (by omega), shr_bv v k (by omega)]
  apply BitVec.eq_of_getLsbD_eq
  intro i hi
  simp only [BitVec.getLsbD_signExtend, BitVec.getLsbD_setWidth, BitVec.getLsbD_ushiftRight, BitVec.getLsbD_sshiftRight]
  rw [if_pos (show i < 32 by omega), if_pos (show i < 32 by omega), if_pos (show k + i < 32 by omega), decide_eq_false (show ¬ 32 ≤ i by omega)]
  rfl
theorem app_wr (f : Nat → Int8) (n : Nat) (v : Int32) : app4 f n v = wr4 f n v := by
  unfold app4 wr4
  rw [sh8 v 24 (by omega), sh8 v 16 (by omega), sh8 v 8 (by omega), sh8 v 0 (by omega)]
theorem ub_l (b : Int8) : (ub b).toInt64 = b.toInt32.toInt64 &&& 255 := by
  unfold ub
  rw [show (255 : Int64) = (nI 255).toInt64 by decide]
  exact Int32.toInt64_and _ _
theorem eig_wd (f : Nat → Int8) (n i : Nat) : eig f n i = wdR f n i := by
  funext j s
  unfold eig wdR
  by_cases h : i + j < n
  · rw [if_pos h, if_pos h, ub_l]
  · rw [if_neg h, if_neg h]; rfl
