theorem lush_zx (r : Int32) (k : Nat) (hk : k < 32) : (lush (zx r) (nI k)).toInt32 = ush r (nI k) := by
  apply Int32.toBitVec_inj.mp
  apply BitVec.eq_of_getLsbD_eq
  intro i hi
  rw [Int64.toBitVec_toInt32, BitVec.getLsbD_signExtend, if_pos (show i < 64 by omega), lush_bv _ k (by omega), ush_bv r k hk, BitVec.getLsbD_ushiftRight, BitVec.getLsbD_ushiftRight, zx_bit]
  simp [hi]
theorem lshl_32 (x : Int64) (k : Nat) (hk : k < 32) : (lshl x (nI k)).toInt32 = x.toInt32 <<< (nI k &&& 31) := by
  apply Int32.toBitVec_inj.mp
  apply BitVec.eq_of_getLsbD_eq
  intro i hi
  rw [Int64.toBitVec_toInt32, BitVec.getLsbD_signExtend, if_pos (show i < 64 by omega), lshl_bv _ k (by omega), shl_bv _ k hk, BitVec.getLsbD_shiftLeft, BitVec.getLsbD_shiftLeft, Int64.toBitVec_toInt32, BitVec.getLsbD_signExtend, if_pos (show i - k < 64 by omega)]
  simp [hi, show i < 64 by omega, show i - k < 32 by omega]
theorem rot_f (r : Int32) (k : Nat) (h0 : 0 < k) (hk : k < 32) : rotrC false (zx r) (nI k) = zx (turnR r (nI k)) := by
  unfold rotrC turnR
  rw [mk_zx, Int64.toInt32_or, lush_zx r k hk, show nI (8 * wbN false) - nI k = nI (32 - k) from pk_sub (show k ≤ 32 by omega), lshl_32 _ _ (by omega), zx_32, show nI 32 - nI k = nI (32 - k) from pk_sub (by omega)]
theorem zx_xor (a b : Int32) : zx a ^^^ zx b = zx (a ^^^ b) := by
  apply Int64.toBitVec_inj.mp
  apply BitVec.eq_of_getLsbD_eq
  intro i hi
  rw [zx_bit, Int64.toBitVec_xor, BitVec.getLsbD_xor, zx_bit, zx_bit, Int32.toBitVec_xor, BitVec.getLsbD_xor]
theorem lush_zx2 (r : Int32) (k : Nat) (hk : k < 32) : lush (zx r) (nI k) = zx (ush r (nI k)) := by
  apply Int64.toBitVec_inj.mp
  apply BitVec.eq_of_getLsbD_eq
  intro i hi
  rw [zx_bit, lush_bv _ k (by omega), ush_bv r k hk, BitVec.getLsbD_ushiftRight, BitVec.getLsbD_ushiftRight, zx_bit]
theorem thr_f3 (r : Int32) : thr false (zx r) 3 = zx (turnR r (nI 6) ^^^ turnR r (nI 11) ^^^ turnR r (nI 25)) := by
  show rotrC false (zx r) (nI 6) ^^^ rotrC false (zx r) (nI 11) ^^^ rotrC false (zx r) (nI 25) = _
  rw [rot_f r 6 (by omega) (by omega), rot_f r 11 (by omega) (by omega), rot_f r 25 (by omega) (by omega), zx_xor, zx_xor]
theorem thr_f0 (r : Int32) : thr false (zx r) 0 = zx (turnR r (nI 2) ^^^ turnR r (nI 13) ^^^ turnR r (nI 22)) := by
  show rotrC false (zx r) (nI 2) ^^^ rotrC false (zx r) (nI 13) ^^^ rotrC false (zx r) (nI 22) = _
  rw [rot_f r 2 (by omega) (by omega), rot_f r 13 (by omega) (by omega), rot_f r 22 (by omega) (by omega), zx_xor, zx_xor]
theorem tws_f9 (r : Int32) : tws false (zx r) 9 = zx (turnR r (nI 17) ^^^ turnR r (nI 19) ^^^ ush r (nI 10)) := by
  show rotrC false (zx r) (nI 17) ^^^ rotrC false (zx r) (nI 19) ^^^ lush (zx r) (nI 10) = _
  rw [rot_f r 17 (by omega) (by omega), rot_f r 19 (by omega) (by omega), lush_zx2 r 10 (by omega), zx_xor, zx_xor]
theorem tws_f6 (r : Int32) : tws false (zx r) 6 = zx (turnR r (nI 7) ^^^ turnR r (nI 18) ^^^ ush r (nI 3)) := by
  show rotrC false (zx r) (nI 7) ^^^ rotrC false (zx r) (nI 18) ^^^ lush (zx r) (nI 3) = _
  rw [rot_f r 7 (by omega) (by omega), rot_f r 18 (by omega) (by omega), lush_zx2 r 3 (by omega), zx_xor, zx_xor]
