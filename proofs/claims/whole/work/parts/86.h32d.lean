theorem b255 : ∀ i, i < 64 → 8 ≤ i → (255 : Int64).toBitVec.getLsbD i = false := by decide +kernel
theorem ub_bit (b : Int8) (i : Nat) (h : 8 ≤ i) : ((ub b).toInt64).toBitVec.getLsbD i = false := by
  rw [ub_l, Int64.toBitVec_and, BitVec.getLsbD_and]
  by_cases h2 : i < 64
  · rw [b255 i h2 h, Bool.and_false]
  · rw [BitVec.getLsbD_of_ge _ i (by omega), Bool.false_and]
theorem wd_hi (g : Nat → Int8) (t n : Nat) : ∀ i, 8 * n ≤ i → (it (wdF false g t) n 0).toBitVec.getLsbD i = false := by
  induction n with
  | zero => intro i _; show (0 : Int64).toBitVec.getLsbD i = false; simp
  | succ n ih =>
    intro i hi
    show (lshl (it (wdF false g t) n 0) (nI 8) ||| (ub (g (t * wbN false + n))).toInt64).toBitVec.getLsbD i = false
    rw [Int64.toBitVec_or, BitVec.getLsbD_or, ub_bit _ i (by omega), lshl_bv _ 8 (by omega), BitVec.getLsbD_shiftLeft, ih (i - 8) (by omega)]
    simp
