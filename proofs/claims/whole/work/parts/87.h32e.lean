theorem wd_32 {g g2 : Nat → Int8} (t n : Nat) (hn : n ≤ 4) (ht : t < 16) (h : ∀ j, j < 64 → g j = g2 j) : (it (wdF false g t) n 0).toInt32 = it (w3I g2 t) n (nI 0) := by
  induction n with
  | zero => rfl
  | succ n ih =>
    show (lshl (it (wdF false g t) n 0) (nI 8) ||| (ub (g (t * 4 + n))).toInt64).toInt32 = (it (w3I g2 t) n (nI 0) <<< (nI 8 &&& 31)) ||| ((g2 (4 * t + n)).toInt32 &&& nI 255)
    rw [Int64.toInt32_or, lshl_32 _ 8 (by omega), ih (by omega), Int32.toInt32_toInt64, h _ (by omega), Nat.mul_comm t 4]
    rfl
theorem hi_zx (x : Int64) (h : ∀ i, 32 ≤ i → x.toBitVec.getLsbD i = false) : x = zx x.toInt32 := by
  rw [← mk_zx]
  apply Int64.toBitVec_inj.mp
  apply BitVec.eq_of_getLsbD_eq
  intro i hi
  rw [Int64.toBitVec_and, BitVec.getLsbD_and, mkf_bit i hi]
  by_cases c : i < 32
  · simp [c]
  · simp [h i (by omega)]
theorem wd_f {g g2 : Nat → Int8} (t : Nat) (ht : t < 16) (h : ∀ j, j < 64 → g j = g2 j) : wd1 false g t = zx (it (w3I g2 t) 4 (nI 0)) := by
  rw [← wd_32 t 4 (Nat.le_refl _) ht h]
  exact hi_zx _ (fun i hi => wd_hi g t 4 i (by omega))
theorem sc1_f {g g2 : Nat → Int8} (h : ∀ j, j < 64 → g j = g2 j) (w w2 : Nat → Int64) (n : Nat) (hn : n ≤ 16) : ∀ j, j < n → it (sc1F false g) n w j = zx (it (w3F g2) n w2 j).toInt32 := by
  induction n with
  | zero => exact fun j hj => absurd hj (by omega)
  | succ n ih =>
    intro j hj
    show va_up (it (sc1F false g) n w) n (wd1 false g n) j = zx (va_up (it (w3F g2) n w2) n (it (w3I g2 n) 4 (nI 0)).toInt64 j).toInt32
    rw [wd_f n (by omega) h]
    unfold va_up
    by_cases c : j = n
    · rw [if_pos c, if_pos c, Int32.toInt32_toInt64]
    · rw [if_neg c, if_neg c]
      exact ih (by omega) j (by omega)
theorem sch_f {g g2 : Nat → Int8} (h : ∀ j, j < 64 → g j = g2 j) (w w2 : Nat → Int64) : ∀ j, j < 64 → schC false g w j = zx (sch3 g2 w2 j).toInt32 := fun j hj => sc2_f (sc1_f h w w2 16 (Nat.le_refl _)) 48 j (by omega)
theorem ad_f (S S2 : Nat → Int64) (hS : ∀ i, i < 8 → S i = zx (S2 i).toInt32) (r : I8) : ∀ j, j < 8 → add4 false (add4 false S 0 (zx8 r).1 (zx8 r).2.1 (zx8 r).2.2.1 (zx8 r).2.2.2.1) 4 (zx8 r).2.2.2.2.1 (zx8 r).2.2.2.2.2.1 (zx8 r).2.2.2.2.2.2.1 (zx8 r).2.2.2.2.2.2.2 j = zx (up8 S2 (ext8 r) j).toInt32 := by
  have h0 := hS 0 (by omega)
  have h1 := hS 1 (by omega)
  have h2 := hS 2 (by omega)
  have h3 := hS 3 (by omega)
  have h4 := hS 4 (by omega)
  have h5 := hS 5 (by omega)
  have h6 := hS 6 (by omega)
  have h7 := hS 7 (by omega)
  intro j hj
  have hc : j = 0 ∨ j = 1 ∨ j = 2 ∨ j = 3 ∨ j = 4 ∨ j = 5 ∨ j = 6 ∨ j = 7 := by omega
  rcases hc with c | c | c | c | c | c | c | c <;> subst c <;> simp [add4, up8, ext8, zx8, va_up, mk_zx, zx_32, Int64.toInt32_add, h0, h1, h2, h3, h4, h5, h6, h7]
theorem cmp_f {K : Nat → Int64} {g g2 : Nat → Int8} {S S2 : Nat → Int64} (hK : ∀ t, t < 80 → K t = s_l 8 t) (hg : ∀ j, j < 64 → g j = g2 j) (hS : ∀ i, i < 8 → S i = zx (S2 i).toInt32) (w w2 : Nat → Int64) : ∀ j, j < 8 → cmpS false g S w j = zx (cmp3 K g2 S2 w2 j).toInt32 := by
  intro j hj
  unfold cmpS cmp3
  rw [r8_f hK (sch_f hg w w2) hS]
  exact ad_f S S2 hS _ j hj
theorem zx_8 (y : Int64) (k : Nat) (hk : k ≤ 24) : (lush (zx y.toInt32) (nI k)).toInt32.toInt8 = (lush y (nI k)).toInt32.toInt8 := by
  apply Int8.toBitVec_inj.mp
  apply BitVec.eq_of_getLsbD_eq
  intro i hi
  rw [Int32.toBitVec_toInt8, Int32.toBitVec_toInt8, BitVec.getLsbD_signExtend, BitVec.getLsbD_signExtend, if_pos (show i < 32 by omega), if_pos (show i < 32 by omega), Int64.toBitVec_toInt32, Int64.toBitVec_toInt32, BitVec.getLsbD_signExtend, BitVec.getLsbD_signExtend, if_pos (show i < 64 by omega), if_pos (show i < 64 by omega), lush_bv _ k (by omega), lush_bv _ k (by omega), BitVec.getLsbD_ushiftRight, BitVec.getLsbD_ushiftRight, zx_bit, Int64.toBitVec_toInt32, BitVec.getLsbD_signExtend, if_pos (show k + i < 64 by omega)]
  simp [hi, show i < 32 by omega, show k + i < 32 by omega]
