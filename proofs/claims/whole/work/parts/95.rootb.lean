def ab (W P p n : Nat) : Nat := if n * 65536 ^ (4 * p) < (W * 2 ^ 64 + P) ^ p then 1 else 0
theorem pw4 (p : Nat) : 65536 ^ (4 * p) = (2 ^ 64) ^ p := by
  rw [Nat.pow_mul]
theorem ab_0 {W P p n : Nat} (h : (W * 2 ^ 64 + P) ^ p ≤ n * 65536 ^ (4 * p)) : ab W P p n = 0 := if_neg (Nat.not_lt.mpr h)
theorem ab_1 {W P p n : Nat} (h : n * 65536 ^ (4 * p) < (W * 2 ^ 64 + P) ^ p) : ab W P p n = 1 := if_pos h
theorem isRt_lo {n p W P : Nat} (h : isRt n p W P) (k : Nat) (hk : k ≤ W) : ab k 0 p n = 0 := by
  apply ab_0
  rw [Nat.add_zero, Nat.mul_pow, pw4]
  exact Nat.mul_le_mul_right _ (Nat.le_trans (Nat.pow_le_pow_left hk p) h.1)
theorem isRt_hi {n p W P : Nat} (h : isRt n p W P) : ab (W + 1) 0 p n = 1 := by
  apply ab_1
  rw [Nat.add_zero, Nat.mul_pow, pw4]
  exact Nat.mul_lt_mul_of_pos_right h.2.1 (Nat.pow_pos (by decide))
theorem isRt_le {n p W P : Nat} (h : isRt n p W P) {x : Nat} (hx : x ≤ P) : ab W x p n = 0 := ab_0 (Nat.le_trans (Nat.pow_le_pow_left (Nat.add_le_add_left hx _) p) h.2.2.1)
theorem isRt_gt {n p W P : Nat} (h : isRt n p W P) {x : Nat} (hx : P < x) : ab W x p n = 1 := ab_1 (Nat.lt_of_lt_of_le h.2.2.2 (Nat.pow_le_pow_left (by omega) p))
def hiP (P k : Nat) : Nat := P / 2 ^ (64 - k) * 2 ^ (64 - k)
theorem hiP_0 {P : Nat} (h : P < 2 ^ 64) : hiP P 0 = 0 := by
  unfold hiP
  rw [Nat.div_eq_of_lt h, Nat.zero_mul]
theorem hiP_64 (P : Nat) : hiP P 64 = P := by
  unfold hiP
  rw [Nat.sub_self, Nat.pow_zero, Nat.div_one, Nat.mul_one]
theorem hiP_s (P k : Nat) (hk : k < 64) : (hiP P k + 2 ^ (63 - k) ≤ P → hiP P (k + 1) = hiP P k + 2 ^ (63 - k)) ∧ (P < hiP P k + 2 ^ (63 - k) → hiP P (k + 1) = hiP P k) := by
  unfold hiP
  rw [show 64 - (k + 1) = 63 - k by omega, show 64 - k = (63 - k) + 1 by omega, Nat.pow_succ]
  generalize hm : 2 ^ (63 - k) = m
  have h0 : 0 < m := by rw [← hm]; exact Nat.pow_pos (by decide)
  have e1 : P / (m * 2) = P / m / 2 := (Nat.div_div_eq_div_mul P m 2).symm
  rw [e1]
  have e2 := Nat.div_add_mod P m
  have e3 := Nat.mod_lt P h0
  generalize P / m = t at e2
  have hcases : (∃ r, t = 2 * r) ∨ (∃ r, t = 2 * r + 1) := by
    have := Nat.div_add_mod t 2
    have h3 := Nat.mod_lt t (show 0 < 2 by decide)
    by_cases c : t % 2 = 0
    · exact Or.inl ⟨t / 2, by omega⟩
    · exact Or.inr ⟨t / 2, by omega⟩
  rcases hcases with ⟨r, rfl⟩ | ⟨r, rfl⟩
  · rw [show 2 * r / 2 = r by omega]
    have e4 : r * (m * 2) = 2 * r * m := by rw [Nat.mul_comm m 2, ← Nat.mul_assoc, Nat.mul_comm r 2]
    have e5 : m * (2 * r) = 2 * r * m := Nat.mul_comm _ _
    rw [e4]
    exact ⟨fun h => by omega, fun _ => rfl⟩
  · rw [show (2 * r + 1) / 2 = r by omega]
    have e4 : r * (m * 2) = 2 * r * m := by rw [Nat.mul_comm m 2, ← Nat.mul_assoc, Nat.mul_comm r 2]
    have e5 : m * (2 * r + 1) = 2 * r * m + m := by rw [Nat.mul_comm, Nat.succ_mul]
    have e6 : (2 * r + 1) * m = 2 * r * m + m := Nat.succ_mul _ _
    rw [e4, e6]
    exact ⟨fun _ => rfl, fun h => by omega⟩
theorem hiP_le (P k : Nat) : hiP P k ≤ P := Nat.div_mul_le_self _ _
theorem hiP_lt {P k : Nat} (h : P < 2 ^ 64) (hk : k < 64) : hiP P k + 2 ^ (63 - k) < 2 ^ 64 := by
  unfold hiP
  have e : 2 ^ 64 = 2 ^ k * 2 ^ (64 - k) := by rw [← Nat.pow_add]; congr 1; omega
  have h1 : P / 2 ^ (64 - k) < 2 ^ k := by
    rw [Nat.div_lt_iff_lt_mul (Nat.pow_pos (by decide)), ← e]; exact h
  have h2 : (P / 2 ^ (64 - k) + 1) * 2 ^ (64 - k) ≤ 2 ^ k * 2 ^ (64 - k) := Nat.mul_le_mul_right _ h1
  rw [Nat.succ_mul, ← e] at h2
  have h3 : 2 ^ (63 - k) < 2 ^ (64 - k) := Nat.pow_lt_pow_right (by decide) (by omega)
  omega
theorem lN_bv (a : Nat) : (lN a).toBitVec = BitVec.ofNat 64 a := rfl
theorem or_bit (P k : Nat) (h : P < 2 ^ 64) (hk : k < 64) : lN (hiP P k) ||| lshl 1 (nI (63 - k)) = lN (hiP P k + 2 ^ (63 - k)) := by
  have hl := hiP_lt h hk
  apply Int64.toBitVec_inj.mp
  rw [Int64.toBitVec_or, lshl_bv _ _ (by omega), lN_bv, lN_bv]
  apply BitVec.eq_of_toNat_eq
  have e1 : (1 : Int64).toBitVec = 1#64 := rfl
  have h3 : 2 ^ (63 - k) < 2 ^ 64 := Nat.pow_lt_pow_right (by decide) (by omega)
  rw [BitVec.toNat_or, BitVec.toNat_ofNat, BitVec.toNat_ofNat, e1, BitVec.toNat_shiftLeft, BitVec.toNat_ofNat, Nat.mod_eq_of_lt (Nat.lt_of_le_of_lt (Nat.le_add_right _ _) hl), Nat.mod_eq_of_lt hl, show 1 % 2 ^ 64 = 1 from rfl, Nat.shiftLeft_eq, Nat.one_mul, Nat.mod_eq_of_lt h3]
  unfold hiP
  rw [Nat.mul_comm]
  exact (Nat.two_pow_add_eq_or_of_lt (Nat.pow_lt_pow_right (by decide) (by omega)) _).symm
theorem abv_hV {W P p : Nat} (hW : W < 1000) (hP : P < 2 ^ 64) (hp : p ≤ 3) : (W * 2 ^ 64 + P) ^ p < 65536 ^ (4 * p + 2) := by
  have h1 : W * 2 ^ 64 + P ≤ 1024 * 2 ^ 64 := by omega
  have h2 : (W * 2 ^ 64 + P) ^ p ≤ (1024 * 2 ^ 64) ^ p := Nat.pow_le_pow_left h1 p
  have h3 : (1024 * 2 ^ 64) ^ p < 65536 ^ (4 * p + 2) := by
    have : p = 0 ∨ p = 1 ∨ p = 2 ∨ p = 3 := by omega
    rcases this with h | h | h | h <;> subst h <;> decide
  omega
theorem ab_le (W P p n : Nat) : ab W P p n ≤ 1 := by unfold ab; split <;> omega
theorem rt_le {n p W P x : Nat} (h : isRt n p W P) (h1 : ab W x p n = 0) : x ≤ P := by
  by_cases c : x ≤ P
  · exact c
  · rw [isRt_gt h (by omega)] at h1; omega
theorem rt_gt {n p W P x : Nat} (h : isRt n p W P) (h1 : 0 < ab W x p n) : P < x := by
  by_cases c : P < x
  · exact c
  · rw [isRt_le h (by omega)] at h1; omega
theorem rt2' {i p : Nat} (hi : i < 16) (hp : prN i = p) : isRt p 2 (w2N i - 1 + 1) (u64 (rtT i)) := by
  have h1 := w2_lt i hi
  rw [show w2N i - 1 + 1 = w2N i by omega, ← hp]
  exact rt2_ok i hi
theorem rt3' {i p : Nat} (hi : i < 80) (hp : prN i = p) : isRt p 3 (w3N i - 1 + 1) (u64 (s_l 8 i)) := by
  have h1 := w3_lt i hi
  rw [show w3N i - 1 + 1 = w3N i by omega, ← hp]
  exact rt3_ok i hi
theorem w2' {i : Nat} (hi : i < 16) : w2N i - 1 + 1 < 30 := by have h1 := w2_lt i hi; omega
theorem w3' {i : Nat} (hi : i < 80) : w3N i - 1 + 1 < 30 := by have h1 := w3_lt i hi; omega
theorem ro_a (f : Nat → Int64) {n : Nat} (h : n < 16) : va_up (va_cpy rtT f 0 0 (min n 16)) n (rtT n) = va_cpy rtT f 0 0 (min (n + 1) 16) := by
  rw [show min n 16 = n by omega, show min (n + 1) 16 = n + 1 by omega, ← cpy_s, Nat.zero_add]
theorem ro_b (f : Nat → Int64) {n : Nat} (h : ¬ n < 16) : va_cpy rtT f 0 0 (min n 16) = va_cpy rtT f 0 0 (min (n + 1) 16) := by
  rw [show min n 16 = 16 by omega, show min (n + 1) 16 = 16 by omega]
theorem cu_a (f : Nat → Int64) (n : Nat) : va_up (va_cpy (s_l 8) f 0 0 n) n (s_l 8 n) = va_cpy (s_l 8) f 0 0 (n + 1) := by
  rw [← cpy_s, Nat.zero_add]
theorem cpy_ext {f g : Nat → Int64} (o : Nat → Int64) {n : Nat} (h : ∀ j, j < n → f j = g j) : ∀ j, j < n → va_cpy f o 0 0 n j = va_cpy g o 0 0 n j := by
  intro j hj
  unfold va_cpy
  rw [if_pos (by omega), if_pos (by omega)]
  exact h _ (by omega)
theorem cpy_at (f o : Nat → Int64) (n : Nat) : ∀ j, j < n → va_cpy f o 0 0 n j = f j := by
  intro j hj
  unfold va_cpy
  rw [if_pos (by omega), show 0 + (j - 0) = j by omega]
theorem ro_4 {i : Nat} (h : i < 8) : rtT i = s_l 4 i := if_pos h
