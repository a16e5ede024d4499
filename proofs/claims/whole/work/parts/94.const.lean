def dT : List Nat := [0, 0, 2, 2, 2, 3, 2, 3, 2, 3, 2, 4, 2, 4, 2, 3, 2, 5, 2, 5, 2, 3, 2, 5, 2, 5, 2, 3, 2, 6, 2, 6, 2, 3, 2, 5, 2, 7, 2, 3, 2, 7, 2, 7, 2, 3, 2, 7, 2, 7, 2, 3, 2, 8, 2, 5, 2, 3, 2, 8, 2, 8, 2, 3, 2, 5, 2, 9, 2, 3, 2, 9, 2, 9, 2, 3, 2, 7, 2, 9, 2, 3, 2, 10, 2, 5, 2, 3, 2, 10, 2, 7, 2, 3, 2, 5, 2, 10, 2, 3, 2, 11, 2, 11, 2, 3, 2, 11, 2, 11, 2, 3, 2, 11, 2, 5, 2, 3, 2, 7, 2, 11, 2, 3, 2, 5, 2, 12, 2, 3, 2, 12, 2, 7, 2, 3, 2, 12, 2, 12, 2, 3, 2, 11, 2, 5, 2, 3, 2, 13, 2, 13, 2, 3, 2, 5, 2, 13, 2, 3, 2, 7, 2, 13, 2, 3, 2, 13, 2, 13, 2, 3, 2, 14, 2, 5, 2, 3, 2, 14, 2, 14, 2, 3, 2, 5, 2, 11, 2, 3, 2, 14, 2, 14, 2, 3, 2, 15, 2, 15, 2, 3, 2, 7, 2, 5, 2, 3, 2, 11, 2, 15, 2, 3, 2, 5, 2, 7, 2, 3, 2, 13, 2, 15, 2, 3, 2, 16, 2, 16, 2, 3, 2, 16, 2, 5, 2, 3, 2, 16, 2, 16, 2, 3, 2, 5, 2, 13, 2, 3, 2, 16, 2, 11, 2, 3, 2, 17, 2, 7, 2, 3, 2, 17, 2, 5, 2, 3, 2, 17, 2, 17, 2, 3, 2, 5, 2, 17, 2, 3, 2, 17, 2, 17, 2, 3, 2, 7, 2, 17, 2, 3, 2, 18, 2, 5, 2, 3, 2, 13, 2, 7, 2, 3, 2, 5, 2, 18, 2, 3, 2, 18, 2, 18, 2, 3, 2, 18, 2, 11, 2, 3, 2, 17, 2, 5, 2, 3, 2, 7, 2, 19, 2, 3, 2, 5, 2, 19, 2, 3, 2, 11, 2, 7, 2, 3, 2, 19, 2, 19, 2, 3, 2, 19, 2, 5, 2, 3, 2, 19, 2, 19, 2, 3, 2, 5, 2, 20, 2, 3, 2, 7, 2, 20, 2, 3, 2, 13, 2, 20, 2, 3, 2, 20, 2, 5, 2, 3, 2, 20, 2, 17, 2, 3, 2, 5, 2, 20, 2, 3, 2, 21, 2, 13, 2, 3, 2, 11, 2, 21]
def dN (p : Nat) : Nat := dT.getD p 0
def prB (p : Nat) : Bool := prT.contains p
def ctN (p : Nat) : Nat := (prT.filter (fun x => x < p)).length
theorem dN_1 : ∀ p, p < 410 → 2 ≤ p → 2 ≤ dN p ∧ dN p < 30 := by decide +kernel
theorem dN_2 : ∀ p, p < 410 → ∀ d, d < dN p → 2 ≤ d → d * d ≤ p ∧ ¬ p % d = 0 := by decide +kernel
theorem dN_3 : ∀ p, p < 410 → 2 ≤ p → prB p = true → p < dN p * dN p := by decide +kernel
theorem dN_4 : ∀ p, p < 410 → 2 ≤ p → prB p = false → dN p * dN p ≤ p ∧ p % dN p = 0 := by decide +kernel
theorem ct_ok : ∀ p, p < 410 → 2 ≤ p → ctN p < 80 ∧ (prB p = true → prN (ctN p) = p ∧ ctN (p + 1) = ctN p + 1) ∧ (prB p = false → ctN (p + 1) = ctN p) := by decide +kernel
theorem pr_0 {p : Nat} (hp : p < 410) (h2 : 2 ≤ p) : ∀ d, d < dN p - 2 + 2 → 2 ≤ d → d * d ≤ p ∧ ¬ p % d = 0 := by
  intro d hd h3
  have h1 := dN_1 p hp h2
  exact dN_2 p hp d (by omega) h3
theorem pr_1 {p : Nat} (hp : p < 410) (h2 : 2 ≤ p) : dN p - 2 < 30 := by
  have h1 := dN_1 p hp h2
  omega
theorem pr_t {p : Nat} (hp : p < 410) (h2 : 2 ≤ p) (h : prB p = true) : p < (dN p - 2 + 2) * (dN p - 2 + 2) := by
  have h1 := dN_1 p hp h2
  rw [show dN p - 2 + 2 = dN p by omega]
  exact dN_3 p hp h2 h
theorem pr_f {p : Nat} (hp : p < 410) (h2 : 2 ≤ p) (h : prB p = false) : (dN p - 2 + 2) * (dN p - 2 + 2) ≤ p ∧ p % (dN p - 2 + 2) = 0 := by
  have h1 := dN_1 p hp h2
  rw [show dN p - 2 + 2 = dN p by omega]
  exact dN_4 p hp h2 h
theorem ct_2 : ctN 2 = 0 := by decide +kernel
theorem ct_410 : ctN 410 = 80 := by decide +kernel
def tuA (t : Nat) : Nat := ([1, 0, 2, 1, 2, 3, 3, 0, 1, 3, 1, 4, 4, 0, 3, 4, 3, 2, 2, 0, 4, 2, 4, 1, 1] : List Nat).getD t 0
def tuB (t : Nat) : Nat := ([0, 2, 1, 2, 3, 3, 0, 1, 3, 1, 4, 4, 0, 3, 4, 3, 2, 2, 0, 4, 2, 4, 1, 1, 0] : List Nat).getD t 0
theorem tu_st : ∀ t, t < 24 → tuA t < 5 ∧ tuB t < 5 ∧ tuA (t + 1) = tuB t ∧ tuB (t + 1) = (2 * tuA t + 3 * tuB t) % 5 := by decide +kernel
def tuF : Nat → (Nat → Int32) → Nat → Int32 := fun t T => va_up T (tuA t + 5 * tuB t) (nI ((t + 1) * (t + 2) / 2 % 64))
theorem tu_ok : ∀ j, j < 25 → it tuF 24 (fun _ => 0) j = s_i 10 j := by decide +kernel
def bvI : Nat → Int32 → Int32 := fun _ v => if nI 128 ≤ v then (nI 2 * v &&& nI 255) ^^^ nI 113 else nI 2 * v
def bitV (t : Nat) : Int32 := it bvI t (nI 1) &&& nI 1
def bvT : List Nat := [1, 2, 4, 8, 16, 32, 64, 128, 113, 226, 181, 27, 54, 108, 216, 193, 243, 151, 95, 190, 13, 26, 52, 104, 208, 209, 211, 215, 223, 207, 239, 175, 47, 94, 188, 9, 18, 36, 72, 144, 81, 162, 53, 106, 212, 217, 195, 247, 159, 79, 158, 77, 154, 69, 138, 101, 202, 229, 187, 7, 14, 28, 56, 112, 224, 177, 19, 38, 76, 152, 65, 130, 117, 234, 165, 59, 118, 236, 169, 35, 70, 140, 105, 210, 213, 219, 199, 255, 143, 111, 222, 205, 235, 167, 63, 126, 252, 137, 99, 198, 253, 139, 103, 206, 237, 171, 39, 78, 156, 73, 146, 85, 170, 37, 74, 148, 89, 178, 21, 42, 84, 168, 33, 66, 132, 121, 242, 149, 91, 182, 29, 58, 116, 232, 161, 51, 102, 204, 233, 163, 55, 110, 220, 201, 227, 183, 31, 62, 124, 248, 129, 115, 230, 189, 11, 22, 44, 88, 176, 17, 34, 68, 136, 97, 194, 245, 155, 71]
theorem bv_st : ∀ t, t < 167 → bvI t (nI (bvT.getD t 0)) = nI (bvT.getD (t + 1) 0) := by decide +kernel
theorem bv_tab (t : Nat) (ht : t < 168) : it bvI t (nI 1) = nI (bvT.getD t 0) := by
  induction t with
  | zero => rfl
  | succ t ih =>
    show bvI t (it bvI t (nI 1)) = _
    rw [ih (by omega), bv_st t (by omega)]
def rdI (i : Nat) : Nat → (Nat → Int64) → Nat → Int64 := fun j R => if bitV (j + 7 * i) = nI 1 then va_up R i (R i ||| lshl 1 ((nI 1 <<< (nI j &&& 31)) - nI 1)) else R
def rdF : Nat → (Nat → Int64) → Nat → Int64 := fun i R => it (rdI i) 7 R
def rdJ (i : Nat) : Nat → (Nat → Int64) → Nat → Int64 := fun j R => if bvT.getD (j + 7 * i) 0 % 2 = 1 then va_up R i (R i ||| lshl 1 ((nI 1 <<< (nI j &&& 31)) - nI 1)) else R
def rdG : Nat → (Nat → Int64) → Nat → Int64 := fun i R => it (rdJ i) 7 R
theorem bv_par : ∀ t, t < 168 → (nI (bvT.getD t 0) &&& nI 1 = nI 1 ↔ bvT.getD t 0 % 2 = 1) := by decide +kernel
theorem rd_g (i : Nat) (hi : i < 24) (R : Nat → Int64) : rdF i R = rdG i R := by
  unfold rdF rdG
  refine it_eq (fun j s hj => ?_) R
  have h := bv_par (j + 7 * i) (by omega)
  unfold rdI rdJ bitV
  rw [bv_tab _ (by omega)]
  by_cases c : bvT.getD (j + 7 * i) 0 % 2 = 1
  · rw [if_pos c, if_pos (h.mpr c)]
  · rw [if_neg c, if_neg (fun e => c (h.mp e))]
theorem rd_tab : ∀ i, i < 24 → it rdG 24 (fun _ => 0) i = s_l 9 i := by decide +kernel
theorem rd_ok : ∀ i, i < 24 → it rdF 24 (fun _ => 0) i = s_l 9 i := by
  intro i hi
  rw [it_eq (F2 := rdG) (fun k s hk => rd_g k hk s)]
  exact rd_tab i hi

