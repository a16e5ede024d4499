def prT : List Nat := [2, 3, 5, 7, 11, 13, 17, 19, 23, 29, 31, 37, 41, 43, 47, 53, 59, 61, 67, 71, 73, 79, 83, 89, 97, 101, 103, 107, 109, 113, 127, 131, 137, 139, 149, 151, 157, 163, 167, 173, 179, 181, 191, 193, 197, 199, 211, 223, 227, 229, 233, 239, 241, 251, 257, 263, 269, 271, 277, 281, 283, 293, 307, 311, 313, 317, 331, 337, 347, 349, 353, 359, 367, 373, 379, 383, 389, 397, 401, 409]
def prN (i : Nat) : Nat := prT.getD i 0
def w2T : List Nat := [1, 1, 2, 2, 3, 3, 4, 4, 4, 5, 5, 6, 6, 6, 6, 7]
def w3T : List Nat := [1, 1, 1, 1, 2, 2, 2, 2, 2, 3, 3, 3, 3, 3, 3, 3, 3, 3, 4, 4, 4, 4, 4, 4, 4, 4, 4, 4, 4, 4, 5, 5, 5, 5, 5, 5, 5, 5, 5, 5, 5, 5, 5, 5, 5, 5, 5, 6, 6, 6, 6, 6, 6, 6, 6, 6, 6, 6, 6, 6, 6, 6, 6, 6, 6, 6, 6, 6, 7, 7, 7, 7, 7, 7, 7, 7, 7, 7, 7, 7]
def w2N (i : Nat) : Nat := w2T.getD i 0
def w3N (i : Nat) : Nat := w3T.getD i 0
def u64 (x : Int64) : Nat := x.toBitVec.toNat
theorem u64_lt (x : Int64) : u64 x < 2 ^ 64 := x.toBitVec.isLt
theorem lN_u64 (x : Int64) : lN (u64 x) = x := by
  apply Int64.toBitVec_inj.mp
  show BitVec.ofNat 64 x.toBitVec.toNat = x.toBitVec
  simp
abbrev isRt (n p W P : Nat) : Prop := W ^ p ≤ n ∧ n < (W + 1) ^ p ∧ (W * 2 ^ 64 + P) ^ p ≤ n * 65536 ^ (4 * p) ∧ n * 65536 ^ (4 * p) < (W * 2 ^ 64 + P + 1) ^ p
def rtT (i : Nat) : Int64 := if i < 8 then s_l 4 i else s_l 5 (i - 8)
theorem rt2_ok : ∀ i, i < 16 → isRt (prN i) 2 (w2N i) (u64 (rtT i)) := by decide +kernel
theorem rt3_ok : ∀ i, i < 80 → isRt (prN i) 3 (w3N i) (u64 (s_l 8 i)) := by decide +kernel
theorem w2_lt : ∀ i, i < 16 → 1 ≤ w2N i ∧ w2N i < 30 := by decide +kernel
theorem w3_lt : ∀ i, i < 80 → 1 ≤ w3N i ∧ w3N i < 30 := by decide +kernel
theorem pr_lt : ∀ i, i < 80 → prN i < 410 := by decide +kernel

