def inR (v lo hi : Int32) : Int32 := if v < lo then nI 0 else if hi < v then nI 0 else nI 1
theorem cpy_0 {α : Type} (f g : Nat → α) (sp dp : Nat) : g = va_cpy f g sp dp 0 := by
  funext j
  unfold va_cpy
  rw [if_neg (by omega)]
theorem cpy_s {α : Type} (f g : Nat → α) (sp dp k : Nat) : va_up (va_cpy f g sp dp k) (dp + k) (f (sp + k)) = va_cpy f g sp dp (k + 1) := by
  funext j
  unfold va_up va_cpy
  by_cases h1 : j = dp + k
  · rw [if_pos h1, if_pos (by omega), h1, Nat.add_sub_cancel_left]
  · rw [if_neg h1]
    by_cases h2 : dp ≤ j ∧ j < dp + k
    · rw [if_pos h2, if_pos (by omega)]
    · rw [if_neg h2, if_neg (by omega)]
def app4R (f : Nat → Int8) (n : Nat) (v : Int32) : Nat → (Nat → Int8) → Nat → Int8 := fun k s => va_up s (n + k) (v >>> (nI (24 - 8 * k) &&& 31)).toInt8
def leftR (x : Int64) (n : Int32) : Int64 := if n = nI 0 then x else lshl x n ||| lush x (nI 64 - n)
def rc1 (S : Nat → Int64) (a : Nat) : Nat → (Nat → Int64) → Nat → Int64 := fun b c => va_up c a (c a ^^^ S (a + 5 * b))
def rcF (S : Nat → Int64) : Nat → (Nat → Int64) → Nat → Int64 := fun a c => it (rc1 S a) 5 (va_up c a 0)
def rcols (S C : Nat → Int64) : Nat → Int64 := it (rcF S) 5 C
def rtI (C : Nat → Int64) (a : Nat) : Nat → (Nat → Int64) → Nat → Int64 := fun b S => va_up S (a + 5 * b) (S (a + 5 * b) ^^^ (C ((a + 4) % 5) ^^^ leftR (C ((a + 1) % 5)) (nI 1)))
def rtF (C : Nat → Int64) : Nat → (Nat → Int64) → Nat → Int64 := fun a S => it (rtI C a) 5 S
def rtheta (C S : Nat → Int64) : Nat → Int64 := it (rtF C) 5 S
def rrI (S : Nat → Int64) (T : Nat → Int32) (a : Nat) : Nat → (Nat → Int64) → Nat → Int64 := fun b o => va_up o (b + 5 * ((2 * a + 3 * b) % 5)) (leftR (S (a + 5 * b)) (T (a + 5 * b)))
def rrF (S : Nat → Int64) (T : Nat → Int32) : Nat → (Nat → Int64) → Nat → Int64 := fun a o => it (rrI S T a) 5 o
def rrho (S : Nat → Int64) (T : Nat → Int32) (o : Nat → Int64) : Nat → Int64 := it (rrF S T) 5 o
def rxI (o : Nat → Int64) (a : Nat) : Nat → (Nat → Int64) → Nat → Int64 := fun b S => va_up S (a + 5 * b) (o (a + 5 * b) ^^^ ((o ((a + 1) % 5 + 5 * b) ^^^ (-1)) &&& o ((a + 2) % 5 + 5 * b)))
def rxF (o : Nat → Int64) : Nat → (Nat → Int64) → Nat → Int64 := fun a S => it (rxI o a) 5 S
def rchi (o S : Nat → Int64) : Nat → Int64 := it (rxF o) 5 S
def rpF (T : Nat → Int32) (rn : Nat → Int64) : Nat → S3 → S3 := fun i s =>
  (va_up (rchi (rrho (rtheta (rcols s.1 s.2.2) s.1) T s.2.1) (rtheta (rcols s.1 s.2.2) s.1)) 0 (rchi (rrho (rtheta (rcols s.1 s.2.2) s.1) T s.2.1) (rtheta (rcols s.1 s.2.2) s.1) 0 ^^^ rn i), rrho (rtheta (rcols s.1 s.2.2) s.1) T s.2.1, rcols s.1 s.2.2)
def rprm (T : Nat → Int32) (rn : Nat → Int64) (s : S3) : S3 := it (rpF T rn) 24 s
def flipR (S : Nat → Int64) (p : Nat) (v : Int32) : Nat → Int64 := va_up S (p / 8) (S (p / 8) ^^^ lshl (v.toInt64 &&& 255) (nI (8 * (p % 8))))
def rightR (x : Int64) (n : Int32) : Int64 := lush x n ||| lshl x (nI 64 - n)
def turnR (x n : Int32) : Int32 := ush x n ||| (x <<< ((nI 32 - n) &&& 31))
def w6I (g : Nat → Int8) (t : Nat) : Nat → (Nat → Int64) → Nat → Int64 := fun k w => va_up w t (lshl (w t) (nI 8) ||| ((g (8 * t + k)).toInt32.toInt64 &&& 255))
def w6F (g : Nat → Int8) : Nat → (Nat → Int64) → Nat → Int64 := fun t w => it (w6I g t) 8 (va_up w t 0)
def x6F : Nat → (Nat → Int64) → Nat → Int64 := fun k w => va_up w (k + 16) ((rightR (w (k + 14)) (nI 19) ^^^ rightR (w (k + 14)) (nI 61) ^^^ lush (w (k + 14)) (nI 6)) + w (k + 9) + (rightR (w (k + 1)) (nI 1) ^^^ rightR (w (k + 1)) (nI 8) ^^^ lush (w (k + 1)) (nI 7)) + w k)
def sch6 (g : Nat → Int8) (w : Nat → Int64) : Nat → Int64 := it x6F 64 (it (w6F g) 16 w)
def rn6 (K w : Nat → Int64) : Nat → R8 → R8 := fun t s =>
  let x := s.2.2.2.2.2.2.2 + (rightR s.2.2.2.2.1 (nI 14) ^^^ rightR s.2.2.2.2.1 (nI 18) ^^^ rightR s.2.2.2.2.1 (nI 41)) + ((s.2.2.2.2.1 &&& s.2.2.2.2.2.1) ^^^ ((s.2.2.2.2.1 ^^^ (-1)) &&& s.2.2.2.2.2.2.1)) + K t + w t
  let y := (rightR s.1 (nI 28) ^^^ rightR s.1 (nI 34) ^^^ rightR s.1 (nI 39)) + ((s.1 &&& s.2.1) ^^^ (s.1 &&& s.2.2.1) ^^^ (s.2.1 &&& s.2.2.1))
  (x + y, s.1, s.2.1, s.2.2.1, s.2.2.2.1 + x, s.2.2.2.2.1, s.2.2.2.2.2.1, s.2.2.2.2.2.2.1)
def r86 (K S w : Nat → Int64) : R8 := it (rn6 K w) 80 (S 0, S 1, S 2, S 3, S 4, S 5, S 6, S 7)
def up8 (S : Nat → Int64) (r : R8) : Nat → Int64 :=
  let S0 := va_up S 0 (S 0 + r.1)
  let S1 := va_up S0 1 (S0 1 + r.2.1)
  let S2 := va_up S1 2 (S1 2 + r.2.2.1)
  let S3 := va_up S2 3 (S2 3 + r.2.2.2.1)
  let S4 := va_up S3 4 (S3 4 + r.2.2.2.2.1)
  let S5 := va_up S4 5 (S4 5 + r.2.2.2.2.2.1)
  let S6 := va_up S5 6 (S5 6 + r.2.2.2.2.2.2.1)
  va_up S6 7 (S6 7 + r.2.2.2.2.2.2.2)
def cmp6 (K : Nat → Int64) (g : Nat → Int8) (S w : Nat → Int64) : Nat → Int64 := up8 S (r86 K S (sch6 g w))
def w3I (g : Nat → Int8) (t : Nat) : Nat → Int32 → Int32 := fun k s => (s <<< (nI 8 &&& 31)) ||| ((g (4 * t + k)).toInt32 &&& nI 255)
def w3F (g : Nat → Int8) : Nat → (Nat → Int64) → Nat → Int64 := fun t w => va_up w t (it (w3I g t) 4 (nI 0)).toInt64
def x3F : Nat → (Nat → Int64) → Nat → Int64 := fun k w => va_up w (k + 16) ((turnR (w (k + 14)).toInt32 (nI 17) ^^^ turnR (w (k + 14)).toInt32 (nI 19) ^^^ ush (w (k + 14)).toInt32 (nI 10)) + (w (k + 9)).toInt32 + (turnR (w (k + 1)).toInt32 (nI 7) ^^^ turnR (w (k + 1)).toInt32 (nI 18) ^^^ ush (w (k + 1)).toInt32 (nI 3)) + (w k).toInt32).toInt64
def sch3 (g : Nat → Int8) (w : Nat → Int64) : Nat → Int64 := it x3F 48 (it (w3F g) 16 w)
abbrev I8 : Type := Int32 × Int32 × Int32 × Int32 × Int32 × Int32 × Int32 × Int32
def rn3 (K w : Nat → Int64) : Nat → I8 → I8 := fun t s =>
  let x := s.2.2.2.2.2.2.2 + (turnR s.2.2.2.2.1 (nI 6) ^^^ turnR s.2.2.2.2.1 (nI 11) ^^^ turnR s.2.2.2.2.1 (nI 25)) + ((s.2.2.2.2.1 &&& s.2.2.2.2.2.1) ^^^ ((s.2.2.2.2.1 ^^^ (-1)) &&& s.2.2.2.2.2.2.1)) + (lush (K t) (nI 32)).toInt32 + (w t).toInt32
  let y := (turnR s.1 (nI 2) ^^^ turnR s.1 (nI 13) ^^^ turnR s.1 (nI 22)) + ((s.1 &&& s.2.1) ^^^ (s.1 &&& s.2.2.1) ^^^ (s.2.1 &&& s.2.2.1))
  (x + y, s.1, s.2.1, s.2.2.1, s.2.2.2.1 + x, s.2.2.2.2.1, s.2.2.2.2.2.1, s.2.2.2.2.2.2.1)
def r83 (K S w : Nat → Int64) : I8 := it (rn3 K w) 64 ((S 0).toInt32, (S 1).toInt32, (S 2).toInt32, (S 3).toInt32, (S 4).toInt32, (S 5).toInt32, (S 6).toInt32, (S 7).toInt32)
def ext8 (r : I8) : R8 := (r.1.toInt64, r.2.1.toInt64, r.2.2.1.toInt64, r.2.2.2.1.toInt64, r.2.2.2.2.1.toInt64, r.2.2.2.2.2.1.toInt64, r.2.2.2.2.2.2.1.toInt64, r.2.2.2.2.2.2.2.toInt64)
def cmp3 (K : Nat → Int64) (g : Nat → Int8) (S w : Nat → Int64) : Nat → Int64 := up8 S (ext8 (r83 K S (sch3 g w)))
