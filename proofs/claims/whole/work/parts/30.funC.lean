def app4 (f : Nat → Int8) (n : Nat) (v : Int32) : Nat → Int8 := va_up (va_up (va_up (va_up f n (ush v (nI 24)).toInt8) (n + 1) (ush v (nI 16)).toInt8) (n + 2) (ush v (nI 8)).toInt8) (n + 3) (ush v (nI 0)).toInt8
def fil {α : Type} (f : Nat → α) (a b : Nat) (v : α) : Nat → α := fun j => if a ≤ j ∧ j < b then v else f j
theorem fil_0 {α : Type} (f : Nat → α) (a : Nat) (v : α) : f = fil f a a v := by
  funext j
  unfold fil
  rw [if_neg (by omega)]
theorem fil_s {α : Type} (f : Nat → α) {a b : Nat} (h : a ≤ b) (v : α) : va_up (fil f a b v) b v = fil f a (b + 1) v := by
  funext j
  unfold va_up fil
  by_cases h1 : j = b
  · rw [if_pos h1, if_pos (by omega)]
  · rw [if_neg h1]
    by_cases h2 : a ≤ j ∧ j < b
    · rw [if_pos h2, if_pos (by omega)]
    · rw [if_neg h2, if_neg (by omega)]
def ub (b : Int8) : Int32 := b.toInt32 &&& nI 255
def eig (f : Nat → Int8) (n i : Nat) : Nat → Int64 → Int64 := fun j s => lshl s (nI 8) ||| (if i + j < n then ub (f (i + j)) else nI 0).toInt64
def rotlC (x : Int64) (n : Int32) : Int64 := lshl x n ||| lush x (nI 64 - n)
def flipC (L : Nat → Int64) (p : Nat) (v : Int32) : Nat → Int64 := va_up L (p / 8) (L (p / 8) ^^^ lshl v.toInt64 (nI (8 * (p % 8))))
def colF (L : Nat → Int64) : Nat → (Nat → Int64) → Nat → Int64 := fun a c => va_up c a (L a ^^^ L (a + 5) ^^^ L (a + 10) ^^^ L (a + 15) ^^^ L (a + 20))
def cols (L C : Nat → Int64) : Nat → Int64 := it (colF L) 5 C
def thI (a : Nat) (x : Int64) : Nat → (Nat → Int64) → Nat → Int64 := fun r L => va_up L (a + 5 * r) (L (a + 5 * r) ^^^ x)
def thF (C : Nat → Int64) : Nat → (Nat → Int64) → Nat → Int64 := fun a L => it (thI a (C ((a + 4) % 5) ^^^ rotlC (C ((a + 1) % 5)) (nI 1))) 5 L
def theta (C L : Nat → Int64) : Nat → Int64 := it (thF C) 5 L
def tgN : Nat → Nat := fun i => ([0, 10, 20, 5, 15, 16, 1, 11, 21, 6, 7, 17, 2, 12, 22, 23, 8, 18, 3, 13, 14, 24, 9, 19, 4] : List Nat).getD i 0
theorem tgN_lt : ∀ i, i < 25 → tgN i < 25 := by decide
theorem tgN_eq : ∀ i, i < 25 → s_i 11 i = nI (tgN i) := by decide +kernel
def rhF (L : Nat → Int64) : Nat → (Nat → Int64) → Nat → Int64 := fun i m => va_up m (tgN i) (rotlC (L i) (s_i 10 i))
def rho (L M : Nat → Int64) : Nat → Int64 := it (rhF L) 25 M
def chI (M : Nat → Int64) (r : Nat) : Nat → (Nat → Int64) → Nat → Int64 := fun a L => va_up L (a + 5 * r) (M (a + 5 * r) ^^^ ((M ((a + 1) % 5 + 5 * r) ^^^ (-1)) &&& M ((a + 2) % 5 + 5 * r)))
def chF (M : Nat → Int64) : Nat → (Nat → Int64) → Nat → Int64 := fun r L => it (chI M r) 5 L
def chi (M L : Nat → Int64) : Nat → Int64 := it (chF M) 5 L
abbrev S3 : Type := (Nat → Int64) × (Nat → Int64) × (Nat → Int64)
def prF : Nat → S3 → S3 := fun i s => (va_up (chi (rho (theta (cols s.1 s.2.2) s.1) s.2.1) (theta (cols s.1 s.2.2) s.1)) 0 (chi (rho (theta (cols s.1 s.2.2) s.1) s.2.1) (theta (cols s.1 s.2.2) s.1) 0 ^^^ s_l 9 i), rho (theta (cols s.1 s.2.2) s.1) s.2.1, cols s.1 s.2.2)
def prm (s : S3) : S3 := it prF 24 s
abbrev S4 : Type := (Nat → Int64) × (Nat → Int64) × (Nat → Int64) × Nat
def abF (rate : Nat) (x : Nat → Int8) : Nat → S4 → S4 := fun i s =>
  if s.2.2.2 + 1 = rate then ((prm (flipC s.1 s.2.2.2 (ub (x i)), s.2.1, s.2.2.1)).1, (prm (flipC s.1 s.2.2.2 (ub (x i)), s.2.1, s.2.2.1)).2.1, (prm (flipC s.1 s.2.2.2 (ub (x i)), s.2.1, s.2.2.1)).2.2, 0)
  else (flipC s.1 s.2.2.2 (ub (x i)), s.2.1, s.2.2.1, s.2.2.2 + 1)
theorem abF_lt {rate : Nat} (hr : 0 < rate) (x : Nat → Int8) (i : Nat) (s : S4) (h : s.2.2.2 < rate) : (abF rate x i s).2.2.2 < rate := by
  unfold abF
  by_cases h1 : s.2.2.2 + 1 = rate
  · rw [if_pos h1]; exact hr
  · rw [if_neg h1]; show s.2.2.2 + 1 < rate; omega
def abS (rate : Nat) (x : Nat → Int8) (n : Nat) (s : S3) : S4 := it (abF rate x) n (fil s.1 0 25 0, s.2.1, s.2.2, 0)
def abE (rate : Nat) (sf : Int32) (x : Nat → Int8) (n : Nat) (s : S3) : S3 := prm (flipC (flipC (abS rate x n s).1 (abS rate x n s).2.2.2 sf) (rate - 1) (nI 128), (abS rate x n s).2.1, (abS rate x n s).2.2.1)
abbrev S5 : Type := (Nat → Int64) × (Nat → Int64) × (Nat → Int64) × Nat × (Nat → Int8)
def sqP (rate : Nat) (s : S5) : S4 := if s.2.2.2.1 = rate then ((prm (s.1, s.2.1, s.2.2.1)).1, (prm (s.1, s.2.1, s.2.2.1)).2.1, (prm (s.1, s.2.1, s.2.2.1)).2.2, 0) else (s.1, s.2.1, s.2.2.1, s.2.2.2.1)
def sqF (rate : Nat) : Nat → S5 → S5 := fun i s => ((sqP rate s).1, (sqP rate s).2.1, (sqP rate s).2.2.1, (sqP rate s).2.2.2 + 1, va_up s.2.2.2.2 i (lush ((sqP rate s).1 ((sqP rate s).2.2.2 / 8)) (nI (8 * ((sqP rate s).2.2.2 % 8)))).toInt32.toInt8)
theorem sqF_le {rate : Nat} (hr : 0 < rate) (i : Nat) (s : S5) (h : s.2.2.2.1 ≤ rate) : (sqF rate i s).2.2.2.1 ≤ rate := by
  show (sqP rate s).2.2.2 + 1 ≤ rate
  unfold sqP
  by_cases h1 : s.2.2.2.1 = rate
  · rw [if_pos h1]; show 0 + 1 ≤ rate; omega
  · rw [if_neg h1]; show s.2.2.2.1 + 1 ≤ rate; omega
def sqS (rate n : Nat) (s : S3) (o : Nat → Int8) : S5 := it (sqF rate) n (s.1, s.2.1, s.2.2, 0, o)
def wbN (v : Bool) : Nat := cond v 8 4
def rdN (v : Bool) : Nat := cond v 80 64
def dk (v : Bool) : Nat := cond v 1 0
theorem vf (v : Bool) : (wbN v = 4 ∧ rdN v = 64) ∨ (wbN v = 8 ∧ rdN v = 80) := by cases v <;> decide
theorem dk_lt (v : Bool) : dk v < 12 := by cases v <;> decide
theorem dk_ty (v : Bool) : s_ty (dk v) = .int := by cases v <;> rfl
theorem sN_dk (v : Bool) : s_N (dk v) = 12 := by cases v <;> rfl
def mk9 (v : Bool) : Int64 := lush (-1) (nI (64 - 8 * wbN v))
def rotrC (v : Bool) (x : Int64) (n : Int32) : Int64 := (lush x n ||| lshl x (nI (8 * wbN v) - n)) &&& mk9 v
def thr (v : Bool) (x : Int64) (at_ : Nat) : Int64 := rotrC v x (s_i (dk v) at_) ^^^ rotrC v x (s_i (dk v) (at_ + 1)) ^^^ rotrC v x (s_i (dk v) (at_ + 2))
def tws (v : Bool) (x : Int64) (at_ : Nat) : Int64 := rotrC v x (s_i (dk v) at_) ^^^ rotrC v x (s_i (dk v) (at_ + 1)) ^^^ lush x (s_i (dk v) (at_ + 2))
def wdF (v : Bool) (g : Nat → Int8) (t : Nat) : Nat → Int64 → Int64 := fun i s => lshl s (nI 8) ||| (ub (g (t * wbN v + i))).toInt64
def wd1 (v : Bool) (g : Nat → Int8) (t : Nat) : Int64 := it (wdF v g t) (wbN v) 0
def sc1F (v : Bool) (g : Nat → Int8) : Nat → (Nat → Int64) → Nat → Int64 := fun t w => va_up w t (wd1 v g t)
def sc2F (v : Bool) : Nat → (Nat → Int64) → Nat → Int64 := fun k w => va_up w (k + 16) ((tws v (w (k + 14)) 9 + w (k + 9) + tws v (w (k + 1)) 6 + w k) &&& mk9 v)
def schC (v : Bool) (g : Nat → Int8) (w : Nat → Int64) : Nat → Int64 := it (sc2F v) (rdN v - 16) (it (sc1F v g) 16 w)
abbrev R8 : Type := Int64 × Int64 × Int64 × Int64 × Int64 × Int64 × Int64 × Int64
def rnF (v : Bool) (w : Nat → Int64) : Nat → R8 → R8 := fun t s =>
  let fi := s.2.2.2.2.2.2.2 + thr v s.2.2.2.2.1 3 + ((s.2.2.2.2.1 &&& s.2.2.2.2.2.1) ^^^ ((s.2.2.2.2.1 ^^^ (-1)) &&& s.2.2.2.2.2.2.1)) + lush (s_l 8 t) (nI (64 - 8 * wbN v)) + w t
  let se := thr v s.1 0 + ((s.1 &&& s.2.1) ^^^ (s.1 &&& s.2.2.1) ^^^ (s.2.1 &&& s.2.2.1))
  ((fi + se) &&& mk9 v, s.1, s.2.1, s.2.2.1, (s.2.2.2.1 + fi) &&& mk9 v, s.2.2.2.2.1, s.2.2.2.2.2.1, s.2.2.2.2.2.2.1)
def add4 (v : Bool) (S : Nat → Int64) (i : Nat) (p q r s : Int64) : Nat → Int64 :=
  va_up (va_up (va_up (va_up S i ((S i + p) &&& mk9 v)) (i + 1) ((va_up S i ((S i + p) &&& mk9 v) (i + 1) + q) &&& mk9 v)) (i + 2) ((va_up (va_up S i ((S i + p) &&& mk9 v)) (i + 1) ((va_up S i ((S i + p) &&& mk9 v) (i + 1) + q) &&& mk9 v) (i + 2) + r) &&& mk9 v)) (i + 3) ((va_up (va_up (va_up S i ((S i + p) &&& mk9 v)) (i + 1) ((va_up S i ((S i + p) &&& mk9 v) (i + 1) + q) &&& mk9 v)) (i + 2) ((va_up (va_up S i ((S i + p) &&& mk9 v)) (i + 1) ((va_up S i ((S i + p) &&& mk9 v) (i + 1) + q) &&& mk9 v) (i + 2) + r) &&& mk9 v) (i + 3) + s) &&& mk9 v)
def r8C (v : Bool) (S w : Nat → Int64) : R8 := it (rnF v w) (rdN v) (S 0, S 1, S 2, S 3, S 4, S 5, S 6, S 7)
def cmpS (v : Bool) (g : Nat → Int8) (S w : Nat → Int64) : Nat → Int64 :=
  add4 v (add4 v S 0 (r8C v S (schC v g w)).1 (r8C v S (schC v g w)).2.1 (r8C v S (schC v g w)).2.2.1 (r8C v S (schC v g w)).2.2.2.1) 4 (r8C v S (schC v g w)).2.2.2.2.1 (r8C v S (schC v g w)).2.2.2.2.2.1 (r8C v S (schC v g w)).2.2.2.2.2.2.1 (r8C v S (schC v g w)).2.2.2.2.2.2.2
abbrev H4 : Type := (Nat → Int8) × Nat × (Nat → Int64) × (Nat → Int64)
def hbF (v : Bool) (x : Nat → Int8) (fr : Nat) : Nat → H4 → H4 := fun i s =>
  if s.2.1 + 1 = 16 * wbN v then (va_up s.1 s.2.1 (x (fr + i)), 0, cmpS v (va_up s.1 s.2.1 (x (fr + i))) s.2.2.1 s.2.2.2, schC v (va_up s.1 s.2.1 (x (fr + i))) s.2.2.2)
  else (va_up s.1 s.2.1 (x (fr + i)), s.2.1 + 1, s.2.2.1, s.2.2.2)
theorem hbF_lt (v : Bool) (x : Nat → Int8) (fr i : Nat) (s : H4) (h : s.2.1 < 16 * wbN v) : (hbF v x fr i s).2.1 < 16 * wbN v := by
  have hv := vf v
  unfold hbF
  by_cases h1 : s.2.1 + 1 = 16 * wbN v
  · rw [if_pos h1]; show 0 < 16 * wbN v; omega
  · rw [if_neg h1]; show s.2.1 + 1 < 16 * wbN v; omega
def hbS (v : Bool) (x : Nat → Int8) (fr n : Nat) (s : H4) : H4 := it (hbF v x fr) n s
def fin1 (v : Bool) (s : H4) : H4 :=
  if 14 * wbN v < s.2.1 + 1 then (fil (va_up s.1 s.2.1 (-128 : Int32).toInt8) (s.2.1 + 1) (16 * wbN v) (nI 0).toInt8, 0, cmpS v (fil (va_up s.1 s.2.1 (-128 : Int32).toInt8) (s.2.1 + 1) (16 * wbN v) (nI 0).toInt8) s.2.2.1 s.2.2.2, schC v (fil (va_up s.1 s.2.1 (-128 : Int32).toInt8) (s.2.1 + 1) (16 * wbN v) (nI 0).toInt8) s.2.2.2)
  else (va_up s.1 s.2.1 (-128 : Int32).toInt8, s.2.1 + 1, s.2.2.1, s.2.2.2)
def lenF (v : Bool) (bits : Int64) : Nat → (Nat → Int8) → Nat → Int8 := fun i g => va_up g (16 * wbN v - 1 - i) (lush bits (nI (8 * i))).toInt32.toInt8
def fin2 (v : Bool) (tt : Int64) (s : H4) : Nat → Int8 := it (lenF v ((8 : Int64) * tt)) 8 (fil (fin1 v s).1 (fin1 v s).2.1 (16 * wbN v) (nI 0).toInt8)
def finB (v : Bool) (tt : Int64) (s : H4) : H4 := (fin2 v tt s, (fin1 v s).2.1, cmpS v (fin2 v tt s) (fin1 v s).2.2.1 (fin1 v s).2.2.2, schC v (fin2 v tt s) (fin1 v s).2.2.2)
def stB (v : Bool) (S : Nat → Int64) (j : Nat) : Int8 := (lush (S (j / wbN v)) (nI (8 * wbN v - 8 - 8 * (j % wbN v)))).toInt32.toInt8
def wrS (v : Bool) (S : Nat → Int64) (o : Nat → Int8) (at_ n : Nat) : Nat → Int8 := fun j => if at_ ≤ j ∧ j < at_ + n then stB v S (j - at_) else o j
theorem wrS_0 (v : Bool) (S : Nat → Int64) (o : Nat → Int8) (at_ : Nat) : o = wrS v S o at_ 0 := by
  funext j
  unfold wrS
  rw [if_neg (by omega)]
theorem wrS_s (v : Bool) (S : Nat → Int64) (o : Nat → Int8) (at_ m : Nat) : va_up (wrS v S o at_ m) (at_ + m) (stB v S m) = wrS v S o at_ (m + 1) := by
  funext j
  unfold va_up wrS
  by_cases h1 : j = at_ + m
  · rw [if_pos h1, if_pos (by omega), h1, Nat.add_sub_cancel_left]
  · rw [if_neg h1]
    by_cases h2 : at_ ≤ j ∧ j < at_ + m
    · rw [if_pos h2, if_pos (by omega)]
    · rw [if_neg h2, if_neg (by omega)]
theorem stB_at (v : Bool) (S : Nat → Int64) (k r : Nat) (h : r < wbN v) : stB v S (k * wbN v + r) = (lush (S k) (nI (8 * wbN v - 8 * r - 8))).toInt32.toInt8 := by
  unfold stB
  rw [show (k * wbN v + r) / wbN v = k by rw [Nat.add_comm, Nat.add_mul_div_right _ _ (by omega), Nat.div_eq_of_lt h, Nat.zero_add], show (k * wbN v + r) % wbN v = r by rw [Nat.add_comm, Nat.add_mul_mod_self_right, Nat.mod_eq_of_lt h], show 8 * wbN v - 8 - 8 * r = 8 * wbN v - 8 * r - 8 by omega]
theorem finB_pos {v : Bool} {tt : Int64} {g : Nat → Int8} {fl : Nat} {S w : Nat → Int64} (h : 14 * wbN v < fl + 1) : finB v tt (g, fl, S, w) =
    (it (lenF v ((8 : Int64) * tt)) 8 (fil (fil (va_up g fl (-128 : Int32).toInt8) (fl + 1) (16 * wbN v) (nI 0).toInt8) 0 (16 * wbN v) (nI 0).toInt8), 0,
     cmpS v (it (lenF v ((8 : Int64) * tt)) 8 (fil (fil (va_up g fl (-128 : Int32).toInt8) (fl + 1) (16 * wbN v) (nI 0).toInt8) 0 (16 * wbN v) (nI 0).toInt8)) (cmpS v (fil (va_up g fl (-128 : Int32).toInt8) (fl + 1) (16 * wbN v) (nI 0).toInt8) S w) (schC v (fil (va_up g fl (-128 : Int32).toInt8) (fl + 1) (16 * wbN v) (nI 0).toInt8) w),
     schC v (it (lenF v ((8 : Int64) * tt)) 8 (fil (fil (va_up g fl (-128 : Int32).toInt8) (fl + 1) (16 * wbN v) (nI 0).toInt8) 0 (16 * wbN v) (nI 0).toInt8)) (schC v (fil (va_up g fl (-128 : Int32).toInt8) (fl + 1) (16 * wbN v) (nI 0).toInt8) w)) := by
  simp only [finB, fin2, fin1, if_pos h]
theorem finB_neg {v : Bool} {tt : Int64} {g : Nat → Int8} {fl : Nat} {S w : Nat → Int64} (h : ¬ 14 * wbN v < fl + 1) : finB v tt (g, fl, S, w) =
    (it (lenF v ((8 : Int64) * tt)) 8 (fil (va_up g fl (-128 : Int32).toInt8) (fl + 1) (16 * wbN v) (nI 0).toInt8), fl + 1,
     cmpS v (it (lenF v ((8 : Int64) * tt)) 8 (fil (va_up g fl (-128 : Int32).toInt8) (fl + 1) (16 * wbN v) (nI 0).toInt8)) S w,
     schC v (it (lenF v ((8 : Int64) * tt)) 8 (fil (va_up g fl (-128 : Int32).toInt8) (fl + 1) (16 * wbN v) (nI 0).toInt8)) w) := by
  simp only [finB, fin2, fin1, if_neg h]
