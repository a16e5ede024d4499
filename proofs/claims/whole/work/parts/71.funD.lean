def hbeg (k : Nat) (s : H4) : H4 := (s.1, 0, va_cpy (s_l k) s.2.2.1 0 0 8, s.2.2.2)
def hsh1 (v : Bool) (k : Nat) (x : Nat → Int8) (n : Nat) (s : H4) : H4 := hbS v x 0 n (hbeg k s)
def hsh (v : Bool) (k : Nat) (x : Nat → Int8) (n : Nat) (s : H4) : H4 := finB v (lN (0 + n)) (hsh1 v k x n s)
theorem hbS_lt (v : Bool) (x : Nat → Int8) (fr n : Nat) {s : H4} (h : s.2.1 < 16 * wbN v) : (hbS v x fr n s).2.1 < 16 * wbN v := by
  unfold hbS
  induction n with
  | zero => exact h
  | succ n ih => exact hbF_lt v x fr n _ ih
theorem hsh1_lt (v : Bool) (k : Nat) (x : Nat → Int8) (n : Nat) (s : H4) : (hsh1 v k x n s).2.1 < 16 * wbN v := hbS_lt v x 0 n (show 0 < 16 * wbN v by have := vf v; omega)
def keyB (v : Bool) (k : Nat) (r : Nat → Int8) (n : Nat) (s : H4) (kf : Nat → Int8) : Nat → Int8 :=
  if 16 * wbN v < n then wrS v (hsh v k r n s).2.2.1 (fil kf 0 128 (nI 0).toInt8) 0 (8 * wbN v) else va_cpy r (fil kf 0 128 (nI 0).toInt8) 0 0 n
def keyS (v : Bool) (k : Nat) (r : Nat → Int8) (n : Nat) (s : H4) : H4 := if 16 * wbN v < n then hsh v k r n s else s
def keyT (v : Bool) (n tt : Nat) : Nat := if 16 * wbN v < n then 0 + n else tt
def padF (kf : Nat → Int8) (pad : Int32) : Nat → (Nat → Int8) → Nat → Int8 := fun i p => va_up p i ((kf i).toInt32 ^^^ pad).toInt8
def padS (v : Bool) (kf : Nat → Int8) (pad : Int32) (p : Nat → Int8) : Nat → Int8 := it (padF kf pad) (16 * wbN v) p
def bwk (v : Bool) (k : Nat) (kf : Nat → Int8) (pad : Int32) (p : Nat → Int8) (s : H4) : H4 := hbS v (padS v kf pad p) 0 (16 * wbN v) (hbeg k s)
theorem bwk_lt (v : Bool) (k : Nat) (kf : Nat → Int8) (pad : Int32) (p : Nat → Int8) (s : H4) : (bwk v k kf pad p s).2.1 < 16 * wbN v := hbS_lt v _ 0 _ (show 0 < 16 * wbN v by have := vf v; omega)
def ctr4 (g : Nat → Int8) (m : Nat) : Nat → Int8 := va_up (va_up (va_up (va_up g 0 (ush (nI m) (nI 24)).toInt8) 1 (ush (nI m) (nI 16)).toInt8) 2 (ush (nI m) (nI 8)).toInt8) 3 (ush (nI m) (nI 0)).toInt8
def hk1 (v : Bool) (k : Nat) (r : Nat → Int8) (rl : Nat) (x : Nat → Int8) (n : Nat) (s : H4) (kf p : Nat → Int8) : H4 := hbS v x 0 n (bwk v k (keyB v k r rl s kf) (nI 54) p (keyS v k r rl s))
def hk2 (v : Bool) (k : Nat) (r : Nat → Int8) (rl : Nat) (x : Nat → Int8) (n : Nat) (s : H4) (kf p : Nat → Int8) : H4 := finB v (lN (0 + 16 * wbN v + n)) (hk1 v k r rl x n s kf p)
def hkI (v : Bool) (k : Nat) (r : Nat → Int8) (rl : Nat) (x : Nat → Int8) (n : Nat) (s : H4) (kf p inn : Nat → Int8) : Nat → Int8 := wrS v (hk2 v k r rl x n s kf p).2.2.1 inn 0 (8 * wbN v)
def hkP (v : Bool) (k : Nat) (r : Nat → Int8) (rl : Nat) (s : H4) (kf p : Nat → Int8) : Nat → Int8 := padS v (keyB v k r rl s kf) (nI 92) (padS v (keyB v k r rl s kf) (nI 54) p)
def hk3 (v : Bool) (k : Nat) (r : Nat → Int8) (rl : Nat) (x : Nat → Int8) (n : Nat) (s : H4) (kf p inn : Nat → Int8) : H4 :=
  hbS v (hkI v k r rl x n s kf p inn) 0 (8 * wbN v) (bwk v k (keyB v k r rl s kf) (nI 92) (padS v (keyB v k r rl s kf) (nI 54) p) (hk2 v k r rl x n s kf p))
def hk4 (v : Bool) (k : Nat) (r : Nat → Int8) (rl : Nat) (x : Nat → Int8) (n : Nat) (s : H4) (kf p inn : Nat → Int8) : H4 := finB v (lN (0 + 16 * wbN v + 8 * wbN v)) (hk3 v k r rl x n s kf p inn)
theorem rest_eq (v : Bool) {n : Nat} (h : n < 2 ^ 31) : nI n &&& nI (16 * wbN v - 1) = nI (n % (16 * wbN v)) := by
  cases v
  · exact pk_andN (by omega) 6 (by decide)
  · exact pk_andN (by omega) 7 (by decide)
theorem min_eq {a b : Nat} (ha : a < 2 ^ 31) (hb : b < 2 ^ 31) : (if nI a < nI b then nI a else nI b) = nI (if a < b then a else b) := by
  by_cases h : a < b
  · rw [if_pos h, if_pos ((nI_ltI ha hb).mpr h)]
  · rw [if_neg h, if_neg (fun h2 => h ((nI_ltI ha hb).mp h2))]
abbrev HC : Type := H4 × (Nat → Int8) × (Nat → Int8) × Nat
def hc1 (v : Bool) (x : Nat → Int8) (n : Nat) (ms : Nat → Int64) (i : Nat) (u : HC) : H4 :=
  hbS v (ctr4 u.2.1 i) 0 4 (hbS v x (n - n % (16 * wbN v)) (n % (16 * wbN v)) (u.1.1, 0, va_cpy ms u.1.2.2.1 0 0 8, u.1.2.2.2))
def hc2 (v : Bool) (x : Nat → Int8) (n : Nat) (ms : Nat → Int64) (mt i : Nat) (u : HC) : H4 := finB v (lN (mt + n % (16 * wbN v) + 4)) (hc1 v x n ms i u)
def hcF (v : Bool) (x : Nat → Int8) (n m : Nat) (ms : Nat → Int64) (mt : Nat) : Nat → HC → HC := fun i u =>
  (hc2 v x n ms mt i u, ctr4 u.2.1 i, wrS v (hc2 v x n ms mt i u).2.2.1 u.2.2.1 (i * (8 * wbN v)) (if m - i * (8 * wbN v) < 8 * wbN v then m - i * (8 * wbN v) else 8 * wbN v), mt + n % (16 * wbN v) + 4)
def hc0 (v : Bool) (k : Nat) (x : Nat → Int8) (n : Nat) (s : H4) : H4 := hbS v x 0 (n - n % (16 * wbN v)) (hbeg k s)
def hcM (v : Bool) (k : Nat) (x : Nat → Int8) (n : Nat) (s : H4) (ms : Nat → Int64) : Nat → Int64 := va_cpy (hc0 v k x n s).2.2.1 ms 0 0 8
def hcU (v : Bool) (k : Nat) (x : Nat → Int8) (n m : Nat) (s : H4) (ms : Nat → Int64) (c o : Nat → Int8) : HC :=
  it (hcF v x n m (hcM v k x n s ms) (0 + (n - n % (16 * wbN v)))) (mcn m (8 * wbN v)) (hc0 v k x n s, c, o, 0 + (n - n % (16 * wbN v)))
theorem inR_n2 {x lo hi : Int32} (h : inR x lo hi = nI 0) (h1 : ¬ x < lo) : ¬ x ≤ hi := by
  unfold inR at h
  rw [if_neg h1] at h
  by_cases h2 : hi < x
  · exact Int32.not_le.mpr h2
  · rw [if_neg h2] at h
    exact absurd h (by decide)
theorem inR_pl {p : Int32} {n : Nat} (h : inR p (nI 0) (nI n - nI 1) = nI 0) (hn : n ≤ 8192) (h1 : ¬ p < 0) : ¬ p < nI n := by
  have h2 := inR_n2 h (by rw [nI_0]; exact h1)
  intro h3
  apply h2
  rw [Int32.le_iff_toInt_le, pk_sub_toInt (by omega) (by omega)]
  rw [Int32.lt_iff_toInt_lt, nI_toInt (by omega)] at h3
  omega
