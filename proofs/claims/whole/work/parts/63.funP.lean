def dgN (k : Nat) : Nat := if k = 1 ∨ k = 6 ∨ k = 8 ∨ k = 11 then 32 else if k = 2 ∨ k = 9 then 48 else if k = 3 ∨ k = 10 ∨ k = 12 then 64 else 28
def blN (k : Nat) : Nat := if k = 1 ∨ k = 4 then 64 else 128
def rtN (k : Nat) : Nat := if k = 11 then 168 else if k = 12 then 136 else if 6 < k then 200 - 2 * dgN k else blN k
def bgV (k : Nat) (ro s2 s5 : Nat → Int64) (i : Nat) : Int64 := if k = 1 then lush (ro i) (nI 32) else if k = 4 then ro (8 + i) &&& 4294967295 else if k = 2 then ro (8 + i) else if k = 5 then s2 i else if k = 6 then s5 i else ro i
def bgF (k : Nat) (ro s2 s5 : Nat → Int64) : Nat → (Nat → Int64) → Nat → Int64 := fun i S => va_up S i (bgV k ro s2 s5 i)
def bgS (k : Nat) (ro s2 s5 S : Nat → Int64) : Nat → Int64 := it (bgF k ro s2 s5) 8 (fil S 0 25 0)
def rBeg (k : Nat) (ro s2 s5 : Nat → Int64) (s : H4) : H4 := (s.1, 0, bgS k ro s2 s5 s.2.2.1, s.2.2.2)
def cmpR (rt : Nat) (K : Nat → Int64) (g : Nat → Int8) (S w : Nat → Int64) : (Nat → Int64) × (Nat → Int64) := if rt = 64 then (cmp3 K g S w, sch3 g w) else (cmp6 K g S w, sch6 g w)
def ptB (rt : Nat) (K : Nat → Int64) (s : H4) (b : Int32) : H4 :=
  if s.2.1 + 1 = rt then (va_up s.1 s.2.1 b.toInt8, 0, (cmpR rt K (va_up s.1 s.2.1 b.toInt8) s.2.2.1 s.2.2.2).1, (cmpR rt K (va_up s.1 s.2.1 b.toInt8) s.2.2.1 s.2.2.2).2)
  else (va_up s.1 s.2.1 b.toInt8, s.2.1 + 1, s.2.2.1, s.2.2.2)
theorem ptB_n {rt : Nat} {K : Nat → Int64} {g : Nat → Int8} {fl : Nat} {S w : Nat → Int64} {b : Int32} (h : ¬ fl + 1 = rt) : ptB rt K (g, fl, S, w) b = (va_up g fl b.toInt8, fl + 1, S, w) := by
  simp only [ptB, if_neg h]
theorem ptB_3 {rt : Nat} {K : Nat → Int64} {g : Nat → Int8} {fl : Nat} {S w : Nat → Int64} {b : Int32} (h : fl + 1 = rt) (h3 : rt = 64) : ptB rt K (g, fl, S, w) b = (va_up g fl b.toInt8, 0, cmp3 K (va_up g fl b.toInt8) S w, sch3 (va_up g fl b.toInt8) w) := by
  simp only [ptB, cmpR, if_pos h, if_pos h3]
theorem ptB_6 {rt : Nat} {K : Nat → Int64} {g : Nat → Int8} {fl : Nat} {S w : Nat → Int64} {b : Int32} (h : fl + 1 = rt) (h3 : ¬ rt = 64) : ptB rt K (g, fl, S, w) b = (va_up g fl b.toInt8, 0, cmp6 K (va_up g fl b.toInt8) S w, sch6 (va_up g fl b.toInt8) w) := by
  simp only [ptB, cmpR, if_pos h, if_neg h3]
theorem ptB_fl (rt : Nat) (K : Nat → Int64) (s : H4) (b : Int32) : (ptB rt K s b).2.1 = if s.2.1 + 1 = rt then 0 else s.2.1 + 1 := by
  unfold ptB
  by_cases h : s.2.1 + 1 = rt
  · rw [if_pos h, if_pos h]
  · rw [if_neg h, if_neg h]
theorem ptB_lt {rt : Nat} (K : Nat → Int64) {s : H4} (b : Int32) (h : s.2.1 < rt) : (ptB rt K s b).2.1 < rt := by
  rw [ptB_fl]
  by_cases h1 : s.2.1 + 1 = rt
  · rw [if_pos h1]; omega
  · rw [if_neg h1]; omega
def pbF (rt : Nat) (K : Nat → Int64) (x : Nat → Int8) (fr : Nat) : Nat → H4 → H4 := fun i s => ptB rt K s (x (fr + i)).toInt32
def rPut (rt : Nat) (K : Nat → Int64) (x : Nat → Int8) (fr n : Nat) (s : H4) : H4 := it (pbF rt K x fr) n s
theorem rPut_lt {rt : Nat} (K : Nat → Int64) (x : Nat → Int8) (fr n : Nat) {s : H4} (h : s.2.1 < rt) : (rPut rt K x fr n s).2.1 < rt := by
  unfold rPut
  induction n with
  | zero => exact h
  | succ n ih => exact ptB_lt K _ ih
def zpF (rt : Nat) (K : Nat → Int64) : Nat → H4 → H4 := fun _ s => ptB rt K s (nI 0)
def zcn (rt f : Nat) : Nat := if f ≤ rt - rt / 8 then rt - rt / 8 - f else rt - f + (rt - rt / 8)
theorem zcn_or (rt f : Nat) : (f ≤ rt - rt / 8 ∧ zcn rt f = rt - rt / 8 - f) ∨ (rt - rt / 8 < f ∧ zcn rt f = rt - f + (rt - rt / 8)) := by
  unfold zcn
  by_cases h : f ≤ rt - rt / 8
  · rw [if_pos h]; exact Or.inl ⟨h, rfl⟩
  · rw [if_neg h]; exact Or.inr ⟨by omega, rfl⟩
def lbR (bits : Int64) (i : Nat) : Int32 := if i < 8 then (lush bits (nI (8 * i))).toInt32 else nI 0
def lpF (rt : Nat) (K : Nat → Int64) (bits : Int64) : Nat → H4 → H4 := fun j s => ptB rt K s (lbR bits (rt / 8 - 1 - j))
def rFi1 (rt : Nat) (K : Nat → Int64) (s : H4) : H4 := ptB rt K s (nI 128)
def rFi2 (rt : Nat) (K : Nat → Int64) (s : H4) : H4 := it (zpF rt K) (zcn rt (rFi1 rt K s).2.1) (rFi1 rt K s)
theorem rFi2_lt {rt : Nat} (K : Nat → Int64) {s : H4} (h : s.2.1 < rt) : (rFi2 rt K s).2.1 < rt := by
  have key : ∀ n, (it (zpF rt K) n (rFi1 rt K s)).2.1 < rt := by
    intro n
    induction n with
    | zero => exact ptB_lt K _ h
    | succ n ih => exact ptB_lt K _ ih
  exact key _
def rFin (rt : Nat) (K : Nat → Int64) (tt : Int64) (s : H4) : H4 := it (lpF rt K ((8 : Int64) * tt)) (rt / 8) (rFi2 rt K s)
def rFiT (rt : Nat) (K : Nat → Int64) (tt : Nat) (s : H4) : Nat := tt + 1 + zcn rt (rFi1 rt K s).2.1 + rt / 8
def sbR (rt : Nat) (S : Nat → Int64) (i : Nat) : Int8 := if rt = 64 then (lush (S (i / 4)) (nI (24 - 8 * (i % 4)))).toInt32.toInt8 else (lush (S (i / 8)) (nI (56 - 8 * (i % 8)))).toInt32.toInt8
def gvS (rt : Nat) (S : Nat → Int64) (o : Nat → Int8) (at_ n : Nat) : Nat → Int8 := fun j => if at_ ≤ j ∧ j < at_ + n then sbR rt S (j - at_) else o j
theorem gvS_0 (rt : Nat) (S : Nat → Int64) (o : Nat → Int8) (at_ : Nat) : o = gvS rt S o at_ 0 := by
  funext j
  unfold gvS
  rw [if_neg (by omega)]
theorem gvS_s (rt : Nat) (S : Nat → Int64) (o : Nat → Int8) (at_ m : Nat) : va_up (gvS rt S o at_ m) (at_ + m) (sbR rt S m) = gvS rt S o at_ (m + 1) := by
  funext j
  unfold va_up gvS
  by_cases h1 : j = at_ + m
  · rw [if_pos h1, if_pos (by omega), h1, Nat.add_sub_cancel_left]
  · rw [if_neg h1]
    by_cases h2 : at_ ≤ j ∧ j < at_ + m
    · rw [if_pos h2, if_pos (by omega)]
    · rw [if_neg h2, if_neg (by omega)]
def ptS (T : Nat → Int32) (rn : Nat → Int64) (rt : Nat) (s : S4) (b : Int32) : S4 :=
  if s.2.2.2 + 1 = rt then ((rprm T rn (flipR s.1 s.2.2.2 b, s.2.1, s.2.2.1)).1, (rprm T rn (flipR s.1 s.2.2.2 b, s.2.1, s.2.2.1)).2.1, (rprm T rn (flipR s.1 s.2.2.2 b, s.2.1, s.2.2.1)).2.2, 0)
  else (flipR s.1 s.2.2.2 b, s.2.1, s.2.2.1, s.2.2.2 + 1)
theorem ptS_n {T : Nat → Int32} {rn : Nat → Int64} {rt : Nat} {S o c : Nat → Int64} {fl : Nat} {b : Int32} (h : ¬ fl + 1 = rt) : ptS T rn rt (S, o, c, fl) b = (flipR S fl b, o, c, fl + 1) := by
  simp only [ptS, if_neg h]
theorem ptS_f {T : Nat → Int32} {rn : Nat → Int64} {rt : Nat} {S o c : Nat → Int64} {fl : Nat} {b : Int32} (h : fl + 1 = rt) : ptS T rn rt (S, o, c, fl) b = ((rprm T rn (flipR S fl b, o, c)).1, (rprm T rn (flipR S fl b, o, c)).2.1, (rprm T rn (flipR S fl b, o, c)).2.2, 0) := by
  simp only [ptS, if_pos h]
theorem ptS_lt {T : Nat → Int32} {rn : Nat → Int64} {rt : Nat} {s : S4} (b : Int32) (h : s.2.2.2 < rt) : (ptS T rn rt s b).2.2.2 < rt := by
  unfold ptS
  by_cases h1 : s.2.2.2 + 1 = rt
  · rw [if_pos h1]; show 0 < rt; omega
  · rw [if_neg h1]; show s.2.2.2 + 1 < rt; omega
def psF (T : Nat → Int32) (rn : Nat → Int64) (rt : Nat) (x : Nat → Int8) (fr : Nat) : Nat → S4 → S4 := fun i s => ptS T rn rt s (x (fr + i)).toInt32
def sPut (T : Nat → Int32) (rn : Nat → Int64) (rt : Nat) (x : Nat → Int8) (fr n : Nat) (s : S4) : S4 := it (psF T rn rt x fr) n s
theorem sPut_lt {T : Nat → Int32} {rn : Nat → Int64} {rt : Nat} (x : Nat → Int8) (fr n : Nat) {s : S4} (h : s.2.2.2 < rt) : (sPut T rn rt x fr n s).2.2.2 < rt := by
  unfold sPut
  induction n with
  | zero => exact h
  | succ n ih => exact ptS_lt _ ih
def sFin (T : Nat → Int32) (rn : Nat → Int64) (rt kd : Nat) (s : S4) : S3 := rprm T rn (flipR (flipR s.1 s.2.2.2 (if 10 < kd then nI 31 else nI 6)) (rt - 1) (nI 128), s.2.1, s.2.2.1)
def sqR (T : Nat → Int32) (rn : Nat → Int64) (rt : Nat) (s : S4) : S4 := if s.2.2.2 = rt then ((rprm T rn (s.1, s.2.1, s.2.2.1)).1, (rprm T rn (s.1, s.2.1, s.2.2.1)).2.1, (rprm T rn (s.1, s.2.1, s.2.2.1)).2.2, 0) else s
theorem sqR_f {T : Nat → Int32} {rn : Nat → Int64} {rt : Nat} {S o c : Nat → Int64} {fl : Nat} (h : fl = rt) : sqR T rn rt (S, o, c, fl) = ((rprm T rn (S, o, c)).1, (rprm T rn (S, o, c)).2.1, (rprm T rn (S, o, c)).2.2, 0) := by
  simp only [sqR, if_pos h]
theorem sqR_n {T : Nat → Int32} {rn : Nat → Int64} {rt : Nat} {S o c : Nat → Int64} {fl : Nat} (h : ¬ fl = rt) : sqR T rn rt (S, o, c, fl) = (S, o, c, fl) := by
  simp only [sqR, if_neg h]
def sqV (s : S4) : Int32 := (lush (s.1 (s.2.2.2 / 8)) (nI (8 * (s.2.2.2 % 8)))).toInt32 &&& nI 255
theorem sqV_0 (S o c : Nat → Int64) : sqV (S, o, c, 0) = (lush (S 0) (nI 0)).toInt32 &&& nI 255 := by simp only [sqV, Nat.zero_div, Nat.zero_mod, Nat.mul_zero]
theorem sqV_n (S o c : Nat → Int64) (fl : Nat) : sqV (S, o, c, fl) = (lush (S (fl / 8)) (nI (8 * (fl % 8)))).toInt32 &&& nI 255 := rfl
def gsF (T : Nat → Int32) (rn : Nat → Int64) (rt at_ : Nat) : Nat → S5 → S5 := fun i s => ((sqR T rn rt (s.1, s.2.1, s.2.2.1, s.2.2.2.1)).1, (sqR T rn rt (s.1, s.2.1, s.2.2.1, s.2.2.2.1)).2.1, (sqR T rn rt (s.1, s.2.1, s.2.2.1, s.2.2.2.1)).2.2.1, (sqR T rn rt (s.1, s.2.1, s.2.2.1, s.2.2.2.1)).2.2.2 + 1, va_up s.2.2.2.2 (at_ + i) (sqV (sqR T rn rt (s.1, s.2.1, s.2.2.1, s.2.2.2.1))).toInt8)
theorem gsF_le {T : Nat → Int32} {rn : Nat → Int64} {rt at_ : Nat} (hr : 0 < rt) (i : Nat) (s : S5) (h : s.2.2.2.1 ≤ rt) : (gsF T rn rt at_ i s).2.2.2.1 ≤ rt := by
  show (sqR T rn rt (s.1, s.2.1, s.2.2.1, s.2.2.2.1)).2.2.2 + 1 ≤ rt
  by_cases h1 : s.2.2.2.1 = rt
  · rw [sqR_f h1]; show 0 + 1 ≤ rt; omega
  · rw [sqR_n h1]; show s.2.2.2.1 + 1 ≤ rt; omega
def gsS (T : Nat → Int32) (rn : Nat → Int64) (rt at_ n : Nat) (s : S3) (o : Nat → Int8) : S5 := it (gsF T rn rt at_) n (s.1, s.2.1, s.2.2, 0, o)
theorem nI_up (n : Nat → Nat) (i m : Nat) : va_up (fun j => nI (n j)) i (nI m) = fun j => nI (va_up n i m j) := by
  funext j
  unfold va_up
  by_cases h : j = i
  · rw [if_pos h, if_pos h]
  · rw [if_neg h, if_neg h]
def wr4 (f : Nat → Int8) (n : Nat) (v : Int32) : Nat → Int8 := va_up (va_up (va_up (va_up f n (v >>> (nI 24 &&& 31)).toInt8) (n + 1) (v >>> (nI 16 &&& 31)).toInt8) (n + 2) (v >>> (nI 8 &&& 31)).toInt8) (n + 3) (v >>> (nI 0 &&& 31)).toInt8
def mkH (k : Nat) (ro s2 s5 K : Nat → Int64) (x : Nat → Int8) (fr n : Nat) (s : H4) : H4 := rFin (rtN k) K (lN (0 + n)) (rPut (rtN k) K x fr n (rBeg k ro s2 s5 s))
def rPad (rt : Nat) (K : Nat → Int64) (hk : Nat → Int8) (pad : Int32) : Nat → H4 → H4 := fun i s => ptB rt K s ((hk i).toInt32 ^^^ pad)
theorem rtN_b {k : Nat} (h : k ≤ 6) : rtN k = blN k := by simp [rtN, show ¬ k = 11 by omega, show ¬ k = 12 by omega, show ¬ 6 < k by omega]
theorem blN_or (k : Nat) : blN k = 64 ∨ blN k = 128 := by unfold blN; split <;> simp
theorem dgN_or (k : Nat) : dgN k = 32 ∨ dgN k = 48 ∨ dgN k = 64 ∨ dgN k = 28 := by unfold dgN; split <;> (try split) <;> (try split) <;> simp
def rKeyB (k : Nat) (ro s2 s5 K : Nat → Int64) (x : Nat → Int8) (fr n : Nat) (s : H4) (hk : Nat → Int8) : Nat → Int8 :=
  if blN k < n then gvS (rtN k) (mkH k ro s2 s5 K x fr n s).2.2.1 (fil hk 0 128 (nI 0).toInt8) 0 (dgN k) else va_cpy x (fil hk 0 128 (nI 0).toInt8) fr 0 n
def rKeyS (k : Nat) (ro s2 s5 K : Nat → Int64) (x : Nat → Int8) (fr n : Nat) (s : H4) : H4 := if blN k < n then mkH k ro s2 s5 K x fr n s else s
def rPadS (k : Nat) (ro s2 s5 K : Nat → Int64) (hk : Nat → Int8) (pad : Int32) (s : H4) : H4 := it (rPad (rtN k) K hk pad) (blN k) (rBeg k ro s2 s5 s)
def rStM (k : Nat) (ro s2 s5 K : Nat → Int64) (x : Nat → Int8) (fr n : Nat) (s : H4) (hk : Nat → Int8) : H4 := rPadS k ro s2 s5 K (rKeyB k ro s2 s5 K x fr n s hk) (nI 54) (rKeyS k ro s2 s5 K x fr n s)
theorem rPadS_lt {k : Nat} (h : k ≤ 6) (ro s2 s5 K : Nat → Int64) (hk : Nat → Int8) (pad : Int32) (s : H4) : (rPadS k ro s2 s5 K hk pad s).2.1 < rtN k := by
  have key : ∀ n, (it (rPad (rtN k) K hk pad) n (rBeg k ro s2 s5 s)).2.1 < rtN k := by
    intro n
    induction n with
    | zero => show 0 < rtN k; have := blN_or k; rw [rtN_b h]; omega
    | succ n ih => exact ptB_lt K _ ih
  exact key _
def eM1 (k : Nat) (K : Nat → Int64) (tt : Nat) (s : H4) (inn : Nat → Int8) : Nat → Int8 := gvS (rtN k) (rFin (rtN k) K (lN tt) s).2.2.1 inn 0 (dgN k)
def eM2 (k : Nat) (ro s2 s5 K : Nat → Int64) (tt : Nat) (s : H4) (hk inn : Nat → Int8) : H4 := rPut (rtN k) K (eM1 k K tt s inn) 0 (dgN k) (rPadS k ro s2 s5 K hk (nI 92) (rFin (rtN k) K (lN tt) s))
abbrev H6 : Type := H4 × (Nat → Int8) × (Nat → Int8)
def mkS (k : Nat) (ro s2 s5 K : Nat → Int64) (x : Nat → Int8) (n i : Nat) (s : H4) : H4 :=
  ptB (rtN k) K (ptB (rtN k) K (ptB (rtN k) K (ptB (rtN k) K (rPut (rtN k) K x 0 n (rBeg k ro s2 s5 s)) (nI (i / 16777216))) (nI (i / 65536))) (nI (i / 256))) (nI (i / 1))
def mkE (k : Nat) (ro s2 s5 K : Nat → Int64) (x : Nat → Int8) (n i : Nat) (s : H4) : H4 := rFin (rtN k) K (lN (0 + n + 1 + 1 + 1 + 1)) (mkS k ro s2 s5 K x n i s)
def mkF (k : Nat) (ro s2 s5 K : Nat → Int64) (x : Nat → Int8) (n at_ m : Nat) : Nat → H6 → H6 := fun i u =>
  (mkE k ro s2 s5 K x n i u.1, gvS (rtN k) (mkE k ro s2 s5 K x n i u.1).2.2.1 u.2.1 0 (dgN k), va_cpy (gvS (rtN k) (mkE k ro s2 s5 K x n i u.1).2.2.1 u.2.1 0 (dgN k)) u.2.2 0 (at_ + i * dgN k) (if m - i * dgN k < dgN k then m - i * dgN k else dgN k))
def mcn (m d : Nat) : Nat := (m + d - 1) / d
theorem mcn_lt {m d i : Nat} (hd : 0 < d) (h : i < mcn m d) : i * d < m := by
  unfold mcn at h
  have h1 := (Nat.le_div_iff_mul_le hd).mp (show i + 1 ≤ (m + d - 1) / d from h)
  rw [Nat.succ_mul] at h1
  omega
theorem mcn_ge {m d : Nat} (hd : 0 < d) : m ≤ mcn m d * d := by
  unfold mcn
  have h1 := Nat.div_add_mod (m + d - 1) d
  have h2 := Nat.mod_lt (m + d - 1) hd
  rw [Nat.mul_comm] at h1
  omega
def mkT (k : Nat) (ro s2 s5 K : Nat → Int64) (x : Nat → Int8) (n at_ m : Nat) (u : H6) : H6 := it (mkF k ro s2 s5 K x n at_ m) (mcn m (dgN k)) u
theorem mcn_le {m d : Nat} (hd : 0 < d) : mcn m d * d ≤ m + d := by
  unfold mcn
  have := Nat.div_mul_le_self (m + d - 1) d
  omega
abbrev H9 : Type := H6 × Nat × Nat × Nat
def mkG (k : Nat) (ro s2 s5 K : Nat → Int64) (x : Nat → Int8) (n at_ m : Nat) : Nat → H9 → H9 := fun i u => (mkF k ro s2 s5 K x n at_ m i u.1, k, rtN k, rFiT (rtN k) K (0 + n + 1 + 1 + 1 + 1) (mkS k ro s2 s5 K x n i u.1.1))
def mkU (k : Nat) (ro s2 s5 K : Nat → Int64) (x : Nat → Int8) (n at_ m : Nat) (u : H9) : H9 := it (mkG k ro s2 s5 K x n at_ m) (mcn m (dgN k)) u
theorem inR_n {v lo hi : Nat} (h1 : lo ≤ v) (h2 : v ≤ hi) (h3 : hi < 2 ^ 31) : inR (nI v) (nI lo) (nI hi) = nI 1 := by
  unfold inR
  rw [if_neg (nI_nlt h1 (by omega)), if_neg (nI_nlt h2 h3)]
theorem up_id {α : Type} (f : Nat → α) (k : Nat) : va_up f k (f k) = f := by
  funext j
  unfold va_up
  by_cases h : j = k
  · rw [if_pos h, h]
  · rw [if_neg h]
def wdR (f : Nat → Int8) (n i : Nat) : Nat → Int64 → Int64 := fun j s => lshl s (nI 8) ||| (if i + j < n then (f (i + j)).toInt32.toInt64 &&& 255 else 0)
def smR (f g : Nat → Int8) : Nat → Int32 → Int32 := fun j s => if (f j).toInt32 = (g j).toInt32 then s else nI 0
theorem fil_to {α : Type} (a b : Nat) (f : Nat → α) (v : α) : fil f a (a + (b - a)) v = fil f a b v := by
  funext j
  unfold fil
  by_cases h : a ≤ j ∧ j < b
  · rw [if_pos h, if_pos (by omega)]
  · rw [if_neg h, if_neg (by omega)]
theorem smR_nz (f g : Nat → Int8) (n : Nat) : narrow .boolean (.int (it (smR f g) n (nI 1))) = .int (it (smR f g) n (nI 1)) := by
  have key : it (smR f g) n (nI 1) = nI 0 ∨ it (smR f g) n (nI 1) = nI 1 := by
    induction n with
    | zero => exact Or.inr rfl
    | succ n ih =>
      show smR f g n _ = _ ∨ smR f g n _ = _
      unfold smR
      split
      · exact ih
      · exact Or.inl rfl
  rcases key with h | h <;> rw [h] <;> rfl
def sgN (k n : Nat) : Nat := if k ≤ 10 then dgN k else n
theorem rtN_s {k : Nat} (h1 : 6 < k) (h2 : k ≤ 12) : 0 < rtN k ∧ rtN k ≤ 200 := by
  have hd := dgN_or k
  unfold rtN
  split
  · omega
  · split
    · omega
    · first | omega | (rw [if_pos h1]; omega)
theorem rStM_lt {k : Nat} (h : k ≤ 6) (ro s2 s5 K : Nat → Int64) (x : Nat → Int8) (fr n : Nat) (s : H4) (hk : Nat → Int8) : (rStM k ro s2 s5 K x fr n s hk).2.1 < rtN k := rPadS_lt h ro s2 s5 K _ _ _
theorem loopM (P J : Nat → Prop) (n : Nat) (h0 : J 0) (hs : ∀ k : Nat, k < n → J k → (J (k + 1) → P (k + 1)) → P k) (he : J n → P n) : P 0 := by
  have hdn : ∀ j k, k + j = n → J k → P k := by
    intro j
    induction j with
    | zero => intro k hk hJ; have : k = n := by omega
              subst this; exact he hJ
    | succ j ih => intro k hk hJ; exact hs k (by omega) hJ (ih (k + 1) (by omega))
  exact hdn n 0 (by omega) h0
theorem smR_1 (f g : Nat → Int8) (n : Nat) (h : ∀ j, j < n → (f j).toInt32 = (g j).toInt32) : it (smR f g) n (nI 1) = nI 1 := by
  induction n with
  | zero => rfl
  | succ n ih =>
    show smR f g n _ = _
    unfold smR
    rw [if_pos (h n (by omega))]
    exact ih (fun j hj => h j (by omega))
theorem smR_0 (f g : Nat → Int8) {n k : Nat} (hk : k < n) (h : ¬ (f k).toInt32 = (g k).toInt32) : it (smR f g) n (nI 1) = nI 0 := by
  induction n with
  | zero => omega
  | succ n ih =>
    show smR f g n _ = _
    unfold smR
    by_cases h1 : k = n
    · subst h1; rw [if_neg h]
    · split
      · exact ih (by omega)
      · rfl
def mtC (f g : Nat → Int8) (n m : Nat) : Int32 := if n = m then it (smR f g) n (nI 1) else nI 0
theorem mtC_nz (f g : Nat → Int8) (n m : Nat) : narrow .boolean (.int (mtC f g n m)) = .int (mtC f g n m) := by
  unfold mtC
  split
  · exact smR_nz f g n
  · rfl
theorem mtC_ln {f g : Nat → Int8} {n m : Nat} (h : ¬ n = m) : mtC f g n m = nI 0 := if_neg h
theorem mtC_ne {f g : Nat → Int8} {n m k : Nat} (h : n = m) (hk : k < n) (hn : ¬ (f k).toInt32 = (g k).toInt32) : mtC f g n m = nI 0 := (if_pos h).trans (smR_0 f g hk hn)
theorem mtC_eq {f g : Nat → Int8} {n m : Nat} (h : n = m) (hq : ∀ j, j < n → (f j).toInt32 = (g j).toInt32) : mtC f g n m = nI 1 := (if_pos h).trans (smR_1 f g n hq)
theorem lt_up {p : Nat → Prop} {k : Nat} (h : ∀ j, j < k → p j) (hk : p k) : ∀ j, j < k + 1 → p j := fun j hj => by
  by_cases h1 : j = k
  · subst h1; exact hk
  · exact h j (by omega)
