def a5 : Int64 := -6510615555426900571
def nmI : Nat → (Nat → Int64) → Nat → Int64 := fun i S => va_up S i (S i ^^^ a5)
def nmV (S : Nat → Int64) : Nat → Int64 := it nmI 8 S
theorem nmV_at (S : Nat → Int64) (n : Nat) : ∀ j, it nmI n S j = if j < n then S j ^^^ a5 else S j := by
  induction n with
  | zero => intro j; show S j = _; rw [if_neg (by omega)]
  | succ n ih =>
    intro j
    show va_up (it nmI n S) n (it nmI n S n ^^^ a5) j = _
    unfold va_up
    by_cases c : j = n
    · rw [if_pos c, if_pos (by omega), ih n, if_neg (by omega), c]
    · rw [if_neg c, ih j]
      by_cases c2 : j < n
      · rw [if_pos c2, if_pos (by omega)]
      · rw [if_neg c2, if_neg (by omega)]
def nmC (b c : Nat) : Nat → Int32 := fun j => nI (([83, 72, 65, 45, 53, 49, 50, 47, 50, b, c] : List Nat).getD j 0)
def nmP (rt : Nat) (K : Nat → Int64) (b c : Nat) (s : H4) : H4 :=
  ptB rt K (ptB rt K (ptB rt K (ptB rt K (ptB rt K (ptB rt K (ptB rt K (ptB rt K (ptB rt K (ptB rt K (ptB rt K s (nI 83)) (nI 72)) (nI 65)) (nI 45)) (nI 53)) (nI 49)) (nI 50)) (nI 47)) (nI 50)) (nI b)) (nI c)
theorem nmP_it (rt : Nat) (K : Nat → Int64) (b c : Nat) (s : H4) : nmP rt K b c s = it (pts rt K (nmC b c)) 11 s := rfl
theorem nm_blk (b c : Nat) (g : Nat → Int8) : ∀ j, j < 128 → ov (ov g 0 11 (nmC b c)) 11 117 (fbb 128 100 ((8 : Int64) * lN 11)) j = nmB b c j := by
  intro j hj
  unfold ov
  by_cases h1 : j < 11
  · rw [if_neg (by omega), if_pos (by omega), Nat.sub_zero]
    have : j = 0 ∨ j = 1 ∨ j = 2 ∨ j = 3 ∨ j = 4 ∨ j = 5 ∨ j = 6 ∨ j = 7 ∨ j = 8 ∨ j = 9 ∨ j = 10 := by omega
    rcases this with h | h | h | h | h | h | h | h | h | h | h <;> subst h <;> rfl
  · rw [if_pos (by omega)]
    have key : ∀ i, i < 117 → (fbb 128 100 ((8 : Int64) * lN 11) i).toInt8 = ((([128] : List Nat).getD i (if i = 116 then 88 else 0) : Nat) |> nI).toInt8 := by decide +kernel
    rw [key (j - 11) (by omega)]
    unfold nmB
    by_cases h2 : j = 11
    · subst h2; rfl
    · have e1 : ([83, 72, 65, 45, 53, 49, 50, 47, 50, b, c, 128] : List Nat).getD j (if j = 127 then 88 else 0) = if j = 127 then 88 else 0 := by
        rw [List.getD_eq_getElem?_getD, List.getElem?_eq_none (by simp; omega)]
        rfl
      have e2 : ([128] : List Nat).getD (j - 11) (if j - 11 = 116 then 88 else 0) = if j - 11 = 116 then 88 else 0 := by
        rw [List.getD_eq_getElem?_getD, List.getElem?_eq_none (by simp; omega)]
        rfl
      rw [e1, e2]
      by_cases h3 : j = 127
      · rw [if_pos h3, if_pos (by omega)]
      · rw [if_neg h3, if_neg (by omega)]
theorem nm_fin (rt : Nat) (hr : rt = 128) (K : Nat → Int64) (b c : Nat) (g : Nat → Int8) (S w : Nat → Int64) : (rFin rt K (lN 11) (nmP rt K b c (g, 0, S, w))).2.2.1 = cmp6 K (ov (ov g 0 11 (nmC b c)) 11 117 (fbb 128 100 ((8 : Int64) * lN 11))) S w := by
  subst hr
  rw [nmP_it, pts_n (nmC b c) 11 g 0 S w (by decide), rFin_p, rFi1_fl, show (ov g 0 11 (nmC b c), 0 + 11, S, w).2.1 = 11 from rfl, if_neg (by decide), show zcn 128 (11 + 1) = 100 by decide, show 1 + 100 + 128 / 8 = 117 by decide]
  have e := pts_f (K := K) (rt := 128) (fbb 128 100 ((8 : Int64) * lN 11)) 117 (ov g 0 11 (nmC b c)) 11 S w (by decide) (by decide)
  rw [show (0 + 11) = 11 from rfl, e]
  show (cmpR 128 K _ S w).1 = _
  rw [cmpR_6]
theorem nm_x {rt : Nat} (hr : rt = 128) {K : Nat → Int64} (hK : ∀ t, t < 80 → K t = s_l 8 t) (g : Nat → Int8) {S : Nat → Int64} (hS : ∀ i, i < 8 → S i = nmS i) (w : Nat → Int64) : ∀ j, j < 8 → (rFin rt K (lN 11) (nmP rt K 50 52 (g, 0, S, w))).2.2.1 j = s_l 6 j := by
  rw [nm_fin rt hr]
  exact nx_eq hK (nm_blk 50 52 g) hS w
theorem nm_y {rt : Nat} (hr : rt = 128) {K : Nat → Int64} (hK : ∀ t, t < 80 → K t = s_l 8 t) (g : Nat → Int8) {S : Nat → Int64} (hS : ∀ i, i < 8 → S i = nmS i) (w : Nat → Int64) : ∀ j, j < 8 → (rFin rt K (lN 11) (nmP rt K 53 54 (g, 0, S, w))).2.2.1 j = s_l 7 j := by
  rw [nm_fin rt hr]
  exact ny_eq hK (nm_blk 53 54 g) hS w
theorem nm_S {ro s2 s5 S : Nat → Int64} (h : ∀ i, i < 8 → ro i = s_l 4 i) : ∀ i, i < 8 → nmV (bgS 3 ro s2 s5 S) i = nmS i := by
  intro i hi
  unfold nmV bgS
  rw [nmV_at, if_pos hi, bg_at 3 ro s2 s5 _ 8 i hi]
  show ro i ^^^ a5 = s_l 4 i ^^^ _
  rw [h i hi]
  rfl
theorem bg_1 {ro s2 s5 : Nat → Int64} (h : ∀ i, i < 16 → ro i = rtT i) : ∀ i, i < 8 → s_l 2 i = rl false (bgV 1 ro s2 s5 i) := by
  intro i hi
  show _ = rl false (lush (ro i) (nI 32))
  rw [h i (by omega)]
  have key : ∀ i, i < 8 → s_l 2 i = rl false (lush (rtT i) (nI 32)) := by decide +kernel
  exact key i hi
theorem bg_4 {ro s2 s5 : Nat → Int64} (h : ∀ i, i < 16 → ro i = rtT i) : ∀ i, i < 8 → s_l 3 i = rl false (bgV 4 ro s2 s5 i) := by
  intro i hi
  show _ = rl false (ro (8 + i) &&& 4294967295)
  rw [h (8 + i) (by omega)]
  have key : ∀ i, i < 8 → s_l 3 i = rl false (rtT (8 + i) &&& 4294967295) := by decide +kernel
  exact key i hi
theorem bg_2 {ro s2 s5 : Nat → Int64} (h : ∀ i, i < 16 → ro i = rtT i) : ∀ i, i < 8 → s_l 5 i = rl true (bgV 2 ro s2 s5 i) := by
  intro i hi
  show _ = ro (8 + i)
  rw [h (8 + i) (by omega)]
  have key : ∀ i, i < 8 → s_l 5 i = rtT (8 + i) := by decide +kernel
  exact key i hi
theorem bg_3 {ro s2 s5 : Nat → Int64} (h : ∀ i, i < 16 → ro i = rtT i) : ∀ i, i < 8 → s_l 4 i = rl true (bgV 3 ro s2 s5 i) := by
  intro i hi
  show _ = ro i
  rw [h i (by omega)]
  have key : ∀ i, i < 8 → s_l 4 i = rtT i := by decide +kernel
  exact key i hi
theorem bg_5 {ro s2 s5 : Nat → Int64} (h : ∀ i, i < 8 → s2 i = s_l 6 i) : ∀ i, i < 8 → s_l 6 i = rl true (bgV 5 ro s2 s5 i) := fun i hi => (h i hi).symm
theorem bg_6 {ro s2 s5 : Nat → Int64} (h : ∀ i, i < 8 → s5 i = s_l 7 i) : ∀ i, i < 8 → s_l 7 i = rl true (bgV 6 ro s2 s5 i) := fun i hi => (h i hi).symm
