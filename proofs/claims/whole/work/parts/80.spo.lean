theorem and255_8 (x : Int32) : (x &&& nI 255).toInt8 = x.toInt8 := by
  apply Int8.toBitVec_inj.mp
  rw [Int32.toBitVec_toInt8, Int32.toBitVec_toInt8, Int32.toBitVec_and]
  apply BitVec.eq_of_getLsbD_eq
  intro i hi
  have h255 : (nI 255).toBitVec.getLsbD i = true := by
    have : i = 0 ∨ i = 1 ∨ i = 2 ∨ i = 3 ∨ i = 4 ∨ i = 5 ∨ i = 6 ∨ i = 7 := by omega
    rcases this with h | h | h | h | h | h | h | h <;> subst h <;> decide
  simp only [BitVec.getLsbD_signExtend, BitVec.getLsbD_and]
  rw [if_pos (show i < 32 by omega), if_pos (show i < 32 by omega), h255, Bool.and_true]
theorem flip_eq {L S : Nat → Int64} (h : ∀ j, j < 25 → L j = S j) {p : Nat} (hp : p < 200) {v w : Int32} (e : v.toInt64 = w.toInt64 &&& 255) : ∀ j, j < 25 → flipC L p v j = flipR S p w j := by
  intro j hj
  unfold flipC flipR va_up
  by_cases h1 : j = p / 8
  · rw [if_pos h1, if_pos h1, h (p / 8) (by omega), e]
  · rw [if_neg h1, if_neg h1, h j hj]
def pk4 (Z : S3) (p : Nat) : S4 := (Z.1, Z.2.1, Z.2.2, p)
theorem pk4_1 (Z : S3) (p : Nat) : (pk4 Z p).1 = Z.1 := rfl
theorem pk4_4 (Z : S3) (p : Nat) : (pk4 Z p).2.2.2 = p := rfl
theorem abF_f {rate : Nat} {x : Nat → Int8} {i : Nat} {s : S4} (c : s.2.2.2 + 1 = rate) : abF rate x i s = pk4 (prm (flipC s.1 s.2.2.2 (ub (x i)), s.2.1, s.2.2.1)) 0 := if_pos c
theorem abF_n {rate : Nat} {x : Nat → Int8} {i : Nat} {s : S4} (c : ¬ s.2.2.2 + 1 = rate) : abF rate x i s = pk4 (flipC s.1 s.2.2.2 (ub (x i)), s.2.1, s.2.2.1) (s.2.2.2 + 1) := if_neg c
theorem ptS_f4 {T : Nat → Int32} {rn : Nat → Int64} {rt : Nat} {s : S4} {b : Int32} (c : s.2.2.2 + 1 = rt) : ptS T rn rt s b = pk4 (rprm T rn (flipR s.1 s.2.2.2 b, s.2.1, s.2.2.1)) 0 := if_pos c
theorem ptS_n4 {T : Nat → Int32} {rn : Nat → Int64} {rt : Nat} {s : S4} {b : Int32} (c : ¬ s.2.2.2 + 1 = rt) : ptS T rn rt s b = pk4 (flipR s.1 s.2.2.2 b, s.2.1, s.2.2.1) (s.2.2.2 + 1) := if_neg c
theorem sqP_f {rate : Nat} {s : S5} (c : s.2.2.2.1 = rate) : sqP rate s = pk4 (prm (s.1, s.2.1, s.2.2.1)) 0 := if_pos c
theorem sqP_n {rate : Nat} {s : S5} (c : ¬ s.2.2.2.1 = rate) : sqP rate s = pk4 (s.1, s.2.1, s.2.2.1) s.2.2.2.1 := if_neg c
theorem sqR_f4 {T : Nat → Int32} {rn : Nat → Int64} {rt : Nat} {S o c : Nat → Int64} {fl : Nat} (h : fl = rt) : sqR T rn rt (S, o, c, fl) = pk4 (rprm T rn (S, o, c)) 0 := if_pos h
theorem sqR_n4 {T : Nat → Int32} {rn : Nat → Int64} {rt : Nat} {S o c : Nat → Int64} {fl : Nat} (h : ¬ fl = rt) : sqR T rn rt (S, o, c, fl) = pk4 (S, o, c) fl := if_neg h
section SPO
variable {T : Nat → Int32} {rn : Nat → Int64} (hT : ∀ j, j < 25 → T j = s_i 10 j) (hr : ∀ i, i < 24 → rn i = s_l 9 i)
theorem abF_eq (hT : ∀ j, j < 25 → T j = s_i 10 j) (hr : ∀ i, i < 24 → rn i = s_l 9 i) {rate : Nat} (hr2 : rate ≤ 200) {x y : Nat → Int8} (i : Nat) (hx : x i = y (0 + i)) {s t : S4} (h : ∀ j, j < 25 → s.1 j = t.1 j) (hp : s.2.2.2 = t.2.2.2) (hl : s.2.2.2 < rate) :
    (∀ j, j < 25 → (abF rate x i s).1 j = (psF T rn rate y 0 i t).1 j) ∧ (abF rate x i s).2.2.2 = (psF T rn rate y 0 i t).2.2.2 := by
  have hf := flip_eq h (p := s.2.2.2) (by omega) (ub_l (x i))
  rw [hx, hp] at hf
  show (∀ j, j < 25 → (abF rate x i s).1 j = (ptS T rn rate t (y (0 + i)).toInt32).1 j) ∧ (abF rate x i s).2.2.2 = (ptS T rn rate t (y (0 + i)).toInt32).2.2.2
  by_cases c : s.2.2.2 + 1 = rate
  · rw [abF_f c, ptS_f4 (by rw [← hp]; exact c), pk4_1, pk4_1, pk4_4, pk4_4, hx, hp]
    exact ⟨prm_eq hT hr hf, rfl⟩
  · rw [abF_n c, ptS_n4 (by rw [← hp]; exact c), pk4_1, pk4_1, pk4_4, pk4_4, hx, hp]
    exact ⟨hf, rfl⟩
theorem abS_eq (hT : ∀ j, j < 25 → T j = s_i 10 j) (hr : ∀ i, i < 24 → rn i = s_l 9 i) {rate : Nat} (h0 : 0 < rate) (hr2 : rate ≤ 200) {x y : Nat → Int8} (n : Nat) (hx : ∀ i, i < n → x i = y i) (s : S3) (S o c : Nat → Int64) :
    (∀ j, j < 25 → (abS rate x n s).1 j = (sPut T rn rate y 0 n (fil S 0 25 0, o, c, 0)).1 j) ∧ (abS rate x n s).2.2.2 = (sPut T rn rate y 0 n (fil S 0 25 0, o, c, 0)).2.2.2 ∧ (abS rate x n s).2.2.2 < rate := by
  unfold abS sPut
  induction n with
  | zero =>
    refine ⟨fun j hj => ?_, rfl, h0⟩
    show fil s.1 0 25 0 j = fil S 0 25 0 j
    unfold fil
    rw [if_pos (by omega), if_pos (by omega)]
  | succ n ih =>
    obtain ⟨a1, a2, a3⟩ := ih (fun i hi => hx i (by omega))
    obtain ⟨b1, b2⟩ := abF_eq hT hr hr2 n (x := x) (y := y) (by rw [Nat.zero_add]; exact hx n (by omega)) a1 a2 a3
    exact ⟨b1, b2, abF_lt h0 x n _ a3⟩
theorem abE_eq (hT : ∀ j, j < 25 → T j = s_i 10 j) (hr : ∀ i, i < 24 → rn i = s_l 9 i) {rate k : Nat} (h0 : 0 < rate) (hr2 : rate ≤ 200) {x y : Nat → Int8} (n : Nat) (hx : ∀ i, i < n → x i = y i) (s : S3) (S o c : Nat → Int64) (sf : Int32) (hsf : sf = if 10 < k then nI 31 else nI 6) :
    ∀ j, j < 25 → (abE rate sf x n s).1 j = (sFin T rn rate k (sPut T rn rate y 0 n (fil S 0 25 0, o, c, 0))).1 j := by
  obtain ⟨a1, a2, a3⟩ := abS_eq hT hr h0 hr2 n hx s S o c
  unfold abE sFin
  rw [← hsf, a2]
  refine prm_eq hT hr (flip_eq (flip_eq a1 (by omega) ?_) (by omega) (by decide))
  rw [hsf]
  split <;> decide
theorem sq_eq (hT : ∀ j, j < 25 → T j = s_i 10 j) (hr : ∀ i, i < 24 → rn i = s_l 9 i) {rate : Nat} (h0 : 0 < rate) (hr2 : rate ≤ 200) (n : Nat) (s t : S3) (h : ∀ j, j < 25 → s.1 j = t.1 j) (o u : Nat → Int8) :
    (∀ j, j < 25 → (sqS rate n s o).1 j = (gsS T rn rate 0 n t u).1 j) ∧ (sqS rate n s o).2.2.2.1 = (gsS T rn rate 0 n t u).2.2.2.1 ∧ (sqS rate n s o).2.2.2.1 ≤ rate ∧ ∀ j, j < n → (sqS rate n s o).2.2.2.2 j = (gsS T rn rate 0 n t u).2.2.2.2 j := by
  unfold sqS gsS
  induction n with
  | zero => exact ⟨h, rfl, Nat.zero_le _, fun j hj => absurd hj (by omega)⟩
  | succ n ih =>
    obtain ⟨a1, a2, a3, a4⟩ := ih
    generalize hA : it (sqF rate) n (s.1, s.2.1, s.2.2, 0, o) = A at a1 a2 a3 a4
    generalize hG : it (gsF T rn rate 0) n (t.1, t.2.1, t.2.2, 0, u) = G9 at a1 a2 a3 a4
    have key : (∀ j, j < 25 → (sqP rate A).1 j = (sqR T rn rate (G9.1, G9.2.1, G9.2.2.1, G9.2.2.2.1)).1 j) ∧ (sqP rate A).2.2.2 = (sqR T rn rate (G9.1, G9.2.1, G9.2.2.1, G9.2.2.2.1)).2.2.2 ∧ (sqP rate A).2.2.2 < rate := by
      by_cases c : A.2.2.2.1 = rate
      · rw [sqP_f c, sqR_f4 (by rw [← a2]; exact c), pk4_1, pk4_1, pk4_4, pk4_4]
        exact ⟨prm_eq hT hr a1, rfl, h0⟩
      · rw [sqP_n c, sqR_n4 (by rw [← a2]; exact c), pk4_1, pk4_1, pk4_4, pk4_4]
        exact ⟨a1, a2, by omega⟩
    obtain ⟨k1, k2, k3⟩ := key
    show (∀ j, j < 25 → (sqF rate n (it (sqF rate) n _)).1 j = (gsF T rn rate 0 n (it (gsF T rn rate 0) n _)).1 j) ∧ (sqF rate n (it (sqF rate) n _)).2.2.2.1 = (gsF T rn rate 0 n (it (gsF T rn rate 0) n _)).2.2.2.1 ∧ (sqF rate n (it (sqF rate) n _)).2.2.2.1 ≤ rate ∧ ∀ j, j < n + 1 → (sqF rate n (it (sqF rate) n _)).2.2.2.2 j = (gsF T rn rate 0 n (it (gsF T rn rate 0) n _)).2.2.2.2 j
    rw [hA, hG]
    refine ⟨k1, by show (sqP rate A).2.2.2 + 1 = _; rw [k2]; rfl, sqF_le h0 n A a3, fun j hj => ?_⟩
    show va_up A.2.2.2.2 n _ j = va_up G9.2.2.2.2 (0 + n) _ j
    rw [Nat.zero_add]
    unfold va_up
    by_cases c : j = n
    · rw [if_pos c, if_pos c]
      unfold sqV
      rw [and255_8, k2, k1 _ (by rw [← k2]; omega)]
    · rw [if_neg c, if_neg c]
      exact a4 j (by omega)
end SPO
