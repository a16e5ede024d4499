section GW9
variable {B : Bx} {M : Mx} {cc : ByteArray} {nL n1 n2 : Nat} {own : String} {Q : State → Prop} {ws : va_W} {lv : List (Nat × Value)} {pc : Nat} {st rest : List Value}
theorem arrV_ext {cI : ClassId} {N : Nat} {f g : Nat → Value} (h : ∀ j, j < N → f j = g j) : arrV cI N f = arrV cI N g := by
  have e : (fun j : Fin N => f j.val) = (fun j : Fin N => g j.val) := funext fun j => h j.1 j.2
  unfold arrV
  rw [e]
theorem g_swap (q0 : Nat) {a : Nat} {e e' : va_E} (he : ws[q0]? = some (a, e)) (hc : ∀ H : Heap, va_at B.1 classes (a, e) H → va_at B.1 classes (a, e') H) (kk : G B M nL n1 n2 Q (ws.set q0 (a, e')) lv pc st) : G B M nL n1 n2 Q ws lv pc st :=
  fun H locs ls hP hD hS hl => kk H locs ls (hP.set hD he (hc H (hP q0 _ he)) (fun _ _ => rfl)) (hD.set he) hS hl
theorem g_cj (q0 : Nat) {a n : Nat} {f g : Nat → Int64} (he : ws[q0]? = some (cj B a n f)) (h : ∀ j, j < n → f j = g j) (kk : G B M nL n1 n2 Q (ws.set q0 (cj B a n g)) lv pc st) : G B M nL n1 n2 Q ws lv pc st := by
  refine g_swap q0 he (fun H hH => ?_) kk
  have e : vp_cell (b_c B 1) (n, .inr (.inl f)) = vp_cell (b_c B 1) (n, .inr (.inl g)) := by rw [vp_cell_l, vp_cell_l]; exact arrV_ext (fun j hj => by rw [h j hj])
  show H[a]? = some (vp_cell (b_c B 1) (n, .inr (.inl g)))
  rw [← e]
  exact hH
theorem g_cn (q0 : Nat) {a n : Nat} {f g : Nat → Int32} (he : ws[q0]? = some (cn B a n f)) (h : ∀ j, j < n → f j = g j) (kk : G B M nL n1 n2 Q (ws.set q0 (cn B a n g)) lv pc st) : G B M nL n1 n2 Q ws lv pc st := by
  refine g_swap q0 he (fun H hH => ?_) kk
  have e : vp_cell (b_c B 2) (n, .inl f) = vp_cell (b_c B 2) (n, .inl g) := by rw [vp_cell_i, vp_cell_i]; exact arrV_ext (fun j hj => by rw [h j hj])
  show H[a]? = some (vp_cell (b_c B 2) (n, .inl g))
  rw [← e]
  exact hH
theorem g_cb (q0 : Nat) {a n : Nat} {f g : Nat → Int8} (he : ws[q0]? = some (cb B a n f)) (h : ∀ j, j < n → f j = g j) (kk : G B M nL n1 n2 Q (ws.set q0 (cb B a n g)) lv pc st) : G B M nL n1 n2 Q ws lv pc st := by
  refine g_swap q0 he (fun H hH => ?_) kk
  have e : vp_cell (b_c B 0) (n, .inl (fun j => (f j).toInt32)) = vp_cell (b_c B 0) (n, .inl (fun j => (g j).toInt32)) := by rw [vp_cell_i, vp_cell_i]; exact arrV_ext (fun j hj => by rw [h j hj])
  show H[a]? = some (vp_cell (b_c B 0) (n, .inl (fun j => (g j).toInt32)))
  rw [← e]
  exact hH
theorem g_cr (q0 : Nat) {a n : Nat} {f g : Nat → Option Nat} (he : ws[q0]? = some (cr B a n f)) (h : ∀ j, j < n → f j = g j) (kk : G B M nL n1 n2 Q (ws.set q0 (cr B a n g)) lv pc st) : G B M nL n1 n2 Q ws lv pc st := by
  refine g_swap q0 he (fun H hH => ?_) kk
  have e : vp_cell (b_c B 3) (n, .inr (.inr (.inr (.inr f)))) = vp_cell (b_c B 3) (n, .inr (.inr (.inr (.inr g)))) := by rw [vp_cell_q, vp_cell_q]; exact arrV_ext (fun j hj => by rw [h j hj])
  show H[a]? = some (vp_cell (b_c B 3) (n, .inr (.inr (.inr (.inr g)))))
  rw [← e]
  exact hH
theorem g_cq (q0 : Nat) {a n : Nat} {f g : Nat → Option Nat} (he : ws[q0]? = some (cq B a n f)) (h : ∀ j, j < n → f j = g j) (kk : G B M nL n1 n2 Q (ws.set q0 (cq B a n g)) lv pc st) : G B M nL n1 n2 Q ws lv pc st := by
  refine g_swap q0 he (fun H hH => ?_) kk
  have e : vp_cell (b_c B 4) (n, .inr (.inr (.inr (.inr f)))) = vp_cell (b_c B 4) (n, .inr (.inr (.inr (.inr g)))) := by rw [vp_cell_q, vp_cell_q]; exact arrV_ext (fun j hj => by rw [h j hj])
  show H[a]? = some (vp_cell (b_c B 4) (n, .inr (.inr (.inr (.inr g)))))
  rw [← e]
  exact hH
end GW9
abbrev LPP : Type := (Nat → Int64) × (Nat → Int64)
theorem lN_and16 (x : Nat) : lN x &&& 65535 = lN (x % 65536) := by
  apply Int64.toBitVec_inj.mp
  rw [Int64.toBitVec_and, lN_bv, lN_bv]
  apply BitVec.eq_of_toNat_eq
  have e1 : (65535 : Int64).toBitVec.toNat = 2 ^ 16 - 1 := rfl
  rw [BitVec.toNat_and, BitVec.toNat_ofNat, BitVec.toNat_ofNat, e1, Nat.and_two_pow_sub_one_eq_mod]
  omega
theorem lN_ush {x : Nat} (h : x < 2 ^ 64) (k : Nat) (hk : k < 64) : lush (lN x) (nI k) = lN (x / 2 ^ k) := by
  apply Int64.toBitVec_inj.mp
  rw [lush_bv _ k hk, lN_bv, lN_bv]
  apply BitVec.eq_of_toNat_eq
  have h2 : x / 2 ^ k ≤ x := Nat.div_le_self _ _
  rw [BitVec.toNat_ushiftRight, BitVec.toNat_ofNat, BitVec.toNat_ofNat, Nat.mod_eq_of_lt h, Nat.mod_eq_of_lt (Nat.lt_of_le_of_lt h2 h), Nat.shiftRight_eq_div_pow]
theorem lN_ush16 {x : Nat} (h : x < 2 ^ 64) : lush (lN x) (nI 16) = lN (x / 65536) := lN_ush h 16 (by omega)
theorem lN_shl16 (x : Nat) : lshl (lN x) (nI 16) = lN (x * 65536) := by
  apply Int64.toBitVec_inj.mp
  rw [lshl_bv _ 16 (by omega), lN_bv, lN_bv]
  apply BitVec.eq_of_toNat_eq
  rw [BitVec.toNat_shiftLeft, BitVec.toNat_ofNat, BitVec.toNat_ofNat, Nat.shiftLeft_eq]
  omega
theorem lN_up (E : Nat → Nat) (i m : Nat) : va_up (fun j => lN (E j)) i (lN m) = fun j => lN (va_up E i m j) := by
  funext j
  unfold va_up
  by_cases h : j = i
  · rw [if_pos h, if_pos h]
  · rw [if_neg h, if_neg h]
theorem dg_and {W P j : Nat} (hP : P < 2 ^ 64) (hj : j < 4) : lush (lN P) (nI (16 * j)) &&& 65535 = lN (dgW W P j) := by
  rw [lN_ush hP _ (by omega), lN_and16]
  unfold dgW
  rw [if_pos hj]
theorem dg_4 {W P j : Nat} (hj : ¬ j < 4) : W = dgW W P j := (if_neg hj).symm
def oneN : Nat → Nat := fun i => if i = 0 then 1 else 0
def oneL : Nat → Int64 := fun i => lN (oneN i)
theorem one_s1 (f : Nat → Int64) {k : Nat} (h : k = 0) : va_up (va_cpy oneL f 0 0 k) k 1 = va_cpy oneL f 0 0 (k + 1) := by
  rw [← cpy_s, Nat.zero_add]
  subst h
  rfl
theorem one_s0 (f : Nat → Int64) {k : Nat} (h : ¬ k = 0) : va_up (va_cpy oneL f 0 0 k) k 0 = va_cpy oneL f 0 0 (k + 1) := by
  rw [← cpy_s, Nat.zero_add]
  have e : oneL k = 0 := by
    unfold oneL oneN
    rw [if_neg h]
    rfl
  rw [e]
theorem one_x (f : Nat → Int64) : ∀ j, j < 16 → va_cpy oneL f 0 0 16 j = lN (oneN j) := by
  intro j hj
  unfold va_cpy
  rw [if_pos (by omega), show 0 + (j - 0) = j by omega]
  rfl
theorem fil_x (f : Nat → Int64) : ∀ j, j < 16 → fil f 0 16 0 j = lN ((fun _ => 0) j) := by
  intro j hj
  unfold fil
  rw [if_pos (by omega)]
  rfl
theorem cnM_or (i : Nat) : (cnM 16 i = 16 - i ∧ 16 - i < 5) ∨ (cnM 16 i = 5 ∧ 5 ≤ 16 - i) := by
  unfold cnM
  by_cases h : 16 - i < 5
  · rw [if_pos h]; exact Or.inl ⟨rfl, h⟩
  · rw [if_neg h]; exact Or.inr ⟨rfl, by omega⟩
abbrev MW : Type := (Nat → Nat) × (Nat → Int64)
def mwF (W P : Nat) : Nat → MW → MW := fun p s => (mul1 16 W P p s.1, fun z9 => lN (cnv 16 s.1 W P z9))
theorem mw_1 (W P n : Nat) (f : Nat → Int64) : (it (mwF W P) n (oneN, f)).1 = pwr 16 W P n := by
  induction n with
  | zero => rfl
  | succ n ih =>
    show mul1 16 W P n (it (mwF W P) n (oneN, f)).1 = mul1 16 W P n (pwr 16 W P n)
    rw [ih]
theorem mul1_lt (W P p : Nat) (D : Nat → Nat) : ∀ j, j < 16 → mul1 16 W P p D j < 65536 := (nr_inv (cnv 16 D W P) D 16).2
theorem one_lt : ∀ j, j < 16 → oneN j < 65536 := by
  intro j _
  unfold oneN
  split <;> omega
theorem cnv_le {D : Nat → Nat} (W P : Nat) (hD : ∀ j, j < 16 → D j < 65536) (hW : W < 1000) : ∀ t, cnv 16 D W P t ≤ 16 * 4294967296 := cnF_le 16 D W P 16 (Nat.le_refl _) hD (by omega) 4294967296 (by decide)
def rsN (D : Nat → Nat) : Nat → Nat
  | 0 => 0
  | k + 1 => if D k = 0 then rsN D k else 1
theorem rs_0 {D : Nat → Nat} {k : Nat} (h : D k = 0) : rsN D k = rsN D (k + 1) := (if_pos h).symm
theorem rs_1 {D : Nat → Nat} {k : Nat} (h : ¬ D k = 0) : 1 = rsN D (k + 1) := (if_neg h).symm
theorem rs_le (D : Nat → Nat) (k : Nat) : rsN D k ≤ 1 := by
  induction k with
  | zero => exact Nat.zero_le _
  | succ k ih =>
    show (if D k = 0 then rsN D k else 1) ≤ 1
    split
    · exact ih
    · exact Nat.le_refl _
theorem rs_iff (D : Nat → Nat) (k : Nat) : rsN D k = 0 ↔ ∀ j, j < k → D j = 0 := by
  induction k with
  | zero => exact ⟨fun _ j hj => absurd hj (by omega), fun _ => rfl⟩
  | succ k ih =>
    show (if D k = 0 then rsN D k else 1) = 0 ↔ _
    constructor
    · intro h
      by_cases c : D k = 0
      · rw [if_pos c] at h
        exact lt_up (ih.mp h) c
      · rw [if_neg c] at h
        omega
    · intro h
      rw [if_pos (h k (by omega))]
      exact ih.mpr (fun j hj => h j (by omega))
theorem lN_z {x : Nat} (h : x < 2 ^ 31) : lg_cmp (lN x) 0 = 0 ↔ x = 0 := by
  rw [lg_cmp_eq]
  exact lN_eq (b := 0) h (by decide)
theorem tp_lt (W P p : Nat) (hP : P < 2 ^ 64) (hp : 4 * p + 2 ≤ 16) : tpN 16 W P p < 2 ^ 32 := by
  obtain ⟨h, -⟩ := pwr_ok 16 W P p (by omega) hP
  have h1 := h (4 * p) (by omega)
  have h2 := h (4 * p + 1) (by omega)
  unfold tpN
  omega
theorem lN_gt {a b : Nat} (ha : a < 2 ^ 32) (hb : b < 2 ^ 32) : lN b < lN a ↔ b < a := by
  rw [Int64.lt_iff_toInt_lt]
  have e : ∀ x : Nat, x < 2 ^ 32 → (lN x).toInt = x := fun x hx => lg_ofNat_toInt (by omega)
  rw [e a ha, e b hb]
  omega
theorem lN_eq2 {a b : Nat} (ha : a < 2 ^ 32) (hb : b < 2 ^ 32) : lN a = lN b ↔ a = b := by
  rw [← Int64.toInt_inj]
  have e : ∀ x : Nat, x < 2 ^ 32 → (lN x).toInt = x := fun x hx => lg_ofNat_toInt (by omega)
  rw [e a ha, e b hb]
  omega
section AB
variable {W P p n : Nat}
theorem ab_A (hW : W < 1000) (hP : P < 2 ^ 64) (hp : p = 2 ∨ p = 3) (hn : n < 2 ^ 31) (h : 0 < lg_cmp (lN (tpN 16 W P p)) (lN n)) : nI 1 = nI (ab W P p n) := by
  have h1 := (lN_gt (tp_lt W P p hP (by omega)) (by omega)).mp ((lg_cmp_gt _ _).mp h)
  rw [ab_1 ((abv_ok 16 W P p n hP (abv_hV hW hP (by omega)) (by omega)).mp (Or.inl h1))]
theorem ab_B (hW : W < 1000) (hP : P < 2 ^ 64) (hp : p = 2 ∨ p = 3) (hn : n < 2 ^ 31) (h1 : lg_cmp (lN (tpN 16 W P p)) (lN n) = 0) (h2 : ¬ rsN (pwr 16 W P p) (4 * p) = 0) : nI 1 = nI (ab W P p n) := by
  have h3 := (lN_eq2 (tp_lt W P p hP (by omega)) (by omega)).mp ((lg_cmp_eq _ _).mp h1)
  rw [ab_1 ((abv_ok 16 W P p n hP (abv_hV hW hP (by omega)) (by omega)).mp (Or.inr ⟨h3, fun h => h2 ((rs_iff _ _).mpr h)⟩))]
theorem ab_C (hW : W < 1000) (hP : P < 2 ^ 64) (hp : p = 2 ∨ p = 3) (hn : n < 2 ^ 31) (h0 : ¬ 0 < lg_cmp (lN (tpN 16 W P p)) (lN n)) (h1 : ¬ lg_cmp (lN (tpN 16 W P p)) (lN n) = 0) : nI 0 = nI (ab W P p n) := by
  have h2 : ¬ n * 65536 ^ (4 * p) < (W * 2 ^ 64 + P) ^ p := by
    intro h
    rcases (abv_ok 16 W P p n hP (abv_hV hW hP (by omega)) (by omega)).mpr h with h | ⟨h, -⟩
    · exact h0 ((lg_cmp_gt _ _).mpr ((lN_gt (tp_lt W P p hP (by omega)) (by omega)).mpr h))
    · exact h1 ((lg_cmp_eq _ _).mpr ((lN_eq2 (tp_lt W P p hP (by omega)) (by omega)).mpr h))
  unfold ab
  rw [if_neg h2]
theorem ab_D (hW : W < 1000) (hP : P < 2 ^ 64) (hp : p = 2 ∨ p = 3) (hn : n < 2 ^ 31) (h0 : ¬ 0 < lg_cmp (lN (tpN 16 W P p)) (lN n)) (h1 : rsN (pwr 16 W P p) (4 * p) = 0) : nI 0 = nI (ab W P p n) := by
  have h2 : ¬ n * 65536 ^ (4 * p) < (W * 2 ^ 64 + P) ^ p := by
    intro h
    rcases (abv_ok 16 W P p n hP (abv_hV hW hP (by omega)) (by omega)).mpr h with h | ⟨-, h⟩
    · exact h0 ((lg_cmp_gt _ _).mpr ((lN_gt (tp_lt W P p hP (by omega)) (by omega)).mpr h))
    · exact h ((rs_iff _ _).mp h1)
  unfold ab
  rw [if_neg h2]
end AB
theorem wr4_ext {f g : Nat → Int8} {n : Nat} (h : ∀ j, j < n → f j = g j) (v : Int32) : ∀ j, j < n + 4 → wr4 f n v j = wr4 g n v j := by
  intro j hj
  unfold wr4 va_up
  by_cases c3 : j = n + 3
  · rw [if_pos c3, if_pos c3]
  · rw [if_neg c3, if_neg c3]
    by_cases c2 : j = n + 2
    · rw [if_pos c2, if_pos c2]
    · rw [if_neg c2, if_neg c2]
      by_cases c1 : j = n + 1
      · rw [if_pos c1, if_pos c1]
      · rw [if_neg c1, if_neg c1]
        by_cases c0 : j = n
        · rw [if_pos c0, if_pos c0]
        · rw [if_neg c0, if_neg c0]
          exact h j (by omega)
theorem m_feed {f g : Nat → Int8} {n : Nat} (h : ∀ j, j < n → f j = g j) (p0 p1 p2 p3 p4 : Int32) : ∀ j, j < n + 20 → app4 (app4 (app4 (app4 (app4 f n p0) (n + 4) p1) (n + 8) p2) (n + 12) p3) (n + 16) p4 j = wr4 (wr4 (wr4 (wr4 (wr4 g n p0) (n + 4) p1) (n + 8) p2) (n + 12) p3) (n + 16) p4 j := by
  rw [app_wr, app_wr, app_wr, app_wr, app_wr]
  exact wr4_ext (wr4_ext (wr4_ext (wr4_ext (wr4_ext h p0) p1) p2) p3) p4
theorem m_cpy {f g o u : Nat → Int8} {n : Nat} (h : ∀ j, j < n → f j = g j) : ∀ j, j < n → va_cpy f o 0 0 n j = va_cpy g u 0 0 n j := by
  intro j hj
  unfold va_cpy
  rw [if_pos (by omega), if_pos (by omega)]
  exact h _ (by omega)
theorem m_cpys {f g : Nat → Int8} {n : Nat} (h : ∀ j, j < n → f j = g j) : ∀ j, j < n → va_cpy f f 0 0 n j = g j := by
  intro j hj
  unfold va_cpy
  rw [if_pos (by omega), h _ (by omega), show 0 + (j - 0) = j by omega]
theorem m_resize {f g : Nat → Int8} {m : Nat} (n : Nat) (h : ∀ j, j < m → f j = g j) : ∀ j, j < n → (if m < n then fil f m n (nI 0).toInt8 else f) j = fil g m n (nI 0).toInt8 j := by
  intro j hj
  by_cases c : m < n
  · rw [if_pos c]
    unfold fil
    by_cases c2 : m ≤ j ∧ j < n
    · rw [if_pos c2, if_pos c2]
    · rw [if_neg c2, if_neg c2]
      exact h j (by omega)
  · rw [if_neg c]
    unfold fil
    rw [if_neg (by omega)]
    exact h j (by omega)
theorem x_8 (x y : Int32) : (x ^^^ y.toInt8.toInt32).toInt8 = (x ^^^ y).toInt8 := by
  rw [Int32.toInt8_xor, Int32.toInt8_xor, Int8.toInt8_toInt32]
theorem m_alter {f g : Nat → Int8} {m p : Nat} (v : Int32) (hp : p < m) (h : ∀ j, j < m → f j = g j) : ∀ j, j < m → va_up f p ((f p).toInt32 ^^^ v).toInt8 j = va_up g p ((g p).toInt32 ^^^ v.toInt8.toInt32).toInt8 j := by
  intro j hj
  rw [x_8, h p hp]
  unfold va_up
  by_cases c : j = p
  · rw [if_pos c, if_pos c]
  · rw [if_neg c, if_neg c]
    exact h j hj
theorem m_word {f g : Nat → Int8} {m : Nat} (p : Nat) (h : ∀ j, j < m → f j = g j) : it (eig f m p) 8 0 = it (wdR g m p) 8 0 := by
  rw [eig_wd]
  refine it_eq (fun k s _ => ?_) 0
  unfold wdR
  by_cases c : p + k < m
  · rw [if_pos c, if_pos c, h _ c]
  · rw [if_neg c, if_neg c]
theorem m_sm {f g f2 g2 : Nat → Int8} {n : Nat} (h : ∀ j, j < n → f j = g j) (h2 : ∀ j, j < n → f2 j = g2 j) : it (smR f f2) n (nI 1) = it (smR g g2) n (nI 1) := by
  refine it_eq (fun k s hk => ?_) _
  unfold smR
  rw [h k hk, h2 k hk]
theorem m_same {f g f2 g2 : Nat → Int8} {n m : Nat} (e : n = m) (h : ∀ j, j < n → f j = g j) (h2 : ∀ j, j < m → f2 j = g2 j) : mtC f f2 n m = it (smR g g2) n (nI 1) := by
  subst e
  unfold mtC
  rw [if_pos rfl]
  exact m_sm h h2
theorem dig_b {v : Bool} {k kk : Nat} {ro s2 s5 K : Nat → Int64} (hK : ∀ t, t < 80 → K t = s_l 8 t) (hB : ∀ i, i < 8 → s_l kk i = rl v (bgV k ro s2 s5 i)) (hr : rtN k = 16 * wbN v) {x y : Nat → Int8} (n c : Nat) (hc : c ≤ 8 * wbN v) (hx : ∀ i, i < n → x i = y i) (s s' : H4) (o u : Nat → Int8) :
    ∀ j, j < c → wrS v (hsh v kk x n s).2.2.1 o 0 c j = gvS (rtN k) (mkH k ro s2 s5 K y 0 n s').2.2.1 u 0 c j := by
  intro j hj
  have h := wr_eq (hsh_eq hK hB hr n (x := x) (y := y) (fr := 0) (fun i hi => by rw [Nat.zero_add]; exact hx i hi) s s') o u 0 c hc j (Or.inl (by omega))
  rw [hr]
  exact h
theorem dig_k {v : Bool} {k kk : Nat} {ro s2 s5 K : Nat → Int64} (hK : ∀ t, t < 80 → K t = s_l 8 t) (hB : ∀ i, i < 8 → s_l kk i = rl v (bgV k ro s2 s5 i)) (hr : rtN k = 16 * wbN v) (hb : blN k = 16 * wbN v) (hd : dgN k = 8 * wbN v) {x y r z : Nat → Int8} (n rn c : Nat) (hc : c ≤ 8 * wbN v) (hx : ∀ i, i < n → x i = y i) (hz : ∀ i, i < rn → r i = z i) (s s' : H4) (kf hk p inn inn2 o u : Nat → Int8) :
    ∀ j, j < c → wrS v (hk4 v kk r rn x n s kf p inn).2.2.1 o 0 c j = gvS (rtN k) (rFin (rtN k) K (lN (0 + blN k + dgN k)) (eM2 k ro s2 s5 K (0 + blN k + n) (rPut (rtN k) K y 0 n (rStM k ro s2 s5 K z 0 rn s' hk)) (rKeyB k ro s2 s5 K z 0 rn s' hk) inn2)).2.2.1 u 0 c j := by
  intro j hj
  have h := wr_eq (hk_eq hK hB hr hb hd n rn hx hz s s' kf hk p inn inn2) o u 0 c hc j (Or.inl (by omega))
  generalize rFin (rtN k) K (lN (0 + blN k + dgN k)) (eM2 k ro s2 s5 K (0 + blN k + n) (rPut (rtN k) K y 0 n (rStM k ro s2 s5 K z 0 rn s' hk)) (rKeyB k ro s2 s5 K z 0 rn s' hk) inn2) = Z at h ⊢
  rw [hr]
  exact h
theorem dig_s {T : Nat → Int32} {rn : Nat → Int64} (hT : ∀ j, j < 25 → T j = s_i 10 j) (hrn : ∀ i, i < 24 → rn i = s_l 9 i) {k rate : Nat} (h0 : 0 < rate) (hr2 : rate ≤ 200) (hk : rtN k = rate) {x y : Nat → Int8} (n c : Nat) (hx : ∀ i, i < n → x i = y i) (s : S3) (S o cc : Nat → Int64) (sf : Int32) (hsf : sf = if 10 < k then nI 31 else nI 6) (ob u : Nat → Int8) :
    ∀ j, j < c → (sqS rate c (abE rate sf x n s) ob).2.2.2.2 j = (gsS T rn (rtN k) 0 c (sFin T rn (rtN k) k (sPut T rn (rtN k) y 0 n (fil S 0 25 0, o, cc, 0))) u).2.2.2.2 j := by
  rw [hk]
  exact (sq_eq hT hrn h0 hr2 c _ _ (abE_eq hT hrn h0 hr2 n hx s S o cc sf hsf) ob u).2.2.2
theorem inR_01 (x lo hi : Int32) : inR x lo hi = nI 0 ∨ inR x lo hi = nI 1 := by
  unfold inR
  split
  · exact Or.inl rfl
  · split
    · exact Or.inl rfl
    · exact Or.inr rfl
theorem nI_inv {x : Int32} (h : 0 ≤ x.toInt) : x = nI x.toInt.toNat := by
  have h1 := x.toInt_lt
  apply Int32.toInt_inj.mp
  rw [nI_toInt (by omega)]
  omega
theorem inR_t {x lo hi : Int32} (h : inR x lo hi = nI 1) : ¬ x < lo ∧ ¬ hi < x := by
  unfold inR at h
  by_cases c : x < lo
  · rw [if_pos c] at h
    exact absurd h (by decide)
  · rw [if_neg c] at h
    by_cases c2 : hi < x
    · rw [if_pos c2] at h
      exact absurd h (by decide)
    · exact ⟨c, c2⟩
theorem inR_1 {x : Int32} {lo hi : Nat} (hl : lo ≤ hi) (hh : hi < 2 ^ 31) (h : inR x (nI lo) (nI hi) = nI 1) : ∃ v : Nat, x = nI v ∧ lo ≤ v ∧ v ≤ hi := by
  obtain ⟨h1, h2⟩ := inR_t h
  rw [Int32.lt_iff_toInt_lt, nI_toInt (by omega)] at h1
  rw [Int32.lt_iff_toInt_lt, nI_toInt (by omega)] at h2
  exact ⟨x.toInt.toNat, nI_inv (by omega), by omega, by omega⟩
theorem inR_p {y : Int32} {n : Nat} (hn : n ≤ 8192) (h : inR y (nI 0) (nI n - nI 1) = nI 1) : ∃ p : Nat, y = nI p ∧ p < n := by
  obtain ⟨h1, h2⟩ := inR_t h
  rw [Int32.lt_iff_toInt_lt, nI_toInt (by omega)] at h1
  rw [Int32.lt_iff_toInt_lt, pk_sub_toInt (by omega) (by omega)] at h2
  exact ⟨y.toInt.toNat, nI_inv (by omega), by omega⟩
theorem inR_c (x : Int32) {lo hi : Nat} (hl : lo ≤ hi) (hh : hi < 2 ^ 31) : inR x (nI lo) (nI hi) = nI 0 ∨ ∃ v : Nat, x = nI v ∧ lo ≤ v ∧ v ≤ hi := by
  rcases inR_01 x (nI lo) (nI hi) with h | h
  · exact Or.inl h
  · exact Or.inr (inR_1 hl hh h)
theorem inR_d (y : Int32) {n : Nat} (hn : n ≤ 8192) : inR y (nI 0) (nI n - nI 1) = nI 0 ∨ ∃ p : Nat, y = nI p ∧ p < n := by
  rcases inR_01 y (nI 0) (nI n - nI 1) with h | h
  · exact Or.inl h
  · exact Or.inr (inR_p hn h)
section GM9
variable {B : Bx} {M : Mx} {cc : ByteArray} {nL n1 n2 : Nat} {own : String} {Q : State → Prop} {ws : va_W} {lv : List (Nat × Value)} {pc : Nat} {st rest : List Value}
theorem g_newr (X : CX B M cc nL own) {index : Nat} (hlink : Cond.classLink own index "SpongeDigests$Bytes" ∈ W0) {n : Nat} (hn : n < 2 ^ 31) (hb : n * 4 ≤ 536870912) (hc : n1 + 1 ≤ (m_R M).cells) (hs : n2 + n ≤ (m_R M).slots) (hdg : decode cc pc = .ok (.anewarray index, 3))
    (kk : ∀ q : Nat, G B M nL (n1 + 1) (n2 + n) Q (ws ++ [cr B q n (fun _ => none)]) lv (pc + 3) (.ref q :: rest)) : G B M nL n1 n2 Q ws lv pc (.int (nI n) :: rest) := by
  intro H locs ls hP hD hS hl
  refine va_newq X.x X.b X.o (X.t _ hlink) X.s.2.2.2.2.2.2.2.2.1 X.k hP hD hS X.A (nI_pos hn) (nI_clamp hn) hb hc hs hdg (fun q cA H1 hK1 hP1 hD1 hS1 => ?_)
  obtain ⟨_, _, _, _, _, f4⟩ := (hK1.2 5 (cA, .object "SpongeDigests$Bytes") rfl).2
  obtain ⟨_, _, _, _, _, g4⟩ := (X.k.2 3 _ rfl).2
  have e : cA = b_c B 3 := Option.some.inj (f4.symm.trans g4)
  subst e
  exact kk q H1 locs ls hP1 hD1 hS1 hl
theorem g_rast (X : CX B M cc nL own) {a n v : Nat} {f : Nat → Option Nat} {vs : List Value} (q0 qk : Nat) (he : ws[q0]? = some (cr B a n f)) (hv : ws[qk]? = some (co v 1 vs)) (k : Nat) {i : Int32} (hi : i = nI k) (hk : k < n) (hn : n < 2 ^ 31) (hdg : decode cc pc = .ok (.aastore, 1))
    (kk : G B M nL n1 n2 Q (ws.set q0 (cr B a n (va_up f k (some v)))) lv (pc + 1) rest) : G B M nL n1 n2 Q ws lv pc (.ref v :: .int i :: .ref a :: rest) := by
  intro H locs ls hP hD hS hl
  subst hi
  refine va_astq X.x X.b X.k hP hD hS q0 3 qk 1 he rfl hv rfl (vp_in_nI hk hn) hdg (fun H1 locs1 hP1 hD1 hS1 => ?_)
  rw [nI_clamp (Nat.lt_trans hk hn)] at hP1 hD1
  exact kk H1 locs1 ls hP1 hD1 hS1 hl
end GM9
