section GE
variable {B : Bx} {M : Mx} {cc : ByteArray} {nL n1 n2 : Nat} {own : String} {Q : State → Prop} {ws : va_W} {lv : List (Nat × Value)} {pc : Nat} {st rest : List Value}
theorem g_iinc (X : CX B M cc nL own) {i : Nat} {n : Int} {x k9 : Int32} (hdg : decode cc pc = .ok (.iinc i n, 3)) (hl : lvq lv i = some (.int x)) (hv : Int32.ofInt n = k9) (hn : i < nL)
    (kk : G B M nL n1 n2 Q ws ((i, Value.int (x + k9)) :: lv.filter (fun q => !(q.1 == i) && !(q.1 + 1 == i && q.2.category == 2))) (pc + 3) rest) : G B M nL n1 n2 Q ws lv pc rest := by
  intro H locs ls hP hD hS hl0
  obtain ⟨k, hk⟩ := List.getElem?_of_mem (lvq_mem hl)
  exact lv_iinc X.x X.b hdg hl0 hk (by rw [hv]) hn rfl (fun ls' hl' => kk H locs ls' hP hD hS hl')
theorem g_lcmp (X : CX B M cc nL own) {x y : Int64} (hdg : decode cc pc = .ok (.lcmp, 1)) (k : G B M nL n1 n2 Q ws lv (pc + 1) (.int (lg_cmp x y) :: rest)) : G B M nL n1 n2 Q ws lv pc (.long y :: .long x :: rest) :=
  fun H locs ls hP hD hS hl => W.lcmp X.x X.b hdg (k H locs ls hP hD hS hl)
theorem g_mmin (X : CX B M cc nL own) {index : Nat} (hlink : Cond.methodLink own index Lib.Math.min.name ∈ W0) (hstat : Cond.static Lib.Math.min.name ∈ W0) (hini : Cond.initialized "java/lang/Math" ∈ W0) (hcode : Cond.code Lib.Math.min.name Lib.Math.min.code 2 (some .int) ∈ W0)
    (hframes : 1 ≤ (m_R M).frames) (hlocals : (rest.map fun v => v.category).sum + 13 ≤ (m_R M).locals) (hc : n1 ≤ (m_R M).cells) (hs : n2 ≤ (m_R M).slots) {x y : Int32} (hdg : decode cc pc = .ok (.invokestatic index, 3))
    (kk : G B M nL n1 n2 Q ws lv (pc + 3) (.int (if y < x then y else x) :: rest)) : G B M nL n1 n2 Q ws lv pc (.int y :: .int x :: rest) :=
  fun H locs ls hP hD hS hl => va_mmin X.x X.b (by rw [X.n]; exact hl.1.symm) X.o (X.t _ hlink) (X.t _ hstat) (X.t _ hini) (X.t _ hcode) hframes hlocals hc hs hdg (kk H locs ls hP hD hS hl)
theorem nI_nn {k : Nat} (h : k < 2 ^ 31) : ¬ nI k < 0 := nI_pos h
theorem g_copyb (X : CX B M cc nL own) {index : Nat} (hlink : Cond.methodLink own index arraycopyName ∈ W0) (hnat : Cond.native arraycopyName ∈ W0) (hstat : Cond.static arraycopyName ∈ W0) (hini : Cond.initialized "java/lang/System" ∈ W0)
    (q0 q1 : Nat) {a0 a n0 m0 : Nat} {f g : Nat → Int8} (he0 : ws[q0]? = some (cb B a0 n0 f)) (he1 : ws[q1]? = some (cb B a m0 g)) (sp dp k : Nat) {x1 x2 x3 : Int32} (h1 : x1 = nI sp) (h2 : x2 = nI dp) (h3 : x3 = nI k) (h4 : sp + k ≤ n0) (h5 : dp + k ≤ m0) (hn0 : n0 < 2 ^ 31) (hm0 : m0 < 2 ^ 31)
    (hframes : 1 ≤ (m_R M).frames) (hlocals : (rest.map fun v => v.category).sum + (nativeFrameWords "java/lang/System" "arraycopy" 5 + 11) ≤ (m_R M).locals) (hdg : decode cc pc = .ok (.invokestatic index, 3))
    (kk : G B M nL n1 n2 Q (ws.set q1 (cb B a m0 (va_cpy f g sp dp k))) lv (pc + 3) rest) : G B M nL n1 n2 Q ws lv pc (.int x3 :: .int x2 :: .ref a :: .int x1 :: .ref a0 :: rest) := by
  intro H locs ls hP hD hS hl
  subst h1 h2 h3
  have e1 := nI_clamp (n := sp) (by omega)
  have e2 := nI_clamp (n := dp) (by omega)
  have e3 := nI_clamp (n := k) (by omega)
  refine va_copyi X.x X.b (by rw [X.n]; exact hl.1.symm) X.o (X.t _ hlink) (X.t _ hnat) (X.t _ hstat) (X.t _ hini) X.k hP hD hS q0 q1 0 0 he0 he1 rfl rfl rfl (nI_pos (by omega)) (nI_pos (by omega)) (nI_pos (by omega)) (by rw [e1, e3]; exact h4) (by rw [e2, e3]; exact h5) (fun i _ => by_fits _) hframes hlocals hdg (fun H1 locs1 hP1 hD1 hS1 => ?_)
  rw [e1, e2, e3, cpy_bt] at hP1 hD1
  exact kk H1 locs1 ls hP1 hD1 hS1 hl
theorem g_copyj (X : CX B M cc nL own) {index : Nat} (hlink : Cond.methodLink own index arraycopyName ∈ W0) (hnat : Cond.native arraycopyName ∈ W0) (hstat : Cond.static arraycopyName ∈ W0) (hini : Cond.initialized "java/lang/System" ∈ W0)
    (q0 q1 : Nat) {a0 a n0 m0 : Nat} {f g : Nat → Int64} (he0 : ws[q0]? = some (cj B a0 n0 f)) (he1 : ws[q1]? = some (cj B a m0 g)) (sp dp k : Nat) {x1 x2 x3 : Int32} (h1 : x1 = nI sp) (h2 : x2 = nI dp) (h3 : x3 = nI k) (h4 : sp + k ≤ n0) (h5 : dp + k ≤ m0) (hn0 : n0 < 2 ^ 31) (hm0 : m0 < 2 ^ 31)
    (hframes : 1 ≤ (m_R M).frames) (hlocals : (rest.map fun v => v.category).sum + (nativeFrameWords "java/lang/System" "arraycopy" 5 + 11) ≤ (m_R M).locals) (hdg : decode cc pc = .ok (.invokestatic index, 3))
    (kk : G B M nL n1 n2 Q (ws.set q1 (cj B a m0 (va_cpy f g sp dp k))) lv (pc + 3) rest) : G B M nL n1 n2 Q ws lv pc (.int x3 :: .int x2 :: .ref a :: .int x1 :: .ref a0 :: rest) := by
  intro H locs ls hP hD hS hl
  subst h1 h2 h3
  have e1 := nI_clamp (n := sp) (by omega)
  have e2 := nI_clamp (n := dp) (by omega)
  have e3 := nI_clamp (n := k) (by omega)
  refine va_copyl X.x X.b (by rw [X.n]; exact hl.1.symm) X.o (X.t _ hlink) (X.t _ hnat) (X.t _ hstat) (X.t _ hini) X.k hP hD hS q0 q1 1 1 he0 he1 rfl rfl rfl (nI_pos (by omega)) (nI_pos (by omega)) (nI_pos (by omega)) (by rw [e1, e3]; exact h4) (by rw [e2, e3]; exact h5) (fun i _ => rfl) hframes hlocals hdg (fun H1 locs1 hP1 hD1 hS1 => ?_)
  rw [e1, e2, e3] at hP1 hD1
  exact kk H1 locs1 ls hP1 hD1 hS1 hl
theorem w_copyt {p : Program} {l : Launch} {e : Env} {R : Room} {s : State} {m : MethodId} {args : Array Value} {below : List Frame} {meth : Method} {c : Code} {H : Heap} {locs : List Loc} {cells slots : Nat} {Q : State → Prop} {cc : ByteArray} {pc : Nat} {ls : Array Slot} {rest : List Value} {D : va_G} {cl : List vw_C} {A : Nat → Prop} {a : Nat} {tys : List (ClassId × FieldType)} {ws : va_W}
    (hexec : p.tables.exec = Jvm.exec) (hb : c.code = cc) (hml : c.maxLocals = ls.size) {own : String} {index : Nat} (hown : s.vm.findClass own = some m.cls) (hlink : (Cond.methodLink own index arraycopyName).before args s = true) (hnat : (Cond.native arraycopyName).before args s = true) (hstat : (Cond.static arraycopyName).before args s = true) (hini : (Cond.initialized "java/lang/System").before args s = true)
    (hK : va_K D cl tys s) (hP : va_P D cl ws H) (hD : va_D A ws) (hS : va_S A s.heap H locs) {b0 n0 : Nat} {f : Nat → Int64} (hX : va_T .long b0 n0 (fun j => .long (f j)) A s s.heap) (q1 t1 : Nat) {c1 : ClassId} {n1 : Nat} {g : Nat → Int64} (ha1 : ws[q1]? = some (a, .inl (c1, n1, .inr (.inl g)))) (ht1 : tys[t1]? = some (c1, .long))
    {sp dp n : Int32} (h1 : ¬ sp < 0) (h2 : ¬ dp < 0) (h3 : ¬ n < 0) (h4 : sp.toNatClampNeg + n.toNatClampNeg ≤ n0) (h5 : dp.toNatClampNeg + n.toNatClampNeg ≤ n1)
    (hframes : 1 ≤ R.frames) (hlocals : (rest.map fun v => v.category).sum + (nativeFrameWords "java/lang/System" "arraycopy" 5 + 11) ≤ R.locals) (hdg : decode cc pc = .ok (.invokestatic index, 3))
    (kk : ∀ (H1 : Heap) (locs1 : List Loc), va_P D cl (ws.set q1 (a, .inl (c1, n1, .inr (.inl (va_cpy f g sp.toNatClampNeg dp.toNatClampNeg n.toNatClampNeg))))) H1 → va_D A (ws.set q1 (a, .inl (c1, n1, .inr (.inl (va_cpy f g sp.toNatClampNeg dp.toNatClampNeg n.toNatClampNeg))))) → va_S A s.heap H1 locs1 → W p l e R s m args below meth c H1 locs1 cells slots Q (F0 m (pc + 3) ls rest)) : W p l e R s m args below meth c H locs cells slots Q (F0 m pc ls (.int n :: .int dp :: .ref a :: .int sp :: .ref b0 :: rest)) := by
  have nn : ∀ z : Int32, ¬ z < 0 → z.toInt = (z.toNatClampNeg : Int) := by
    intro z hz
    have hz0 : (0 : Int) ≤ z.toInt := by
      have := Int32.not_lt.mp hz
      simpa using Int32.le_iff_toInt_le.mp this
    show z.toInt = ((z.toInt.toNat : Nat) : Int)
    omega
  intro T hT X
  obtain ⟨scr, hs1, hs2, hs3, hs4, -, hs5, hs7⟩ := hX
  have hc0 : H[b0]? = some scr := by rw [hS.2.1 b0 (Array.getElem?_eq_some_iff.mp hs1).1 hs7]; exact hs1
  have hc1 : H[a]? = some (vp_cell c1 (n1, .inr (.inl g))) := hP q1 _ ha1
  obtain ⟨hs6, k0, hk0, cm0, hkk0⟩ := hs2
  obtain ⟨-, k1, hk1, cm1, hkk1⟩ := (hK.2 t1 _ ht1).1 n1 (fun j => .long (g j))
  obtain ⟨vm', X', step⟩ := X.arraycopy hexec hown hlink hnat hstat hini (src := b0) (dst := a) (cs := scr) (cd := vp_cell c1 (n1, .inr (.inl g))) (srcPos := sp) (destPos := dp) (n := n) (by rw [hT]; exact hc0) (by rw [hT]; exact hc1)
    hs6 (fun _ h => by cases h) hs3 (fun h => by cases h) hk0 hk1 hkk0 hkk1 (by simp [refKind]) h1 h2 h3
    (by rw [nn sp h1, nn n h3]; omega)
    (by rw [nn dp h2, nn n h3]; show ¬ _ > ((arrV c1 n1 (fun j => .long (g j))).slots.size : Int); rw [arrV_size]; omega)
    (fun vm₁ _ i hi => by
      have e : scr.slots.getD (sp.toNatClampNeg + i) .null = .long (f (sp.toNatClampNeg + i)) := by
        rw [Array.getD_eq_getD_getElem?, hs5 _ (by omega)]
        rfl
      refine ⟨?_, ?_⟩
      · rw [e]
        rfl
      · rw [e]
        exact trivial)
    (g := F0 m pc ls (.int n :: .int dp :: .ref a :: .int sp :: .ref b0 :: rest)) rfl (by rw [hml]) (rest := rest) rfl (by rw [hb]; exact hdg) hframes (by show 2 * 0 + _ + _ ≤ _; omega)
  have e1 : copied scr (vp_cell c1 (n1, .inr (.inl g))) sp dp n = vp_cell c1 (n1, .inr (.inl (va_cpy f g sp.toNatClampNeg dp.toNatClampNeg n.toNatClampNeg))) := va_copiedX (fun z => .long z) scr c1 f g hs5 h4
  rw [e1] at X' step
  have hl : a < H.size := (Array.getElem?_eq_some_iff.mp hc1).1
  have hheap : ((T.setVm vm').setCell a (vp_cell c1 (n1, .inr (.inl (va_cpy f g sp.toNatClampNeg dp.toNatClampNeg n.toNatClampNeg))))).heap = H.setIfInBounds a (vp_cell c1 (n1, .inr (.inl (va_cpy f g sp.toNatClampNeg dp.toNatClampNeg n.toNatClampNeg)))) := by rw [← hT]; rfl
  have oq : ∀ q : Nat, q ≠ a → (H.setIfInBounds a (vp_cell c1 (n1, .inr (.inl (va_cpy f g sp.toNatClampNeg dp.toNatClampNeg n.toNatClampNeg)))))[q]? = H[q]? := fun q hq => by simp [Array.getElem?_setIfInBounds, Ne.symm hq]
  obtain ⟨t, a1, b1⟩ := kk _ _ (hP.set hD ha1 (show (H.setIfInBounds a _)[a]? = some _ by simp [Array.getElem?_setIfInBounds, hl]) oq) (hD.set ha1) ⟨by simp; exact hS.1, fun q g1 g2 => by
      rw [oq q (fun e => g2 (by rw [e]; exact hD.2 q1 _ ha1))]
      exact hS.2.1 q g1 g2, fun q hq => by
      rcases List.mem_append.mp hq with h | h
      · exact hS.2.2 q h
      · obtain ⟨z, -, hz⟩ := List.mem_map.mp h
        rw [← hz]
        exact hD.2 q1 _ ha1⟩ _ hheap X'
  exact ⟨t, step t a1, b1⟩
theorem g_copyt (X : CX B M cc nL own) {index : Nat} (hlink : Cond.methodLink own index arraycopyName ∈ W0) (hnat : Cond.native arraycopyName ∈ W0) (hstat : Cond.static arraycopyName ∈ W0) (hini : Cond.initialized "java/lang/System" ∈ W0)
    (k0 : Nat) (hk0 : k0 < 12) (hty : s_ty k0 = .long) (q1 : Nat) {a m0 : Nat} {g : Nat → Int64} (he1 : ws[q1]? = some (cj B a m0 g)) (sp dp k : Nat) {x1 x2 x3 : Int32} (h1 : x1 = nI sp) (h2 : x2 = nI dp) (h3 : x3 = nI k) (h4 : sp + k ≤ s_N k0) (h5 : dp + k ≤ m0) (hm0 : m0 < 2 ^ 31)
    (hframes : 1 ≤ (m_R M).frames) (hlocals : (rest.map fun v => v.category).sum + (nativeFrameWords "java/lang/System" "arraycopy" 5 + 11) ≤ (m_R M).locals) (hdg : decode cc pc = .ok (.invokestatic index, 3))
    (kk : G B M nL n1 n2 Q (ws.set q1 (cj B a m0 (va_cpy (s_l k0) g sp dp k))) lv (pc + 3) rest) : G B M nL n1 n2 Q ws lv pc (.int x3 :: .int x2 :: .ref a :: .int x1 :: .ref (b_t B k0) :: rest) := by
  intro H locs ls hP hD hS hl
  subst h1 h2 h3
  have hn0 := s_N_lt k0 hk0
  have e1 := nI_clamp (n := sp) (by omega)
  have e2 := nI_clamp (n := dp) (by omega)
  have e3 := nI_clamp (n := k) (by omega)
  have hT := X.T k0 hk0
  rw [hty, show s_f k0 = (fun j => .long (s_l k0 j)) from funext (s_fl hty)] at hT
  refine w_copyt X.x X.b (by rw [X.n]; exact hl.1.symm) X.o (X.t _ hlink) (X.t _ hnat) (X.t _ hstat) (X.t _ hini) X.k hP hD hS hT q1 1 he1 rfl (nI_pos (by omega)) (nI_pos (by omega)) (nI_pos (by omega)) (by rw [e1, e3]; exact h4) (by rw [e2, e3]; exact h5) hframes hlocals hdg (fun H1 locs1 hP1 hD1 hS1 => ?_)
  rw [e1, e2, e3] at hP1 hD1
  exact kk H1 locs1 ls hP1 hD1 hS1 hl
theorem g_objinit (X : CX B M cc nL own) {idx a : Nat} (hlink : Cond.methodLink own idx Lib.objectInit ∈ W0) (hinst : Cond.instanceMethod Lib.objectInit ∈ W0) (hcode : Cond.code Lib.objectInit ⟨#[0xb1]⟩ 1 none ∈ W0) (hframes : 1 ≤ (m_R M).frames) (hlocals : (rest.map fun v => v.category).sum + 12 ≤ (m_R M).locals) (hdg : decode cc pc = .ok (.invokespecial idx, 3))
    (kk : G B M nL n1 n2 Q ws lv (pc + 3) rest) : G B M nL n1 n2 Q ws lv pc (.ref a :: rest) :=
  fun H locs ls hP hD hS hl => W.objInit X.x X.b X.o (X.t _ hlink) (X.t _ hinst) (X.t _ hcode) rfl (by rw [X.n]; exact hl.1) rfl hdg hframes (by show 2 * 0 + _ + 12 ≤ _; omega) (kk H locs ls hP hD hS hl)
end GE
def it {σ : Type} (F : Nat → σ → σ) : Nat → σ → σ
  | 0, s => s
  | k + 1, s => F k (it F k s)
theorem loopI {σ : Type} (F : Nat → σ → σ) (J : Nat → σ → Prop) (P : Nat → σ → Prop) (n : Nat) (s0 : σ) (h0 : J 0 s0) (hJ : ∀ (k : Nat) (s : σ), k < n → J k s → J (k + 1) (F k s))
    (hs : ∀ (k : Nat) (s : σ), k < n → J k s → (∀ t : σ, t = F k s → P (k + 1) t) → P k s) (he : J n (it F n s0) → P n (it F n s0)) : P 0 s0 := by
  have hall : ∀ k, k ≤ n → J k (it F k s0) := by
    intro k
    induction k with
    | zero => exact fun _ => h0
    | succ k ih => exact fun h => hJ k _ (by omega) (ih (by omega))
  have hdn : ∀ j k, k + j = n → P k (it F k s0) := by
    intro j
    induction j with
    | zero => intro k hk; have : k = n := by omega
              subst this; exact he (hall _ (Nat.le_refl _))
    | succ j ih => intro k hk; exact hs k _ (by omega) (hall k (by omega)) (fun t ht => by subst ht; exact ih (k + 1) (by omega))
  exact hdn n 0 (by omega)
theorem loopF {σ : Type} (F : Nat → σ → σ) (P : Nat → σ → Prop) (n : Nat) (s0 : σ) (hs : ∀ (k : Nat) (s : σ), k < n → (∀ t : σ, t = F k s → P (k + 1) t) → P k s) (he : P n (it F n s0)) : P 0 s0 :=
  loopI F (fun _ _ => True) P n s0 trivial (fun _ _ _ _ => trivial) (fun k s hk _ kk => hs k s hk kk) (fun _ => he)
theorem loopK (P : Nat → Prop) (n : Nat) (hs : ∀ k : Nat, k < n → P (k + 1) → P k) (he : P n) : P 0 := by
  have hdn : ∀ j k, k + j = n → P k := by
    intro j
    induction j with
    | zero => intro k hk; have : k = n := by omega
              subst this; exact he
    | succ j ih => intro k hk; exact hs k (by omega) (ih (k + 1) (by omega))
  exact hdn n 0 (by omega)
theorem mul_lt {k r w n : Nat} (hk : k < n) (hr : r < w) : k * w + r < n * w := by
  have h1 : (k + 1) * w ≤ n * w := Nat.mul_le_mul_right _ hk
  rw [Nat.succ_mul] at h1
  omega
abbrev Rm (d c s : Nat) : Room := { frames := d, cells := c, slots := s, locals := 100 * d }
def ush (x y : Int32) : Int32 := (x.toUInt32 >>> (y.toUInt32 &&& Int32.toUInt32 31)).toInt32
def lush (x : Int64) (y : Int32) : Int64 := (x.toUInt64 >>> (y.toInt64.toUInt64 &&& Int64.toUInt64 63)).toInt64
def lshl (x : Int64) (y : Int32) : Int64 := x <<< (y.toInt64 &&& 63)
def lshr (x : Int64) (y : Int32) : Int64 := x >>> (y.toInt64 &&& 63)
section GN
variable {B : Bx} {M : Mx} {cc : ByteArray} {nL n1 n2 : Nat} {own : String} {Q : State → Prop} {ws : va_W} {lv : List (Nat × Value)} {pc : Nat} {st rest : List Value}
theorem g_wsq (ws' : va_W) (h : ws = ws') (k : G B M nL n1 n2 Q ws' lv pc st) : G B M nL n1 n2 Q ws lv pc st := h ▸ k
theorem g_lve (lv' : List (Nat × Value)) (h : lv = lv') (k : G B M nL n1 n2 Q ws lv' pc st) : G B M nL n1 n2 Q ws lv pc st := h ▸ k
theorem g_iaddN (X : CX B M cc nL own) {a b : Nat} (c : Nat) (hc : a + b = c) (hdg : decode cc pc = .ok (.iadd, 1)) (k : G B M nL n1 n2 Q ws lv (pc + 1) (.int (nI c) :: rest)) : G B M nL n1 n2 Q ws lv pc (.int (nI b) :: .int (nI a) :: rest) := g_iadd X hdg (by rw [nI_add, hc]; exact k)
theorem g_isubN (X : CX B M cc nL own) {a b : Nat} (c : Nat) (hc : c + b = a) (hdg : decode cc pc = .ok (.isub, 1)) (k : G B M nL n1 n2 Q ws lv (pc + 1) (.int (nI c) :: rest)) : G B M nL n1 n2 Q ws lv pc (.int (nI b) :: .int (nI a) :: rest) := g_isub X hdg (by rw [pk_sub (by omega), show a - b = c by omega]; exact k)
theorem g_imulN (X : CX B M cc nL own) {a b : Nat} (c : Nat) (hc : a * b = c) (hdg : decode cc pc = .ok (.imul, 1)) (k : G B M nL n1 n2 Q ws lv (pc + 1) (.int (nI c) :: rest)) : G B M nL n1 n2 Q ws lv pc (.int (nI b) :: .int (nI a) :: rest) := g_imul X hdg (by rw [pk_mul, hc]; exact k)
theorem g_idivN (X : CX B M cc nL own) {a b : Nat} (c : Nat) (ha : a < 2 ^ 31) (h0 : 0 < b) (hb : b < 2 ^ 31) (hc : a / b = c) (hdg : decode cc pc = .ok (.idiv, 1)) (k : G B M nL n1 n2 Q ws lv (pc + 1) (.int (nI c) :: rest)) : G B M nL n1 n2 Q ws lv pc (.int (nI b) :: .int (nI a) :: rest) := g_idiv X hdg (nI_ne0 h0 hb) (by rw [pk_div ha h0 hb, hc]; exact k)
theorem g_iremN (X : CX B M cc nL own) {a b : Nat} (c : Nat) (ha : a < 2 ^ 31) (h0 : 0 < b) (hb : b < 2 ^ 31) (hc : a % b = c) (hdg : decode cc pc = .ok (.irem, 1)) (k : G B M nL n1 n2 Q ws lv (pc + 1) (.int (nI c) :: rest)) : G B M nL n1 n2 Q ws lv pc (.int (nI b) :: .int (nI a) :: rest) := g_irem X hdg (nI_ne0 h0 hb) (by rw [pk_rem ha h0 hb, hc]; exact k)
theorem g_ishrN (X : CX B M cc nL own) {a b : Nat} (k9 c : Nat) (hs : ((nI b &&& 31).toBitVec.smod 32).toNat = k9) (ha : a < 2 ^ 31) (hc : a / 2 ^ k9 = c) (hdg : decode cc pc = .ok (.ishr, 1)) (k : G B M nL n1 n2 Q ws lv (pc + 1) (.int (nI c) :: rest)) : G B M nL n1 n2 Q ws lv pc (.int (nI b) :: .int (nI a) :: rest) := g_ishr X hdg (by rw [pk_shrN ha _ k9 hs, hc]; exact k)
theorem g_iandN (X : CX B M cc nL own) {a b : Nat} (k9 c : Nat) (hs : (nI b).toBitVec.toNat = 2 ^ k9 - 1) (ha : a < 2 ^ 32) (hc : a % 2 ^ k9 = c) (hdg : decode cc pc = .ok (.iand, 1)) (k : G B M nL n1 n2 Q ws lv (pc + 1) (.int (nI c) :: rest)) : G B M nL n1 n2 Q ws lv pc (.int (nI b) :: .int (nI a) :: rest) := g_iand X hdg (by rw [pk_andN ha k9 hs, hc]; exact k)
theorem g_iincN (X : CX B M cc nL own) {i : Nat} {n : Int} {a : Nat} (c : Nat) (hdg : decode cc pc = .ok (.iinc i n, 3)) (hl : lvq lv i = some (.int (nI a))) (d : Nat) (hv : n = (d : Int)) (hc : a + d = c) (hn : i < nL)
    (kk : G B M nL n1 n2 Q ws ((i, Value.int (nI c)) :: lv.filter (fun q => !(q.1 == i) && !(q.1 + 1 == i && q.2.category == 2))) (pc + 3) rest) : G B M nL n1 n2 Q ws lv pc rest :=
  g_iinc (k9 := nI d) X hdg hl (by subst hv; exact Int32.ofInt_eq_ofNat) hn (by rw [nI_add, hc]; exact kk)
theorem g_iincD (X : CX B M cc nL own) {i : Nat} {n : Int} {a : Nat} (c : Nat) (hdg : decode cc pc = .ok (.iinc i n, 3)) (hl : lvq lv i = some (.int (nI a))) (d : Nat) (hv : n = -(d : Int)) (hc : c + d = a) (hn : i < nL)
    (kk : G B M nL n1 n2 Q ws ((i, Value.int (nI c)) :: lv.filter (fun q => !(q.1 == i) && !(q.1 + 1 == i && q.2.category == 2))) (pc + 3) rest) : G B M nL n1 n2 Q ws lv pc rest :=
  g_iinc (k9 := -nI d) X hdg hl (by subst hv; rw [Int32.ofInt_neg]; rfl) hn (by rw [show nI a + -nI d = nI c by rw [← Int32.sub_eq_add_neg, pk_sub (by omega)]; congr 1; omega]; exact kk)
theorem g_bastB (X : CX B M cc nL own) {a n : Nat} {g : Nat → Int8} (q0 : Nat) (he : ws[q0]? = some (cb B a n g)) (k : Nat) {i : Int32} {t : Int8} (hi : i = nI k) (hk : k < n) (hn : n < 2 ^ 31) (hdg : decode cc pc = .ok (.bastore, 1))
    (kk : G B M nL n1 n2 Q (ws.set q0 (cb B a n (va_up g k t))) lv (pc + 1) rest) : G B M nL n1 n2 Q ws lv pc (.int t.toInt32 :: .int i :: .ref a :: rest) := g_bast X q0 he k hi hk hn hdg (by rw [Int8.toInt8_toInt32]; exact kk)
theorem g_icmp_eqN (X : CX B M cc nL own) {a b : Nat} {off : Int} {tgt : Nat} (hdg : decode cc pc = .ok (.if_icmp .eq off, 3)) (ht : (pc : Int) + off = (tgt : Int)) (ha : a < 2 ^ 31) (hb : b < 2 ^ 31) (kt : a = b → G B M nL n1 n2 Q ws lv tgt rest) (kf : a ≠ b → G B M nL n1 n2 Q ws lv (pc + 3) rest) : G B M nL n1 n2 Q ws lv pc (.int (nI b) :: .int (nI a) :: rest) :=
  g_icmp_eq X hdg ht (fun h => kt ((nI_eq ha hb).mp h)) (fun h => kf (fun h2 => h ((nI_eq ha hb).mpr h2)))
theorem g_icmp_neN (X : CX B M cc nL own) {a b : Nat} {off : Int} {tgt : Nat} (hdg : decode cc pc = .ok (.if_icmp .ne off, 3)) (ht : (pc : Int) + off = (tgt : Int)) (ha : a < 2 ^ 31) (hb : b < 2 ^ 31) (kt : a ≠ b → G B M nL n1 n2 Q ws lv tgt rest) (kf : a = b → G B M nL n1 n2 Q ws lv (pc + 3) rest) : G B M nL n1 n2 Q ws lv pc (.int (nI b) :: .int (nI a) :: rest) :=
  g_icmp_ne X hdg ht (fun h => kt (fun h2 => h ((nI_eq ha hb).mpr h2))) (fun h => kf ((nI_eq ha hb).mp h))
theorem g_icmp_ltN (X : CX B M cc nL own) {a b : Nat} {off : Int} {tgt : Nat} (hdg : decode cc pc = .ok (.if_icmp .lt off, 3)) (ht : (pc : Int) + off = (tgt : Int)) (ha : a < 2 ^ 31) (hb : b < 2 ^ 31) (kt : a < b → G B M nL n1 n2 Q ws lv tgt rest) (kf : b ≤ a → G B M nL n1 n2 Q ws lv (pc + 3) rest) : G B M nL n1 n2 Q ws lv pc (.int (nI b) :: .int (nI a) :: rest) :=
  g_icmp_lt X hdg ht (fun h => kt ((nI_ltI ha hb).mp h)) (fun h => kf (Nat.le_of_not_lt (fun h2 => h ((nI_ltI ha hb).mpr h2))))
theorem g_icmp_geN (X : CX B M cc nL own) {a b : Nat} {off : Int} {tgt : Nat} (hdg : decode cc pc = .ok (.if_icmp .ge off, 3)) (ht : (pc : Int) + off = (tgt : Int)) (ha : a < 2 ^ 31) (hb : b < 2 ^ 31) (kt : b ≤ a → G B M nL n1 n2 Q ws lv tgt rest) (kf : a < b → G B M nL n1 n2 Q ws lv (pc + 3) rest) : G B M nL n1 n2 Q ws lv pc (.int (nI b) :: .int (nI a) :: rest) :=
  g_icmp_ge X hdg ht (fun h => kt ((nI_leI hb ha).mp h)) (fun h => kf (Nat.lt_of_not_le (fun h2 => h ((nI_leI hb ha).mpr h2))))
theorem g_icmp_gtN (X : CX B M cc nL own) {a b : Nat} {off : Int} {tgt : Nat} (hdg : decode cc pc = .ok (.if_icmp .gt off, 3)) (ht : (pc : Int) + off = (tgt : Int)) (ha : a < 2 ^ 31) (hb : b < 2 ^ 31) (kt : b < a → G B M nL n1 n2 Q ws lv tgt rest) (kf : a ≤ b → G B M nL n1 n2 Q ws lv (pc + 3) rest) : G B M nL n1 n2 Q ws lv pc (.int (nI b) :: .int (nI a) :: rest) :=
  g_icmp_gt X hdg ht (fun h => kt ((nI_ltI hb ha).mp h)) (fun h => kf (Nat.le_of_not_lt (fun h2 => h ((nI_ltI hb ha).mpr h2))))
theorem g_icmp_leN (X : CX B M cc nL own) {a b : Nat} {off : Int} {tgt : Nat} (hdg : decode cc pc = .ok (.if_icmp .le off, 3)) (ht : (pc : Int) + off = (tgt : Int)) (ha : a < 2 ^ 31) (hb : b < 2 ^ 31) (kt : a ≤ b → G B M nL n1 n2 Q ws lv tgt rest) (kf : b < a → G B M nL n1 n2 Q ws lv (pc + 3) rest) : G B M nL n1 n2 Q ws lv pc (.int (nI b) :: .int (nI a) :: rest) :=
  g_icmp_le X hdg ht (fun h => kt ((nI_leI ha hb).mp h)) (fun h => kf (Nat.lt_of_not_le (fun h2 => h ((nI_leI ha hb).mpr h2))))
theorem g_if_eqN (X : CX B M cc nL own) {a : Nat} {off : Int} {tgt : Nat} (hdg : decode cc pc = .ok (.ifCond .eq off, 3)) (ht : (pc : Int) + off = (tgt : Int)) (ha : a < 2 ^ 31) (kt : a = 0 → G B M nL n1 n2 Q ws lv tgt rest) (kf : 0 < a → G B M nL n1 n2 Q ws lv (pc + 3) rest) : G B M nL n1 n2 Q ws lv pc (.int (nI a) :: rest) :=
  g_if_eq X hdg ht (fun h => kt ((nI_eq ha (by omega)).mp (h.trans nI_0.symm))) (fun h => kf (Nat.pos_of_ne_zero (fun h2 => h (by rw [h2]; exact nI_0))))
theorem g_if_neN (X : CX B M cc nL own) {a : Nat} {off : Int} {tgt : Nat} (hdg : decode cc pc = .ok (.ifCond .ne off, 3)) (ht : (pc : Int) + off = (tgt : Int)) (ha : a < 2 ^ 31) (kt : 0 < a → G B M nL n1 n2 Q ws lv tgt rest) (kf : a = 0 → G B M nL n1 n2 Q ws lv (pc + 3) rest) : G B M nL n1 n2 Q ws lv pc (.int (nI a) :: rest) :=
  g_if_ne X hdg ht (fun h => kt (Nat.pos_of_ne_zero (fun h2 => h (by rw [h2]; exact nI_0)))) (fun h => kf ((nI_eq ha (by omega)).mp (h.trans nI_0.symm)))
theorem g_if_gtN (X : CX B M cc nL own) {a : Nat} {off : Int} {tgt : Nat} (hdg : decode cc pc = .ok (.ifCond .gt off, 3)) (ht : (pc : Int) + off = (tgt : Int)) (ha : a < 2 ^ 31) (kt : 0 < a → G B M nL n1 n2 Q ws lv tgt rest) (kf : a = 0 → G B M nL n1 n2 Q ws lv (pc + 3) rest) : G B M nL n1 n2 Q ws lv pc (.int (nI a) :: rest) :=
  g_if_gt X hdg ht (fun h => kt (by rw [← nI_0] at h; exact (nI_ltI (by omega) ha).mp h)) (fun h => kf (Nat.eq_zero_of_not_pos (fun h2 => h (by rw [← nI_0]; exact (nI_ltI (by omega) ha).mpr h2))))
theorem g_if_leN (X : CX B M cc nL own) {a : Nat} {off : Int} {tgt : Nat} (hdg : decode cc pc = .ok (.ifCond .le off, 3)) (ht : (pc : Int) + off = (tgt : Int)) (ha : a < 2 ^ 31) (kt : a = 0 → G B M nL n1 n2 Q ws lv tgt rest) (kf : 0 < a → G B M nL n1 n2 Q ws lv (pc + 3) rest) : G B M nL n1 n2 Q ws lv pc (.int (nI a) :: rest) :=
  g_if_le X hdg ht (fun h => kt (Nat.le_zero.mp (by rw [← nI_0] at h; exact (nI_leI ha (by omega)).mp h))) (fun h => kf (Nat.pos_of_ne_zero (fun h2 => h (by rw [h2, nI_0]; exact Int32.le_refl _))))
theorem g_if_ltN (X : CX B M cc nL own) {a : Nat} {off : Int} {tgt : Nat} (hdg : decode cc pc = .ok (.ifCond .lt off, 3)) (ht : (pc : Int) + off = (tgt : Int)) (ha : a < 2 ^ 31) (kf : G B M nL n1 n2 Q ws lv (pc + 3) rest) : G B M nL n1 n2 Q ws lv pc (.int (nI a) :: rest) :=
  g_if_lt X hdg ht (fun h => absurd h (nI_pos ha)) (fun _ => kf)
theorem g_if_geN (X : CX B M cc nL own) {a : Nat} {off : Int} {tgt : Nat} (hdg : decode cc pc = .ok (.ifCond .ge off, 3)) (ht : (pc : Int) + off = (tgt : Int)) (ha : a < 2 ^ 31) (kt : G B M nL n1 n2 Q ws lv tgt rest) : G B M nL n1 n2 Q ws lv pc (.int (nI a) :: rest) :=
  g_if_ge X hdg ht (fun _ => kt) (fun h => absurd (nI_pos' ha) h)
end GN
