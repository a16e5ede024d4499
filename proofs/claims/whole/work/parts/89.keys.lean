theorem keyB_eq {v : Bool} {k kk : Nat} {ro s2 s5 K : Nat → Int64} (hK : ∀ t, t < 80 → K t = s_l 8 t) (hB : ∀ i, i < 8 → s_l kk i = rl v (bgV k ro s2 s5 i)) (hr : rtN k = 16 * wbN v) (hb : blN k = 16 * wbN v) (hd : dgN k = 8 * wbN v) {x y : Nat → Int8} {fr : Nat} (n : Nat) (hx : ∀ i, i < n → x i = y (fr + i)) (s s' : H4) (kf hk : Nat → Int8) : ∀ j, j < 128 → keyB v kk x n s kf j = rKeyB k ro s2 s5 K y fr n s' hk j := by
  intro j hj
  have hf : fil kf 0 128 (nI 0).toInt8 j = fil hk 0 128 (nI 0).toInt8 j := by
    unfold fil
    rw [if_pos (by omega), if_pos (by omega)]
  unfold keyB rKeyB
  rw [hb, hd]
  by_cases c : 16 * wbN v < n
  · rw [if_pos c, if_pos c, hr]
    exact wr_eq (hsh_eq hK hB hr n hx s s') _ _ _ _ (Nat.le_refl _) j (Or.inr hf)
  · rw [if_neg c, if_neg c]
    unfold va_cpy
    by_cases c2 : 0 ≤ j ∧ j < 0 + n
    · rw [if_pos c2, if_pos c2, Nat.zero_add]
      exact hx _ (by omega)
    · rw [if_neg c2, if_neg c2]
      exact hf
theorem pad_at (kf : Nat → Int8) (pad : Int32) (p : Nat → Int8) (n : Nat) : ∀ j, j < n → it (padF kf pad) n p j = ((kf j).toInt32 ^^^ pad).toInt8 := by
  induction n with
  | zero => exact fun j hj => absurd hj (by omega)
  | succ n ih =>
    intro j hj
    show va_up (it (padF kf pad) n p) n ((kf n).toInt32 ^^^ pad).toInt8 j = _
    unfold va_up
    by_cases c : j = n
    · rw [if_pos c, c]
    · rw [if_neg c]
      exact ih j (by omega)
theorem RH.pad {v : Bool} {k kk : Nat} {ro s2 s5 K : Nat → Int64} (hK : ∀ t, t < 80 → K t = s_l 8 t) (hB : ∀ i, i < 8 → s_l kk i = rl v (bgV k ro s2 s5 i)) (hr : rtN k = 16 * wbN v) (hb : blN k = 16 * wbN v) (kf hk : Nat → Int8) (hq : ∀ j, j < 128 → kf j = hk j) (pad : Int32) (p : Nat → Int8) (s s' : H4) : RH v (bwk v kk kf pad p s) (rPadS k ro s2 s5 K hk pad s') := by
  have hv := vf v
  unfold bwk rPadS hbS
  rw [hb, hr]
  have key : ∀ n, n ≤ 16 * wbN v → RH v (it (hbF v (padS v kf pad p) 0) n (hbeg kk s)) (it (rPad (16 * wbN v) K hk pad) n (rBeg k ro s2 s5 s')) := by
    intro n
    induction n with
    | zero => exact fun _ => RH.beg hB s s'
    | succ n ih =>
      intro hn
      refine RH.put hK (ih (by omega)) ?_
      rw [Nat.zero_add]
      unfold padS
      rw [pad_at kf pad p _ n (by omega), hq n (by omega)]
  exact key _ (Nat.le_refl _)
theorem hk_eq {v : Bool} {k kk : Nat} {ro s2 s5 K : Nat → Int64} (hK : ∀ t, t < 80 → K t = s_l 8 t) (hB : ∀ i, i < 8 → s_l kk i = rl v (bgV k ro s2 s5 i)) (hr : rtN k = 16 * wbN v) (hb : blN k = 16 * wbN v) (hd : dgN k = 8 * wbN v) {x y r z : Nat → Int8} (n rn : Nat) (hx : ∀ i, i < n → x i = y i) (hz : ∀ i, i < rn → r i = z i) (s s' : H4) (kf hk p inn inn2 : Nat → Int8) :
    ∀ i, i < 8 → (hk4 v kk r rn x n s kf p inn).2.2.1 i = rl v ((rFin (rtN k) K (lN (0 + blN k + dgN k)) (eM2 k ro s2 s5 K (0 + blN k + n) (rPut (rtN k) K y 0 n (rStM k ro s2 s5 K z 0 rn s' hk)) (rKeyB k ro s2 s5 K z 0 rn s' hk) inn2)).2.2.1 i) := by
  have hq := keyB_eq hK hB hr hb hd rn (x := r) (y := z) (fr := 0) (fun i hi => by rw [Nat.zero_add]; exact hz i hi) s s' kf hk
  have a1 : RH v (hk1 v kk r rn x n s kf p) (rPut (rtN k) K y 0 n (rStM k ro s2 s5 K z 0 rn s' hk)) := by
    rw [hr]
    exact RH.puts hK (RH.pad hK hB hr hb _ _ hq (nI 54) p _ _) n (fun i hi => by rw [Nat.zero_add]; exact hx i hi)
  have a2 : ∀ i, i < 8 → (hk2 v kk r rn x n s kf p).2.2.1 i = rl v ((rFin (rtN k) K (lN (0 + blN k + n)) (rPut (rtN k) K y 0 n (rStM k ro s2 s5 K z 0 rn s' hk))).2.2.1 i) := by
    rw [hb]
    unfold hk2
    have := RH.fin hK a1 (lN (0 + 16 * wbN v + n))
    rw [← hr] at this
    rw [← hr]
    exact this
  have a3 : ∀ j, j < 8 * wbN v → hkI v kk r rn x n s kf p inn j = eM1 k K (0 + blN k + n) (rPut (rtN k) K y 0 n (rStM k ro s2 s5 K z 0 rn s' hk)) inn2 j := by
    intro j hj
    unfold hkI eM1
    rw [hd]
    have := wr_eq a2 inn inn2 0 (8 * wbN v) (Nat.le_refl _) j (Or.inl (by omega))
    rw [← hr] at this
    exact this
  have a4 : RH v (hk3 v kk r rn x n s kf p inn) (eM2 k ro s2 s5 K (0 + blN k + n) (rPut (rtN k) K y 0 n (rStM k ro s2 s5 K z 0 rn s' hk)) (rKeyB k ro s2 s5 K z 0 rn s' hk) inn2) := by
    unfold hk3 eM2
    have := RH.puts hK (RH.pad hK hB hr hb _ _ hq (nI 92) (padS v (keyB v kk r rn s kf) (nI 54) p) (hk2 v kk r rn x n s kf p) (rFin (rtN k) K (lN (0 + blN k + n)) (rPut (rtN k) K y 0 n (rStM k ro s2 s5 K z 0 rn s' hk)))) (x := hkI v kk r rn x n s kf p inn) (y := eM1 k K (0 + blN k + n) (rPut (rtN k) K y 0 n (rStM k ro s2 s5 K z 0 rn s' hk)) inn2) (fr := 0) (fr2 := 0) (8 * wbN v) (fun i hi => by rw [Nat.zero_add]; exact a3 i hi)
    rw [← hr] at this
    rw [hd]
    exact this
  have a5 := RH.fin hK a4 (lN (0 + 16 * wbN v + 8 * wbN v))
  unfold hk4
  rw [hb, hd, hr]
  rw [hb, hr] at a5
  exact a5
theorem hbF_fl (v : Bool) (x : Nat → Int8) (fr i : Nat) (s : H4) (h : s.2.1 < 16 * wbN v) : (hbF v x fr i s).2.1 = (s.2.1 + 1) % (16 * wbN v) := by
  unfold hbF
  by_cases c : s.2.1 + 1 = 16 * wbN v
  · rw [if_pos c, c, Nat.mod_self]
  · rw [if_neg c, Nat.mod_eq_of_lt (by omega)]
theorem hbS_fl (v : Bool) (x : Nat → Int8) (fr n : Nat) (s : H4) (h : s.2.1 < 16 * wbN v) : (hbS v x fr n s).2.1 = (s.2.1 + n) % (16 * wbN v) := by
  induction n with
  | zero => exact (Nat.mod_eq_of_lt h).symm
  | succ n ih =>
    have h2 := hbS_lt v x fr n h
    have e : (hbS v x fr (n + 1) s).2.1 = ((hbS v x fr n s).2.1 + 1) % (16 * wbN v) := hbF_fl v x fr n _ h2
    rw [e, ih, Nat.mod_add_mod]
    rfl
theorem cnt8 (i k : Nat) (hi : i < 2 ^ 31) (hk : k ≤ 24) : (ush (nI i) (nI k)).toInt8 = (nI (i / 2 ^ k)).toInt8 := by
  congr 1
  apply Int32.toBitVec_inj.mp
  rw [ush_bv _ k (by omega)]
  apply BitVec.eq_of_toNat_eq
  have e1 : (nI i).toBitVec.toNat = i := by
    show (BitVec.ofNat 32 i).toNat = i
    rw [BitVec.toNat_ofNat, Nat.mod_eq_of_lt (by omega)]
  have h2 : i / 2 ^ k ≤ i := Nat.div_le_self _ _
  have e2 : (nI (i / 2 ^ k)).toBitVec.toNat = i / 2 ^ k := by
    show (BitVec.ofNat 32 (i / 2 ^ k)).toNat = _
    rw [BitVec.toNat_ofNat, Nat.mod_eq_of_lt (by omega)]
  rw [BitVec.toNat_ushiftRight, e1, e2, Nat.shiftRight_eq_div_pow]
theorem ctr_at (g : Nat → Int8) (m : Nat) : ctr4 g m 0 = (ush (nI m) (nI 24)).toInt8 ∧ ctr4 g m 1 = (ush (nI m) (nI 16)).toInt8 ∧ ctr4 g m 2 = (ush (nI m) (nI 8)).toInt8 ∧ ctr4 g m 3 = (ush (nI m) (nI 0)).toInt8 := by
  unfold ctr4 va_up
  exact ⟨rfl, rfl, rfl, rfl⟩
theorem RH.ctr {v : Bool} {s s2 : H4} {K : Nat → Int64} (hK : ∀ t, t < 80 → K t = s_l 8 t) (h : RH v s s2) (g : Nat → Int8) (m : Nat) (hm : m < 2 ^ 31) : RH v (hbS v (ctr4 g m) 0 4 s) (ptB (16 * wbN v) K (ptB (16 * wbN v) K (ptB (16 * wbN v) K (ptB (16 * wbN v) K s2 (nI (m / 16777216))) (nI (m / 65536))) (nI (m / 256))) (nI (m / 1))) := by
  obtain ⟨c0, c1, c2, c3⟩ := ctr_at g m
  have e0 := cnt8 m 24 hm (by omega)
  have e1 := cnt8 m 16 hm (by omega)
  have e2 := cnt8 m 8 hm (by omega)
  have e3 := cnt8 m 0 hm (by omega)
  have b1 := RH.put hK h (b := ctr4 g m (0 + 0)) (b2 := nI (m / 16777216)) (by rw [show 0 + 0 = 0 from rfl, c0, e0])
  have b2 := RH.put hK b1 (b := ctr4 g m (0 + 1)) (b2 := nI (m / 65536)) (by rw [show 0 + 1 = 1 from rfl, c1, e1])
  have b3 := RH.put hK b2 (b := ctr4 g m (0 + 2)) (b2 := nI (m / 256)) (by rw [show 0 + 2 = 2 from rfl, c2, e2])
  exact RH.put hK b3 (b := ctr4 g m (0 + 3)) (b2 := nI (m / 1)) (by rw [show 0 + 3 = 3 from rfl, c3, e3])
theorem hc_step {v : Bool} {k kk : Nat} {ro s2 s5 K : Nat → Int64} (hK : ∀ t, t < 80 → K t = s_l 8 t) (hB : ∀ i, i < 8 → s_l kk i = rl v (bgV k ro s2 s5 i)) (hr : rtN k = 16 * wbN v) {x y : Nat → Int8} (n : Nat) (hx : ∀ i, i < n → x i = y i) (s s' : H4) (ms : Nat → Int64) (i : Nat) (hi : i < 2 ^ 31) (u : HC) :
    ∀ j, j < 8 → (hc2 v x n (hcM v kk x n s ms) (0 + (n - n % (16 * wbN v))) i u).2.2.1 j = rl v ((mkE k ro s2 s5 K y n i s').2.2.1 j) := by
  have hv := vf v
  have hm := Nat.mod_le n (16 * wbN v)
  have hml := Nat.mod_lt n (show 16 * wbN v > 0 by omega)
  have hfl : (hc0 v kk x n s).2.1 = 0 := by
    unfold hc0
    rw [hbS_fl v x 0 _ _ (show 0 < 16 * wbN v by omega)]
    show (0 + (n - n % (16 * wbN v))) % (16 * wbN v) = 0
    rw [Nat.zero_add]
    have h1 := Nat.div_add_mod n (16 * wbN v)
    have h2 : n - n % (16 * wbN v) = 16 * wbN v * (n / (16 * wbN v)) := by omega
    rw [h2, Nat.mul_mod_right]
  have b0 : RH v (hc0 v kk x n s) (rPut (16 * wbN v) K y 0 (n - n % (16 * wbN v)) (rBeg k ro s2 s5 s')) := RH.puts hK (RH.beg hB s s') _ (fun i hi => by rw [Nat.zero_add]; exact hx i (by omega))
  have b1 : RH v (u.1.1, 0, va_cpy (hcM v kk x n s ms) u.1.2.2.1 0 0 8, u.1.2.2.2) (rPut (16 * wbN v) K y 0 (n - n % (16 * wbN v)) (rBeg k ro s2 s5 s')) := by
    refine ⟨fun j hj => absurd hj (by show ¬ j < 0; omega), hfl.symm.trans b0.f, show 0 < 16 * wbN v by omega, fun j hj => ?_⟩
    show va_cpy (hcM v kk x n s ms) u.1.2.2.1 0 0 8 j = _
    rw [← b0.S j hj]
    unfold hcM va_cpy
    rw [if_pos (by omega), if_pos (by omega)]
    rw [show 0 + (0 + (j - 0) - 0) = j by omega]
  have b2 := RH.puts hK b1 (x := x) (y := y) (fr := n - n % (16 * wbN v)) (fr2 := n - n % (16 * wbN v)) (n % (16 * wbN v)) (fun i hi => hx _ (by omega))
  have e : rPut (16 * wbN v) K y (n - n % (16 * wbN v)) (n % (16 * wbN v)) (rPut (16 * wbN v) K y 0 (n - n % (16 * wbN v)) (rBeg k ro s2 s5 s')) = rPut (16 * wbN v) K y 0 n (rBeg k ro s2 s5 s') := by
    have h9 := it_add (pbF (16 * wbN v) K y 0) (n - n % (16 * wbN v)) (n % (16 * wbN v)) (rBeg k ro s2 s5 s')
    rw [show n - n % (16 * wbN v) + n % (16 * wbN v) = n by omega] at h9
    unfold rPut
    rw [h9]
    refine it_eq (fun j z hj => ?_) _
    unfold pbF
    rw [Nat.zero_add]
  rw [e] at b2
  have b3 := RH.ctr hK b2 u.2.1 i hi
  have b4 := RH.fin hK b3 (lN (0 + (n - n % (16 * wbN v)) + n % (16 * wbN v) + 4))
  unfold hc2 hc1 mkE mkS
  rw [hr, show 0 + n + 1 + 1 + 1 + 1 = 0 + (n - n % (16 * wbN v)) + n % (16 * wbN v) + 4 by omega]
  exact b4
theorem hc_eq {v : Bool} {k kk : Nat} {ro s2 s5 K : Nat → Int64} (hK : ∀ t, t < 80 → K t = s_l 8 t) (hB : ∀ i, i < 8 → s_l kk i = rl v (bgV k ro s2 s5 i)) (hr : rtN k = 16 * wbN v) (hd : dgN k = 8 * wbN v) {x y : Nat → Int8} (n m : Nat) (hm : m ≤ 8192) (hx : ∀ i, i < n → x i = y i) (s : H4) (ms : Nat → Int64) (c o : Nat → Int8) (u : H9) :
    ∀ j, j < m → (hcU v kk x n m s ms c o).2.2.1 j = (mkU k ro s2 s5 K y n 0 m u).1.2.2 j := by
  have hv := vf v
  unfold hcU mkU
  rw [hd]
  have key : ∀ i, i ≤ mcn m (8 * wbN v) → ∀ j, j < m → j < i * (8 * wbN v) → (it (hcF v x n m (hcM v kk x n s ms) (0 + (n - n % (16 * wbN v)))) i (hc0 v kk x n s, c, o, 0 + (n - n % (16 * wbN v)))).2.2.1 j = (it (mkG k ro s2 s5 K y n 0 m) i u).1.2.2 j := by
    intro i
    induction i with
    | zero => intro _ j _ hj; exact absurd hj (by omega)
    | succ i ih =>
      intro hi j hj hj2
      have hi1 := mcn_lt (show 0 < 8 * wbN v by omega) (show i < mcn m (8 * wbN v) from hi)
      have hi2 : i * 32 ≤ i * (8 * wbN v) := Nat.mul_le_mul_left _ (by omega)
      have hi5 : (i + 1) * (8 * wbN v) = i * (8 * wbN v) + 8 * wbN v := Nat.succ_mul _ _
      show (hcF v x n m (hcM v kk x n s ms) (0 + (n - n % (16 * wbN v))) i (it (hcF v x n m (hcM v kk x n s ms) (0 + (n - n % (16 * wbN v)))) i (hc0 v kk x n s, c, o, 0 + (n - n % (16 * wbN v))))).2.2.1 j = (mkF k ro s2 s5 K y n 0 m i (it (mkG k ro s2 s5 K y n 0 m) i u).1).2.2 j
      have hih := ih (by omega) j hj
      generalize it (hcF v x n m (hcM v kk x n s ms) (0 + (n - n % (16 * wbN v)))) i (hc0 v kk x n s, c, o, 0 + (n - n % (16 * wbN v))) = A at hih ⊢
      generalize (it (mkG k ro s2 s5 K y n 0 m) i u).1 = C at hih ⊢
      have hst := hc_step hK hB hr n hx s C.1 ms i (by omega) A
      show wrS v (hc2 v x n (hcM v kk x n s ms) (0 + (n - n % (16 * wbN v))) i A).2.2.1 A.2.2.1 (i * (8 * wbN v)) (if m - i * (8 * wbN v) < 8 * wbN v then m - i * (8 * wbN v) else 8 * wbN v) j = va_cpy (gvS (rtN k) (mkE k ro s2 s5 K y n i C.1).2.2.1 C.2.1 0 (dgN k)) C.2.2 0 (0 + i * dgN k) (if m - i * dgN k < dgN k then m - i * dgN k else dgN k) j
      rw [hd, hr, Nat.zero_add (i * (8 * wbN v))]
      have hc : (if m - i * (8 * wbN v) < 8 * wbN v then m - i * (8 * wbN v) else 8 * wbN v) ≤ 8 * wbN v := by split <;> omega
      have hc2 : j < i * (8 * wbN v) + (if m - i * (8 * wbN v) < 8 * wbN v then m - i * (8 * wbN v) else 8 * wbN v) := by split <;> omega
      generalize (if m - i * (8 * wbN v) < 8 * wbN v then m - i * (8 * wbN v) else 8 * wbN v) = t at hc hc2 ⊢
      unfold wrS va_cpy
      by_cases c9 : i * (8 * wbN v) ≤ j ∧ j < i * (8 * wbN v) + t
      · rw [if_pos c9, if_pos c9]
        unfold gvS
        rw [if_pos (by omega), stB_eq hst _ (by omega)]
        congr 1
        omega
      · rw [if_neg c9, if_neg c9]
        exact hih (by omega)
  exact fun j hj => key _ (Nat.le_refl _) j hj (Nat.lt_of_lt_of_le hj (mcn_ge (by omega)))
