def rl (v : Bool) (y : Int64) : Int64 := cond v y (zx y.toInt32)
theorem rl_f (y : Int64) : rl false y = zx y.toInt32 := rfl
theorem rl_t (y : Int64) : rl true y = y := rfl
theorem cmpR_3 (K : Nat → Int64) (g : Nat → Int8) (S w : Nat → Int64) : (cmpR 64 K g S w).1 = cmp3 K g S w := congrArg Prod.fst (if_pos rfl)
theorem cmpR_6 (K : Nat → Int64) (g : Nat → Int8) (S w : Nat → Int64) : (cmpR 128 K g S w).1 = cmp6 K g S w := congrArg Prod.fst (if_neg (by decide))
theorem cmp_v {v : Bool} {K : Nat → Int64} {g g2 : Nat → Int8} {S S2 : Nat → Int64} (hK : ∀ t, t < 80 → K t = s_l 8 t) (hg : ∀ j, j < 16 * wbN v → g j = g2 j) (hS : ∀ i, i < 8 → S i = rl v (S2 i)) (w w2 : Nat → Int64) : ∀ j, j < 8 → cmpS v g S w j = rl v ((cmpR (16 * wbN v) K g2 S2 w2).1 j) := by
  cases v
  · intro j hj
    rw [show 16 * wbN false = 64 from rfl] at *
    rw [cmpR_3, rl_f]
    exact cmp_f hK hg (fun i hi => (hS i hi).trans (rl_f _)) w w2 j hj
  · intro j hj
    rw [show 16 * wbN true = 128 from rfl] at *
    rw [cmpR_6, rl_t]
    exact cmp_t hK hg (fun i hi => (hS i hi).trans (rl_t _)) w w2 j hj
def cpB (v : Bool) (s : H4) (b : Int8) : H4 :=
  if s.2.1 + 1 = 16 * wbN v then (va_up s.1 s.2.1 b, 0, cmpS v (va_up s.1 s.2.1 b) s.2.2.1 s.2.2.2, schC v (va_up s.1 s.2.1 b) s.2.2.2)
  else (va_up s.1 s.2.1 b, s.2.1 + 1, s.2.2.1, s.2.2.2)
theorem hbF_cp (v : Bool) (x : Nat → Int8) (fr i : Nat) (s : H4) : hbF v x fr i s = cpB v s (x (fr + i)) := rfl
abbrev RH (v : Bool) (s s2 : H4) : Prop := (∀ j, j < s.2.1 → s.1 j = s2.1 j) ∧ s.2.1 = s2.2.1 ∧ s.2.1 < 16 * wbN v ∧ ∀ i, i < 8 → s.2.2.1 i = rl v (s2.2.2.1 i)
theorem RH.f {v : Bool} {s s2 : H4} (h : RH v s s2) : s.2.1 = s2.2.1 := h.2.1
theorem RH.S {v : Bool} {s s2 : H4} (h : RH v s s2) : ∀ i, i < 8 → s.2.2.1 i = rl v (s2.2.2.1 i) := h.2.2.2
theorem RH.put {v : Bool} {s s2 : H4} {K : Nat → Int64} (hK : ∀ t, t < 80 → K t = s_l 8 t) (h : RH v s s2) {b : Int8} {b2 : Int32} (hb : b2.toInt8 = b) : RH v (cpB v s b) (ptB (16 * wbN v) K s2 b2) := by
  obtain ⟨g, fl, S, w⟩ := s
  obtain ⟨g2, fl2, S2, w2⟩ := s2
  obtain ⟨h1, h2, h3, h4⟩ := h
  have h2' : fl = fl2 := h2
  subst h2'
  subst hb
  have hu : ∀ j, j < fl + 1 → va_up g fl b2.toInt8 j = va_up g2 fl b2.toInt8 j := by
    intro j hj
    unfold va_up
    by_cases c : j = fl
    · rw [if_pos c, if_pos c]
    · rw [if_neg c, if_neg c]
      exact h1 j (by show j < fl; omega)
  have hl : fl < 16 * wbN v := h3
  unfold cpB ptB
  by_cases c : fl + 1 = 16 * wbN v
  · rw [if_pos c, if_pos c]
    exact ⟨fun j hj => absurd hj (by show ¬ j < 0; omega), rfl, by show 0 < 16 * wbN v; omega, cmp_v hK (fun j hj => hu j (by omega)) h4 w w2⟩
  · rw [if_neg c, if_neg c]
    exact ⟨hu, rfl, by show fl + 1 < 16 * wbN v; omega, h4⟩
theorem i8_32 (b : Int8) : b.toInt32.toInt8 = b := Int8.toInt8_toInt32 b
theorem RH.puts {v : Bool} {s s2 : H4} {K : Nat → Int64} (hK : ∀ t, t < 80 → K t = s_l 8 t) (h : RH v s s2) {x y : Nat → Int8} {fr fr2 : Nat} (n : Nat) (hx : ∀ i, i < n → x (fr + i) = y (fr2 + i)) : RH v (hbS v x fr n s) (rPut (16 * wbN v) K y fr2 n s2) := by
  unfold hbS rPut
  induction n with
  | zero => exact h
  | succ n ih => exact RH.put hK (ih (fun i hi => hx i (by omega))) (by rw [i8_32]; exact (hx n (by omega)).symm)
def pts (rt : Nat) (K : Nat → Int64) (b : Nat → Int32) : Nat → H4 → H4 := fun j s => ptB rt K s (b j)
def ov (g : Nat → Int8) (p n : Nat) (b : Nat → Int32) : Nat → Int8 := fun j => if p ≤ j ∧ j < p + n then (b (j - p)).toInt8 else g j
theorem ov_s (g : Nat → Int8) (p n : Nat) (b : Nat → Int32) : va_up (ov g p n b) (p + n) (b n).toInt8 = ov g p (n + 1) b := by
  funext j
  unfold va_up ov
  by_cases c : j = p + n
  · rw [if_pos c, if_pos (by omega), c, Nat.add_sub_cancel_left]
  · rw [if_neg c]
    by_cases c2 : p ≤ j ∧ j < p + n
    · rw [if_pos c2, if_pos (by omega)]
    · rw [if_neg c2, if_neg (by omega)]
theorem pts_n {rt : Nat} {K : Nat → Int64} (b : Nat → Int32) (n : Nat) (g : Nat → Int8) (fl : Nat) (S w : Nat → Int64) (h : fl + n < rt) : it (pts rt K b) n (g, fl, S, w) = (ov g fl n b, fl + n, S, w) := by
  induction n with
  | zero =>
    show (g, fl, S, w) = _
    rw [show ov g fl 0 b = g from funext fun j => by unfold ov; rw [if_neg (by omega)]]
    rfl
  | succ n ih =>
    show ptB rt K (it (pts rt K b) n (g, fl, S, w)) (b n) = _
    rw [ih (by omega), ptB_n (by omega), ov_s]
    rfl
theorem ptB_f {rt : Nat} {K : Nat → Int64} {g : Nat → Int8} {fl : Nat} {S w : Nat → Int64} {b : Int32} (h : fl + 1 = rt) : ptB rt K (g, fl, S, w) b = (va_up g fl b.toInt8, 0, (cmpR rt K (va_up g fl b.toInt8) S w).1, (cmpR rt K (va_up g fl b.toInt8) S w).2) := by
  unfold ptB
  rw [if_pos h]
theorem pts_f {rt : Nat} {K : Nat → Int64} (b : Nat → Int32) (n : Nat) (g : Nat → Int8) (fl : Nat) (S w : Nat → Int64) (h : fl + n = rt) (h0 : 0 < n) : it (pts rt K b) n (g, fl, S, w) = (ov g fl n b, 0, (cmpR rt K (ov g fl n b) S w).1, (cmpR rt K (ov g fl n b) S w).2) := by
  obtain ⟨m, rfl⟩ : ∃ m, n = m + 1 := ⟨n - 1, by omega⟩
  show ptB rt K (it (pts rt K b) m (g, fl, S, w)) (b m) = _
  rw [pts_n b m g fl S w (by omega), ptB_f (by omega), ov_s]
theorem it_add {σ : Type} (F : Nat → σ → σ) (a b : Nat) (s : σ) : it F (a + b) s = it (fun k => F (a + k)) b (it F a s) := by
  induction b with
  | zero => rfl
  | succ b ih =>
    show F (a + b) (it F (a + b) s) = F (a + b) (it (fun k => F (a + k)) b (it F a s))
    rw [ih]
def fbb (rt z : Nat) (bits : Int64) : Nat → Int32 := fun j => if j = 0 then nI 128 else if j < 1 + z then nI 0 else lbR bits (rt / 8 - 1 - (j - (1 + z)))
theorem rFin_p (rt : Nat) (K : Nat → Int64) (tt : Int64) (s : H4) : rFin rt K tt s = it (pts rt K (fbb rt (zcn rt (rFi1 rt K s).2.1) ((8 : Int64) * tt))) (1 + zcn rt (rFi1 rt K s).2.1 + rt / 8) s := by
  generalize hz : zcn rt (rFi1 rt K s).2.1 = z
  rw [it_add, it_add]
  unfold rFin rFi2
  rw [hz]
  have e1 : it (pts rt K (fbb rt z (8 * tt))) 1 s = rFi1 rt K s := rfl
  rw [e1]
  have e2 : it (fun k => pts rt K (fbb rt z (8 * tt)) (1 + k)) z (rFi1 rt K s) = it (zpF rt K) z (rFi1 rt K s) := by
    refine it_eq (fun k s9 hk => ?_) _
    show ptB rt K s9 (fbb rt z (8 * tt) (1 + k)) = ptB rt K s9 (nI 0)
    unfold fbb
    rw [if_neg (by omega), if_pos (by omega)]
  rw [e2]
  refine it_eq (fun k s9 hk => ?_) _
  show ptB rt K s9 (lbR _ (rt / 8 - 1 - k)) = ptB rt K s9 (fbb rt z (8 * tt) (1 + z + k))
  unfold fbb
  rw [if_neg (by omega), if_neg (by omega), Nat.add_sub_cancel_left]
theorem len_c (v : Bool) (bits : Int64) (g : Nat → Int8) (n : Nat) (hn : n ≤ 8) (j : Nat) : it (lenF v bits) n g j = if 16 * wbN v - n ≤ j ∧ j < 16 * wbN v then (lush bits (nI (8 * (16 * wbN v - 1 - j)))).toInt32.toInt8 else g j := by
  have hv := vf v
  induction n with
  | zero =>
    show g j = _
    rw [if_neg (by omega)]
  | succ n ih =>
    show va_up (it (lenF v bits) n g) (16 * wbN v - 1 - n) (lush bits (nI (8 * n))).toInt32.toInt8 j = _
    unfold va_up
    by_cases c : j = 16 * wbN v - 1 - n
    · rw [if_pos c, if_pos (by omega), show 16 * wbN v - 1 - j = n by omega]
    · rw [if_neg c, ih (by omega)]
      by_cases c2 : 16 * wbN v - n ≤ j ∧ j < 16 * wbN v
      · rw [if_pos c2, if_pos (by omega)]
      · rw [if_neg c2, if_neg (by omega)]
theorem lb8 (bits : Int64) {i : Nat} (h : i < 8) : (lbR bits i).toInt8 = (lush bits (nI (8 * i))).toInt32.toInt8 := by unfold lbR; rw [if_pos h]
theorem lb0 (bits : Int64) {i : Nat} (h : ¬ i < 8) : (lbR bits i).toInt8 = (nI 0).toInt8 := by unfold lbR; rw [if_neg h]
theorem finA {v : Bool} {g g2 : Nat → Int8} {fl : Nat} (bits : Int64) (hg : ∀ j, j < fl → g j = g2 j) (h : ¬ 14 * wbN v < fl + 1) : ∀ j, j < 16 * wbN v → it (lenF v bits) 8 (fil (va_up g fl (-128 : Int32).toInt8) (fl + 1) (16 * wbN v) (nI 0).toInt8) j = ov g2 fl (16 * wbN v - fl) (fbb (16 * wbN v) (14 * wbN v - (fl + 1)) bits) j := by
  have hv := vf v
  intro j hj
  rw [len_c v bits _ 8 (Nat.le_refl _)]
  unfold ov fbb fil va_up
  by_cases c0 : j < fl
  · rw [if_neg (show ¬ (fl ≤ j ∧ j < fl + (16 * wbN v - fl)) by omega), if_neg (by omega), if_neg (by omega), if_neg (by omega)]
    exact hg j c0
  · rw [if_pos (show fl ≤ j ∧ j < fl + (16 * wbN v - fl) by omega)]
    by_cases c1 : j = fl
    · rw [if_neg (by omega), if_neg (by omega), if_pos c1, if_pos (by omega)]
      decide
    · rw [if_neg (show ¬ j - fl = 0 by omega)]
      by_cases c2 : j < 14 * wbN v
      · rw [if_neg (by omega), if_pos (by omega), if_pos (by omega)]
      · rw [if_neg (show ¬ (j - fl < 1 + (14 * wbN v - (fl + 1))) by omega), show 16 * wbN v / 8 - 1 - (j - fl - (1 + (14 * wbN v - (fl + 1)))) = 16 * wbN v - 1 - j by omega]
        by_cases c3 : 16 * wbN v - 8 ≤ j
        · rw [if_pos (by omega), lb8 _ (by omega)]
        · rw [if_neg (by omega), if_pos (by omega), lb0 _ (by omega)]
theorem finB1 {v : Bool} {g g2 : Nat → Int8} {fl z : Nat} (bits : Int64) (hg : ∀ j, j < fl → g j = g2 j) (hl : fl < 16 * wbN v) (hz : 1 + z = 16 * wbN v - fl + 14 * wbN v) : ∀ j, j < 16 * wbN v → fil (va_up g fl (-128 : Int32).toInt8) (fl + 1) (16 * wbN v) (nI 0).toInt8 j = ov g2 fl (16 * wbN v - fl) (fbb (16 * wbN v) z bits) j := by
  have hv := vf v
  intro j hj
  unfold ov fbb fil va_up
  by_cases c0 : j < fl
  · rw [if_neg (show ¬ (fl ≤ j ∧ j < fl + (16 * wbN v - fl)) by omega), if_neg (by omega), if_neg (by omega)]
    exact hg j c0
  · rw [if_pos (show fl ≤ j ∧ j < fl + (16 * wbN v - fl) by omega)]
    by_cases c1 : j = fl
    · rw [if_neg (by omega), if_pos c1, if_pos (by omega)]
      decide
    · rw [if_neg (show ¬ j - fl = 0 by omega), if_pos (by omega), if_pos (by omega)]
theorem finB2 {v : Bool} {g g2 : Nat → Int8} {fl z : Nat} (bits : Int64) (hl : fl < 16 * wbN v) (hz : 1 + z = 16 * wbN v - fl + 14 * wbN v) : ∀ j, j < 16 * wbN v → it (lenF v bits) 8 (fil g 0 (16 * wbN v) (nI 0).toInt8) j = ov g2 0 (16 * wbN v) (fun k => fbb (16 * wbN v) z bits (16 * wbN v - fl + k)) j := by
  have hv := vf v
  intro j hj
  rw [len_c v bits _ 8 (Nat.le_refl _)]
  unfold ov fbb fil
  dsimp only
  rw [if_pos (show 0 ≤ j ∧ j < 0 + 16 * wbN v by omega), if_neg (show ¬ 16 * wbN v - fl + (j - 0) = 0 by omega)]
  by_cases c2 : j < 14 * wbN v
  · rw [if_neg (by omega), if_pos (by omega), if_pos (by omega)]
  · rw [if_neg (show ¬ (16 * wbN v - fl + (j - 0) < 1 + z) by omega), show 16 * wbN v / 8 - 1 - (16 * wbN v - fl + (j - 0) - (1 + z)) = 16 * wbN v - 1 - j by omega]
    by_cases c3 : 16 * wbN v - 8 ≤ j
    · rw [if_pos (by omega), lb8 _ (by omega)]
    · rw [if_neg (by omega), if_pos (by omega), lb0 _ (by omega)]
theorem rFi1_fl (rt : Nat) (K : Nat → Int64) (s : H4) : (rFi1 rt K s).2.1 = if s.2.1 + 1 = rt then 0 else s.2.1 + 1 := ptB_fl rt K s _
theorem RH.fin {v : Bool} {s s2 : H4} {K : Nat → Int64} (hK : ∀ t, t < 80 → K t = s_l 8 t) (h : RH v s s2) (tt : Int64) : ∀ i, i < 8 → (finB v tt s).2.2.1 i = rl v ((rFin (16 * wbN v) K tt s2).2.2.1 i) := by
  have hv := vf v
  obtain ⟨g, fl, S, w⟩ := s
  obtain ⟨g2, fl2, S2, w2⟩ := s2
  obtain ⟨h1, h2, h3, h4⟩ := h
  have h2' : fl = fl2 := h2
  subst h2'
  have hl : fl < 16 * wbN v := h3
  have hg : ∀ j, j < fl → g j = g2 j := h1
  rw [rFin_p, rFi1_fl]
  show ∀ i, i < 8 → (finB v tt (g, fl, S, w)).2.2.1 i = rl v ((it (pts (16 * wbN v) K (fbb (16 * wbN v) (zcn (16 * wbN v) (if fl + 1 = 16 * wbN v then 0 else fl + 1)) (8 * tt))) (1 + zcn (16 * wbN v) (if fl + 1 = 16 * wbN v then 0 else fl + 1) + 16 * wbN v / 8) (g2, fl, S2, w2)).2.2.1 i)
  have hz := zcn_or (16 * wbN v) (if fl + 1 = 16 * wbN v then 0 else fl + 1)
  generalize zcn (16 * wbN v) (if fl + 1 = 16 * wbN v then 0 else fl + 1) = z at hz ⊢
  by_cases c : 14 * wbN v < fl + 1
  · have hz2 : 1 + z = 16 * wbN v - fl + 14 * wbN v := by
      by_cases c2 : fl + 1 = 16 * wbN v
      · rw [if_pos c2] at hz; omega
      · rw [if_neg c2] at hz; omega
    rw [finB_pos c, show 1 + z + 16 * wbN v / 8 = (16 * wbN v - fl) + 16 * wbN v by omega, it_add, pts_f _ _ _ _ _ _ (show fl + (16 * wbN v - fl) = 16 * wbN v by omega) (by omega)]
    have e := pts_f (K := K) (fun k => fbb (16 * wbN v) z (8 * tt) (16 * wbN v - fl + k)) (16 * wbN v) (ov g2 fl (16 * wbN v - fl) (fbb (16 * wbN v) z (8 * tt))) 0 (cmpR (16 * wbN v) K (ov g2 fl (16 * wbN v - fl) (fbb (16 * wbN v) z (8 * tt))) S2 w2).1 (cmpR (16 * wbN v) K (ov g2 fl (16 * wbN v - fl) (fbb (16 * wbN v) z (8 * tt))) S2 w2).2 (show 0 + 16 * wbN v = 16 * wbN v by omega) (by omega)
    have e0 : (fun k => pts (16 * wbN v) K (fbb (16 * wbN v) z (8 * tt)) (16 * wbN v - fl + k)) = pts (16 * wbN v) K (fun k => fbb (16 * wbN v) z (8 * tt) (16 * wbN v - fl + k)) := rfl
    rw [e0, e]
    exact cmp_v hK (finB2 _ hl hz2) (cmp_v hK (finB1 _ hg hl hz2) h4 w w2) _ _
  · have hz2 : z = 14 * wbN v - (fl + 1) := by
      rw [if_neg (show ¬ fl + 1 = 16 * wbN v by omega)] at hz; omega
    subst hz2
    rw [finB_neg c, show 1 + (14 * wbN v - (fl + 1)) + 16 * wbN v / 8 = 16 * wbN v - fl by omega, pts_f _ _ _ _ _ _ (show fl + (16 * wbN v - fl) = 16 * wbN v by omega) (by omega)]
    exact cmp_v hK (finA _ hg c) h4 w w2
theorem sbR_3 (S : Nat → Int64) (i : Nat) : sbR 64 S i = (lush (S (i / 4)) (nI (24 - 8 * (i % 4)))).toInt32.toInt8 := if_pos rfl
theorem sbR_6 (S : Nat → Int64) (i : Nat) : sbR 128 S i = (lush (S (i / 8)) (nI (56 - 8 * (i % 8)))).toInt32.toInt8 := if_neg (by decide)
theorem stB_eq {v : Bool} {S S2 : Nat → Int64} (hS : ∀ i, i < 8 → S i = rl v (S2 i)) (j : Nat) (hj : j < 8 * wbN v) : stB v S j = sbR (16 * wbN v) S2 j := by
  unfold stB
  cases v
  · rw [show 16 * wbN false = 64 from rfl, sbR_3]
    have hj' : j < 32 := hj
    show (lush (S (j / 4)) (nI (8 * 4 - 8 - 8 * (j % 4)))).toInt32.toInt8 = _
    rw [hS (j / 4) (by omega), rl_f]
    exact zx_8 _ _ (by omega)
  · rw [show 16 * wbN true = 128 from rfl, sbR_6]
    have hj' : j < 64 := hj
    show (lush (S (j / 8)) (nI (8 * 8 - 8 - 8 * (j % 8)))).toInt32.toInt8 = _
    rw [hS (j / 8) (by omega), rl_t]
theorem wr_eq {v : Bool} {S S2 : Nat → Int64} (hS : ∀ i, i < 8 → S i = rl v (S2 i)) (o u : Nat → Int8) (at_ n : Nat) (hn : n ≤ 8 * wbN v) (j : Nat) (h : at_ ≤ j ∧ j < at_ + n ∨ o j = u j) : wrS v S o at_ n j = gvS (16 * wbN v) S2 u at_ n j := by
  unfold wrS gvS
  by_cases c : at_ ≤ j ∧ j < at_ + n
  · rw [if_pos c, if_pos c]
    exact stB_eq hS _ (by omega)
  · rw [if_neg c, if_neg c]
    exact h.resolve_left c
theorem bg_at (k : Nat) (ro s2 s5 S : Nat → Int64) (n : Nat) : ∀ i, i < n → it (bgF k ro s2 s5) n S i = bgV k ro s2 s5 i := by
  induction n with
  | zero => exact fun i hi => absurd hi (by omega)
  | succ n ih =>
    intro i hi
    show va_up (it (bgF k ro s2 s5) n S) n (bgV k ro s2 s5 n) i = _
    unfold va_up
    by_cases c : i = n
    · rw [if_pos c, c]
    · rw [if_neg c]
      exact ih i (by omega)
theorem RH.beg {v : Bool} {k kk : Nat} {ro s2 s5 : Nat → Int64} (hB : ∀ i, i < 8 → s_l kk i = rl v (bgV k ro s2 s5 i)) (s s2' : H4) : RH v (hbeg kk s) (rBeg k ro s2 s5 s2') := by
  have hv := vf v
  refine ⟨fun j hj => absurd hj (by show ¬ j < 0; omega), rfl, by show 0 < 16 * wbN v; omega, fun i hi => ?_⟩
  show va_cpy (s_l kk) s.2.2.1 0 0 8 i = rl v (it (bgF k ro s2 s5) 8 (fil s2'.2.2.1 0 25 0) i)
  rw [bg_at k ro s2 s5 _ 8 i hi, ← hB i hi]
  unfold va_cpy
  rw [if_pos (by omega)]
  congr 1
  omega
theorem hsh_eq {v : Bool} {k kk : Nat} {ro s2 s5 K : Nat → Int64} (hK : ∀ t, t < 80 → K t = s_l 8 t) (hB : ∀ i, i < 8 → s_l kk i = rl v (bgV k ro s2 s5 i)) (hr : rtN k = 16 * wbN v) {x y : Nat → Int8} {fr : Nat} (n : Nat) (hx : ∀ i, i < n → x i = y (fr + i)) (s s' : H4) : ∀ i, i < 8 → (hsh v kk x n s).2.2.1 i = rl v ((mkH k ro s2 s5 K y fr n s').2.2.1 i) := by
  unfold hsh mkH hsh1
  rw [hr]
  exact RH.fin hK (RH.puts hK (RH.beg hB s s') n (fun i hi => by rw [Nat.zero_add]; exact hx i hi)) _
