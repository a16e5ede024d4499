theorem sc1_t {g g2 : Nat → Int8} (h : ∀ j, j < 128 → g j = g2 j) (w w2 : Nat → Int64) (n : Nat) (hn : n ≤ 16) : ∀ j, j < n → it (sc1F true g) n w j = it (w6F g2) n w2 j := by
  induction n with
  | zero => exact fun j hj => absurd hj (by omega)
  | succ n ih =>
    intro j hj
    show va_up (it (sc1F true g) n w) n (wd1 true g n) j = w6F g2 n (it (w6F g2) n w2) j
    rw [w6F_v, wd_t g g2 n (by omega) h]
    unfold va_up
    by_cases c : j = n
    · rw [if_pos c, if_pos c]
    · rw [if_neg c, if_neg c]
      exact ih (by omega) j (by omega)
theorem sc2_t {A A2 : Nat → Int64} (h : ∀ j, j < 16 → A j = A2 j) (n : Nat) : ∀ j, j < n + 16 → it (sc2F true) n A j = it x6F n A2 j := by
  induction n with
  | zero => exact fun j hj => h j (by omega)
  | succ n ih =>
    intro j hj
    show va_up (it (sc2F true) n A) (n + 16) _ j = va_up (it x6F n A2) (n + 16) _ j
    unfold va_up
    by_cases c : j = n + 16
    · rw [if_pos c, if_pos c, and_mk, tws_t9, tws_t6, ih (n + 14) (by omega), ih (n + 9) (by omega), ih (n + 1) (by omega), ih n (by omega)]
    · rw [if_neg c, if_neg c]
      exact ih j (by omega)
theorem sch_t {g g2 : Nat → Int8} (h : ∀ j, j < 128 → g j = g2 j) (w w2 : Nat → Int64) : ∀ j, j < 80 → schC true g w j = sch6 g2 w2 j := fun j hj => sc2_t (sc1_t h w w2 16 (Nat.le_refl _)) 64 j (by omega)
theorem rn_t {K W W2 : Nat → Int64} (t : Nat) (hK : K t = s_l 8 t) (hW : W t = W2 t) (s : R8) : rnF true W t s = rn6 K W2 t s := by
  unfold rnF rn6
  simp only [thr_t3, thr_t0, and_mk, hW, hK, show (64 - 8 * wbN true) = 0 from rfl, lush_0]
theorem r8_t {K S S2 W W2 : Nat → Int64} (hK : ∀ t, t < 80 → K t = s_l 8 t) (hW : ∀ t, t < 80 → W t = W2 t) (hS : ∀ i, i < 8 → S i = S2 i) : r8C true S W = r86 K S2 W2 := by
  unfold r8C r86
  rw [hS 0 (by omega), hS 1 (by omega), hS 2 (by omega), hS 3 (by omega), hS 4 (by omega), hS 5 (by omega), hS 6 (by omega), hS 7 (by omega)]
  exact it_eq (fun t s ht => rn_t t (hK t ht) (hW t ht) s) _
theorem ad_t (S S2 : Nat → Int64) (hS : ∀ i, i < 8 → S i = S2 i) (r : R8) : ∀ j, j < 8 → add4 true (add4 true S 0 r.1 r.2.1 r.2.2.1 r.2.2.2.1) 4 r.2.2.2.2.1 r.2.2.2.2.2.1 r.2.2.2.2.2.2.1 r.2.2.2.2.2.2.2 j = up8 S2 r j := by
  have h0 := hS 0 (by omega)
  have h1 := hS 1 (by omega)
  have h2 := hS 2 (by omega)
  have h3 := hS 3 (by omega)
  have h4 := hS 4 (by omega)
  have h5 := hS 5 (by omega)
  have h6 := hS 6 (by omega)
  have h7 := hS 7 (by omega)
  intro j hj
  have hc : j = 0 ∨ j = 1 ∨ j = 2 ∨ j = 3 ∨ j = 4 ∨ j = 5 ∨ j = 6 ∨ j = 7 := by omega
  rcases hc with c | c | c | c | c | c | c | c <;> subst c <;> simp [add4, up8, va_up, and_mk, h0, h1, h2, h3, h4, h5, h6, h7]
theorem cmp_t {K : Nat → Int64} {g g2 : Nat → Int8} {S S2 : Nat → Int64} (hK : ∀ t, t < 80 → K t = s_l 8 t) (hg : ∀ j, j < 128 → g j = g2 j) (hS : ∀ i, i < 8 → S i = S2 i) (w w2 : Nat → Int64) : ∀ j, j < 8 → cmpS true g S w j = cmp6 K g2 S2 w2 j := by
  intro j hj
  unfold cmpS cmp6
  rw [r8_t hK (sch_t hg w w2) hS]
  exact ad_t S S2 hS _ j hj
