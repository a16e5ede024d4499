def zx8 (s : I8) : R8 := (zx s.1, zx s.2.1, zx s.2.2.1, zx s.2.2.2.1, zx s.2.2.2.2.1, zx s.2.2.2.2.2.1, zx s.2.2.2.2.2.2.1, zx s.2.2.2.2.2.2.2)
theorem rn_f {K W W2 : Nat → Int64} (t : Nat) (hK : K t = s_l 8 t) (hW : W t = zx (W2 t).toInt32) (s : I8) : rnF false W t (zx8 s) = zx8 (rn3 K W2 t s) := by
  unfold rnF rn3 zx8
  simp only [thr_f3, thr_f0, mk_zx, hW, hK, show (64 - 8 * wbN false) = 32 from rfl, Int64.toInt32_add, Int64.toInt32_xor, Int64.toInt32_and, zx_32, show (-1 : Int64).toInt32 = -1 from by decide]
theorem r8_f {K S S2 W W2 : Nat → Int64} (hK : ∀ t, t < 80 → K t = s_l 8 t) (hW : ∀ t, t < 64 → W t = zx (W2 t).toInt32) (hS : ∀ i, i < 8 → S i = zx (S2 i).toInt32) : r8C false S W = zx8 (r83 K S2 W2) := by
  unfold r8C r83
  rw [hS 0 (by omega), hS 1 (by omega), hS 2 (by omega), hS 3 (by omega), hS 4 (by omega), hS 5 (by omega), hS 6 (by omega), hS 7 (by omega)]
  have key : ∀ n, n ≤ 64 → ∀ s : I8, it (rnF false W) n (zx8 s) = zx8 (it (rn3 K W2) n s) := by
    intro n
    induction n with
    | zero => exact fun _ s => rfl
    | succ n ih =>
      intro hn s
      show rnF false W n (it (rnF false W) n (zx8 s)) = _
      rw [ih (by omega) s, rn_f n (hK n (by omega)) (hW n (by omega))]
      rfl
  rw [show rdN false = 64 from rfl]
  exact key 64 (Nat.le_refl _) ((S2 0).toInt32, (S2 1).toInt32, (S2 2).toInt32, (S2 3).toInt32, (S2 4).toInt32, (S2 5).toInt32, (S2 6).toInt32, (S2 7).toInt32)
theorem sc2_f {A A2 : Nat → Int64} (h : ∀ j, j < 16 → A j = zx (A2 j).toInt32) (n : Nat) : ∀ j, j < n + 16 → it (sc2F false) n A j = zx (it x3F n A2 j).toInt32 := by
  induction n with
  | zero => exact fun j hj => h j (by omega)
  | succ n ih =>
    intro j hj
    show va_up (it (sc2F false) n A) (n + 16) _ j = zx (va_up (it x3F n A2) (n + 16) _ j).toInt32
    unfold va_up
    by_cases c : j = n + 16
    · rw [if_pos c, if_pos c, mk_zx, ih (n + 14) (by omega), ih (n + 9) (by omega), ih (n + 1) (by omega), ih n (by omega), tws_f9, tws_f6]
      simp only [Int64.toInt32_add, zx_32, Int32.toInt32_toInt64]
    · rw [if_neg c, if_neg c]
      exact ih j (by omega)
