def srN : Nat → Nat := fun i => ([0, 6, 12, 18, 24, 3, 9, 10, 16, 22, 1, 7, 13, 19, 20, 4, 5, 11, 17, 23, 2, 8, 14, 15, 21] : List Nat).getD i 0
theorem srN_lt : ∀ i, i < 25 → srN i < 25 := by decide
theorem cols_at (L C : Nat → Int64) : ∀ j, j < 5 → cols L C j = L j ^^^ L (j + 5) ^^^ L (j + 10) ^^^ L (j + 15) ^^^ L (j + 20)
  | 0, _ => rfl
  | 1, _ => rfl
  | 2, _ => rfl
  | 3, _ => rfl
  | 4, _ => rfl
  | n + 5, h => absurd h (by omega)
theorem rcols_at (L C : Nat → Int64) : ∀ j, j < 5 → rcols L C j = 0 ^^^ L j ^^^ L (j + 5) ^^^ L (j + 10) ^^^ L (j + 15) ^^^ L (j + 20)
  | 0, _ => rfl
  | 1, _ => rfl
  | 2, _ => rfl
  | 3, _ => rfl
  | 4, _ => rfl
  | n + 5, h => absurd h (by omega)
theorem theta_at (C L : Nat → Int64) : ∀ j, j < 25 → theta C L j = L j ^^^ (C ((j % 5 + 4) % 5) ^^^ rotlC (C ((j % 5 + 1) % 5)) (nI 1))
  | 0, _ => rfl
  | 1, _ => rfl
  | 2, _ => rfl
  | 3, _ => rfl
  | 4, _ => rfl
  | 5, _ => rfl
  | 6, _ => rfl
  | 7, _ => rfl
  | 8, _ => rfl
  | 9, _ => rfl
  | 10, _ => rfl
  | 11, _ => rfl
  | 12, _ => rfl
  | 13, _ => rfl
  | 14, _ => rfl
  | 15, _ => rfl
  | 16, _ => rfl
  | 17, _ => rfl
  | 18, _ => rfl
  | 19, _ => rfl
  | 20, _ => rfl
  | 21, _ => rfl
  | 22, _ => rfl
  | 23, _ => rfl
  | 24, _ => rfl
  | n + 25, h => absurd h (by omega)
theorem rtheta_at (C L : Nat → Int64) : ∀ j, j < 25 → rtheta C L j = L j ^^^ (C ((j % 5 + 4) % 5) ^^^ leftR (C ((j % 5 + 1) % 5)) (nI 1))
  | 0, _ => rfl
  | 1, _ => rfl
  | 2, _ => rfl
  | 3, _ => rfl
  | 4, _ => rfl
  | 5, _ => rfl
  | 6, _ => rfl
  | 7, _ => rfl
  | 8, _ => rfl
  | 9, _ => rfl
  | 10, _ => rfl
  | 11, _ => rfl
  | 12, _ => rfl
  | 13, _ => rfl
  | 14, _ => rfl
  | 15, _ => rfl
  | 16, _ => rfl
  | 17, _ => rfl
  | 18, _ => rfl
  | 19, _ => rfl
  | 20, _ => rfl
  | 21, _ => rfl
  | 22, _ => rfl
  | 23, _ => rfl
  | 24, _ => rfl
  | n + 25, h => absurd h (by omega)
theorem rho_at (L M : Nat → Int64) : ∀ j, j < 25 → rho L M j = rotlC (L (srN j)) (s_i 10 (srN j))
  | 0, _ => rfl
  | 1, _ => rfl
  | 2, _ => rfl
  | 3, _ => rfl
  | 4, _ => rfl
  | 5, _ => rfl
  | 6, _ => rfl
  | 7, _ => rfl
  | 8, _ => rfl
  | 9, _ => rfl
  | 10, _ => rfl
  | 11, _ => rfl
  | 12, _ => rfl
  | 13, _ => rfl
  | 14, _ => rfl
  | 15, _ => rfl
  | 16, _ => rfl
  | 17, _ => rfl
  | 18, _ => rfl
  | 19, _ => rfl
  | 20, _ => rfl
  | 21, _ => rfl
  | 22, _ => rfl
  | 23, _ => rfl
  | 24, _ => rfl
  | n + 25, h => absurd h (by omega)
theorem rrho_at (L : Nat → Int64) (T : Nat → Int32) (M : Nat → Int64) : ∀ j, j < 25 → rrho L T M j = leftR (L (srN j)) (T (srN j))
  | 0, _ => rfl
  | 1, _ => rfl
  | 2, _ => rfl
  | 3, _ => rfl
  | 4, _ => rfl
  | 5, _ => rfl
  | 6, _ => rfl
  | 7, _ => rfl
  | 8, _ => rfl
  | 9, _ => rfl
  | 10, _ => rfl
  | 11, _ => rfl
  | 12, _ => rfl
  | 13, _ => rfl
  | 14, _ => rfl
  | 15, _ => rfl
  | 16, _ => rfl
  | 17, _ => rfl
  | 18, _ => rfl
  | 19, _ => rfl
  | 20, _ => rfl
  | 21, _ => rfl
  | 22, _ => rfl
  | 23, _ => rfl
  | 24, _ => rfl
  | n + 25, h => absurd h (by omega)
theorem chi_at (M L : Nat → Int64) : ∀ j, j < 25 → chi M L j = M j ^^^ ((M ((j % 5 + 1) % 5 + 5 * (j / 5)) ^^^ (-1)) &&& M ((j % 5 + 2) % 5 + 5 * (j / 5)))
  | 0, _ => rfl
  | 1, _ => rfl
  | 2, _ => rfl
  | 3, _ => rfl
  | 4, _ => rfl
  | 5, _ => rfl
  | 6, _ => rfl
  | 7, _ => rfl
  | 8, _ => rfl
  | 9, _ => rfl
  | 10, _ => rfl
  | 11, _ => rfl
  | 12, _ => rfl
  | 13, _ => rfl
  | 14, _ => rfl
  | 15, _ => rfl
  | 16, _ => rfl
  | 17, _ => rfl
  | 18, _ => rfl
  | 19, _ => rfl
  | 20, _ => rfl
  | 21, _ => rfl
  | 22, _ => rfl
  | 23, _ => rfl
  | 24, _ => rfl
  | n + 25, h => absurd h (by omega)
theorem rchi_at (M L : Nat → Int64) : ∀ j, j < 25 → rchi M L j = M j ^^^ ((M ((j % 5 + 1) % 5 + 5 * (j / 5)) ^^^ (-1)) &&& M ((j % 5 + 2) % 5 + 5 * (j / 5)))
  | 0, _ => rfl
  | 1, _ => rfl
  | 2, _ => rfl
  | 3, _ => rfl
  | 4, _ => rfl
  | 5, _ => rfl
  | 6, _ => rfl
  | 7, _ => rfl
  | 8, _ => rfl
  | 9, _ => rfl
  | 10, _ => rfl
  | 11, _ => rfl
  | 12, _ => rfl
  | 13, _ => rfl
  | 14, _ => rfl
  | 15, _ => rfl
  | 16, _ => rfl
  | 17, _ => rfl
  | 18, _ => rfl
  | 19, _ => rfl
  | 20, _ => rfl
  | 21, _ => rfl
  | 22, _ => rfl
  | 23, _ => rfl
  | 24, _ => rfl
  | n + 25, h => absurd h (by omega)
theorem rot_0 (x : Int64) : rotlC x (nI 0) = x := by
  show (x <<< ((nI 0).toInt64 &&& 63)) ||| (x.toUInt64 >>> ((nI 64 - nI 0).toInt64.toUInt64 &&& Int64.toUInt64 63)).toInt64 = x
  rw [show (nI 0).toInt64 &&& 63 = 0 by decide, show (nI 64 - nI 0).toInt64.toUInt64 &&& Int64.toUInt64 63 = 0 by decide]
  simp
theorem left_rot (x : Int64) (n : Int32) : leftR x n = rotlC x n := by
  unfold leftR
  by_cases h : n = nI 0
  · rw [if_pos h, h, rot_0]
  · rw [if_neg h]; rfl
theorem cols_eq {L S C D : Nat → Int64} (h : ∀ j, j < 25 → L j = S j) : ∀ j, j < 5 → cols L C j = rcols S D j := by
  intro j hj
  rw [cols_at L C j hj, rcols_at S D j hj, h j (by omega), h (j + 5) (by omega), h (j + 10) (by omega), h (j + 15) (by omega), h (j + 20) (by omega)]
  simp
theorem theta_eq {L S C D : Nat → Int64} (hC : ∀ j, j < 5 → C j = D j) (h : ∀ j, j < 25 → L j = S j) : ∀ j, j < 25 → theta C L j = rtheta D S j := by
  intro j hj
  rw [theta_at C L j hj, rtheta_at D S j hj, left_rot, h j hj, hC _ (Nat.mod_lt _ (by omega)), hC _ (Nat.mod_lt _ (by omega))]
theorem rho_eq {L S M O : Nat → Int64} {T : Nat → Int32} (hT : ∀ j, j < 25 → T j = s_i 10 j) (h : ∀ j, j < 25 → L j = S j) : ∀ j, j < 25 → rho L M j = rrho S T O j := by
  intro j hj
  rw [rho_at L M j hj, rrho_at S T O j hj, left_rot, h _ (srN_lt j hj), hT _ (srN_lt j hj)]
theorem chi_eq {M O L S : Nat → Int64} (h : ∀ j, j < 25 → M j = O j) : ∀ j, j < 25 → chi M L j = rchi O S j := by
  intro j hj
  rw [chi_at M L j hj, rchi_at O S j hj, h j hj, h _ (show (j % 5 + 1) % 5 + 5 * (j / 5) < 25 by omega), h _ (show (j % 5 + 2) % 5 + 5 * (j / 5) < 25 by omega)]
theorem prF_eq {T : Nat → Int32} {rn : Nat → Int64} (hT : ∀ j, j < 25 → T j = s_i 10 j) (hr : ∀ i, i < 24 → rn i = s_l 9 i) {s t : S3} (h : ∀ j, j < 25 → s.1 j = t.1 j) (i : Nat) (hi : i < 24) : ∀ j, j < 25 → (prF i s).1 j = (rpF T rn i t).1 j := by
  intro j hj
  have h1 := cols_eq (C := s.2.2) (D := t.2.2) h
  have h2 := theta_eq h1 h
  have h3 := rho_eq (M := s.2.1) (O := t.2.1) hT h2
  have h4 := chi_eq (L := theta (cols s.1 s.2.2) s.1) (S := rtheta (rcols t.1 t.2.2) t.1) h3
  show va_up _ 0 _ j = va_up _ 0 _ j
  unfold va_up
  by_cases h0 : j = 0
  · rw [if_pos h0, if_pos h0, h4 0 (by omega), hr i hi]
  · rw [if_neg h0, if_neg h0, h4 j hj]
theorem prm_eq {T : Nat → Int32} {rn : Nat → Int64} (hT : ∀ j, j < 25 → T j = s_i 10 j) (hr : ∀ i, i < 24 → rn i = s_l 9 i) {s t : S3} (h : ∀ j, j < 25 → s.1 j = t.1 j) : ∀ j, j < 25 → (prm s).1 j = (rprm T rn t).1 j := by
  have key : ∀ k, k ≤ 24 → ∀ j, j < 25 → (it prF k s).1 j = (it (rpF T rn) k t).1 j := by
    intro k
    induction k with
    | zero => exact fun _ => h
    | succ k ih => exact fun hk => prF_eq hT hr (ih (by omega)) k (by omega)
  exact key 24 (Nat.le_refl _)
