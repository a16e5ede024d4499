theorem c_O_prime_t (l : Launch) (B : Bx) (n : Nat) (m : Nat) (h2 : ∀ d, d < m + 2 → 2 ≤ d → d * d ≤ n ∧ ¬ n % d = 0) (h4 : m < 30) (h5 : n < 410) (h3 : n < (m + 2) * (m + 2)) : Ci (S := Unit) l B y_O_prime b_O_prime 2 .boolean (Rm 1 0 0) [.int (nI n)] [] (fun r _ => r = nI 1) (fun _ => []) := by
  refine ctr_z (by decide) (Nat.le_of_ble_eq_true rfl) ?_
  intro M Q hl hR hin X kret
  subst hl
  refine g_lv [(0, .int (nI n))] rfl ?_
  refine g_iconst (pc := 0) X (v := nI 2) d_O_prime_0 (by decide) ?_
  refine g_istore_n (pc := 1) X (i := 1) d_O_prime_1 rfl (by decide) ?_
  refine g_lv [(0, .int (nI n)), (1, .int (nI 2))] rfl ?_
  refine g_lv [(0, .int (nI n)), (1, .int (nI 2))] rfl ?_
  refine g_wsq [] (by rfl) ?_
  refine loopK (fun k => G B M 2 0 0 Q [] [(0, .int (nI n)), (1, .int (nI (k + 2)))] 2 []) m ?_ ?_
  · intro k hk2 kk2
    have hd := h2 (k + 2) (by omega) (by omega)
    have hmd := Nat.mod_lt n (show 0 < k + 2 by omega)
    show G B M 2 0 0 Q [] [(0, .int (nI n)), (1, .int (nI (k + 2)))] 2 []
    refine g_iload_n (pc := 2) X (i := 1) d_O_prime_2 rfl rfl ?_
    refine g_iload_n (pc := 3) X (i := 1) d_O_prime_3 rfl rfl ?_
    refine g_imulN (pc := 4) X ((k + 2) * (k + 2)) rfl d_O_prime_4 ?_
    refine g_iload_n (pc := 5) X (i := 0) d_O_prime_5 rfl rfl ?_
    refine g_icmp_gtN (pc := 6) X (tgt := 23) d_O_prime_6 (by decide) (by omega) (by omega) (fun h_6 => absurd h_6 (by omega)) (fun h_6 => ?_)
    refine g_iload_n (pc := 9) X (i := 0) d_O_prime_9 rfl rfl ?_
    refine g_iload_n (pc := 10) X (i := 1) d_O_prime_10 rfl rfl ?_
    refine g_iremN (pc := 11) X (n % (k + 2)) (by omega) (by omega) (by omega) rfl d_O_prime_11 ?_
    refine g_if_neN (pc := 12) X (tgt := 17) d_O_prime_12 (by decide) (by omega) (fun h_12 => ?_) (fun h_12 => absurd h_12 hd.2)
    refine g_iincN (pc := 17) X (a := k + 2) (k + 3) d_O_prime_17 rfl 1 rfl (by omega) (by decide) ?_
    refine g_lv [(0, .int (nI n)), (1, .int (nI (k + 3)))] rfl ?_
    refine g_goto (pc := 20) X (tgt := 2) d_O_prime_20 (by decide) ?_
    refine g_lv [(0, .int (nI n)), (1, .int (nI (k + 3)))] rfl ?_
    refine g_wsq [] (by rfl) ?_
    exact kk2
  · show G B M 2 0 0 Q [] [(0, .int (nI n)), (1, .int (nI (m + 2)))] 2 []
    have hm9 : (m + 2) * (m + 2) ≤ 32 * 32 := Nat.mul_le_mul (by omega) (by omega)
    refine g_iload_n (pc := 2) X (i := 1) d_O_prime_2 rfl rfl ?_
    refine g_iload_n (pc := 3) X (i := 1) d_O_prime_3 rfl rfl ?_
    refine g_imulN (pc := 4) X ((m + 2) * (m + 2)) rfl d_O_prime_4 ?_
    refine g_iload_n (pc := 5) X (i := 0) d_O_prime_5 rfl rfl ?_
    refine g_icmp_gtN (pc := 6) X (tgt := 23) d_O_prime_6 (by decide) (by omega) (by omega) (fun h_6 => ?_) (fun h_6 => absurd h_6 (by omega))
    refine g_iconst (pc := 23) X (v := nI 1) d_O_prime_23 (by decide) ?_
    exact kret _ () _ 24 ⟨by rfl, rfl⟩ d_O_prime_24

theorem c_O_prime_f (l : Launch) (B : Bx) (n : Nat) (m : Nat) (h2 : ∀ d, d < m + 2 → 2 ≤ d → d * d ≤ n ∧ ¬ n % d = 0) (h4 : m < 30) (h5 : n < 410) (h3 : (m + 2) * (m + 2) ≤ n ∧ n % (m + 2) = 0) : Ci (S := Unit) l B y_O_prime b_O_prime 2 .boolean (Rm 1 0 0) [.int (nI n)] [] (fun r _ => r = nI 0) (fun _ => []) := by
  refine ctr_z (by decide) (Nat.le_of_ble_eq_true rfl) ?_
  intro M Q hl hR hin X kret
  subst hl
  refine g_lv [(0, .int (nI n))] rfl ?_
  refine g_iconst (pc := 0) X (v := nI 2) d_O_prime_0 (by decide) ?_
  refine g_istore_n (pc := 1) X (i := 1) d_O_prime_1 rfl (by decide) ?_
  refine g_lv [(0, .int (nI n)), (1, .int (nI 2))] rfl ?_
  refine g_lv [(0, .int (nI n)), (1, .int (nI 2))] rfl ?_
  refine g_wsq [] (by rfl) ?_
  refine loopK (fun k => G B M 2 0 0 Q [] [(0, .int (nI n)), (1, .int (nI (k + 2)))] 2 []) m ?_ ?_
  · intro k hk2 kk2
    have hd := h2 (k + 2) (by omega) (by omega)
    have hmd := Nat.mod_lt n (show 0 < k + 2 by omega)
    show G B M 2 0 0 Q [] [(0, .int (nI n)), (1, .int (nI (k + 2)))] 2 []
    refine g_iload_n (pc := 2) X (i := 1) d_O_prime_2 rfl rfl ?_
    refine g_iload_n (pc := 3) X (i := 1) d_O_prime_3 rfl rfl ?_
    refine g_imulN (pc := 4) X ((k + 2) * (k + 2)) rfl d_O_prime_4 ?_
    refine g_iload_n (pc := 5) X (i := 0) d_O_prime_5 rfl rfl ?_
    refine g_icmp_gtN (pc := 6) X (tgt := 23) d_O_prime_6 (by decide) (by omega) (by omega) (fun h_6 => absurd h_6 (by omega)) (fun h_6 => ?_)
    refine g_iload_n (pc := 9) X (i := 0) d_O_prime_9 rfl rfl ?_
    refine g_iload_n (pc := 10) X (i := 1) d_O_prime_10 rfl rfl ?_
    refine g_iremN (pc := 11) X (n % (k + 2)) (by omega) (by omega) (by omega) rfl d_O_prime_11 ?_
    refine g_if_neN (pc := 12) X (tgt := 17) d_O_prime_12 (by decide) (by omega) (fun h_12 => ?_) (fun h_12 => (by first | exact absurd h_12 hd.2 | (have := h3.2; omega)))
    refine g_iincN (pc := 17) X (a := k + 2) (k + 3) d_O_prime_17 rfl 1 rfl (by omega) (by decide) ?_
    refine g_lv [(0, .int (nI n)), (1, .int (nI (k + 3)))] rfl ?_
    refine g_goto (pc := 20) X (tgt := 2) d_O_prime_20 (by decide) ?_
    refine g_lv [(0, .int (nI n)), (1, .int (nI (k + 3)))] rfl ?_
    refine g_wsq [] (by rfl) ?_
    exact kk2
  · show G B M 2 0 0 Q [] [(0, .int (nI n)), (1, .int (nI (m + 2)))] 2 []
    have hmd := Nat.mod_lt n (show 0 < m + 2 by omega)
    have h31 := h3.1
    have h32 := h3.2
    refine g_iload_n (pc := 2) X (i := 1) d_O_prime_2 rfl rfl ?_
    refine g_iload_n (pc := 3) X (i := 1) d_O_prime_3 rfl rfl ?_
    refine g_imulN (pc := 4) X ((m + 2) * (m + 2)) rfl d_O_prime_4 ?_
    refine g_iload_n (pc := 5) X (i := 0) d_O_prime_5 rfl rfl ?_
    refine g_icmp_gtN (pc := 6) X (tgt := 23) d_O_prime_6 (by decide) (by omega) (by omega) (fun h_6 => absurd h_6 (by omega)) (fun h_6 => ?_)
    refine g_iload_n (pc := 9) X (i := 0) d_O_prime_9 rfl rfl ?_
    refine g_iload_n (pc := 10) X (i := 1) d_O_prime_10 rfl rfl ?_
    refine g_iremN (pc := 11) X (n % (m + 2)) (by omega) (by omega) (by omega) rfl d_O_prime_11 ?_
    refine g_if_neN (pc := 12) X (tgt := 17) d_O_prime_12 (by decide) (by omega) (fun h_12 => (by first | exact absurd h_12 hd.2 | (have := h3.2; omega))) (fun h_12 => ?_)
    refine g_iconst (pc := 15) X (v := nI 0) d_O_prime_15 (by decide) ?_
    exact kret _ () _ 16 ⟨by rfl, rfl⟩ d_O_prime_16

theorem c_O_bit (l : Launch) (B : Bx) (t : Nat) (h1 : t < 255) : Ci (S := Unit) l B y_O_bit b_O_bit 3 .int (Rm 1 0 0) [.int (nI t)] [] (fun r _ => r = bitV t) (fun _ => []) := by
  refine ctr_i (by decide) (Nat.le_of_ble_eq_true rfl) ?_
  intro M Q hl hR hin X kret
  subst hl
  refine g_lv [(0, .int (nI t))] rfl ?_
  refine g_iconst (pc := 0) X (v := nI 1) d_O_bit_0 (by decide) ?_
  refine g_istore_n (pc := 1) X (i := 1) d_O_bit_1 rfl (by decide) ?_
  refine g_lv [(0, .int (nI t)), (1, .int (nI 1))] rfl ?_
  refine g_iconst (pc := 2) X (v := nI 0) d_O_bit_2 (by decide) ?_
  refine g_istore_n (pc := 3) X (i := 2) d_O_bit_3 rfl (by decide) ?_
  refine g_lv [(0, .int (nI t)), (1, .int (nI 1)), (2, .int (nI 0))] rfl ?_
  refine g_lv [(0, .int (nI t)), (1, .int (nI 1)), (2, .int (nI 0))] rfl ?_
  refine loopF (σ := Int32) bvI (fun i v => G B M 3 0 0 Q [] [(0, .int (nI t)), (1, .int v), (2, .int (nI i))] 4 []) t (nI 1) ?_ ?_
  · intro i v hk4 kk4
    show G B M 3 0 0 Q [] [(0, .int (nI t)), (1, .int v), (2, .int (nI i))] 4 []
    refine g_iload_n (pc := 4) X (i := 2) d_O_bit_4 rfl rfl ?_
    refine g_iload_n (pc := 5) X (i := 0) d_O_bit_5 rfl rfl ?_
    refine g_sipush (pc := 6) X (v := nI 255) d_O_bit_6 (by decide) ?_
    refine g_iremN (pc := 9) X (t % 255) (by omega) (by omega) (by omega) rfl d_O_bit_9 ?_
    refine g_icmp_geN (pc := 10) X (tgt := 43) d_O_bit_10 (by decide) (by omega) (by omega) (fun h_10 => absurd h_10 (by omega)) (fun h_10 => ?_)
    refine g_iload_n (pc := 13) X (i := 1) d_O_bit_13 rfl rfl ?_
    refine g_sipush (pc := 14) X (v := nI 128) d_O_bit_14 (by decide) ?_
    refine g_icmp_ge (pc := 17) X (tgt := 26) d_O_bit_17 (by decide) (fun h_17 => ?_) (fun h_17 => ?_)
    · refine g_iconst (pc := 26) X (v := nI 2) d_O_bit_26 (by decide) ?_
      refine g_iload_n (pc := 27) X (i := 1) d_O_bit_27 rfl rfl ?_
      refine g_imul (pc := 28) X d_O_bit_28 ?_
      refine g_sipush (pc := 29) X (v := nI 255) d_O_bit_29 (by decide) ?_
      refine g_iand (pc := 32) X d_O_bit_32 ?_
      refine g_bipush (pc := 33) X (v := nI 113) d_O_bit_33 (by decide) ?_
      refine g_ixor (pc := 35) X d_O_bit_35 ?_
      refine g_istore_n (pc := 36) X (i := 1) d_O_bit_36 rfl (by decide) ?_
      refine g_lv [(0, .int (nI t)), (1, .int ((((nI 2) * v) &&& (nI 255)) ^^^ (nI 113))), (2, .int (nI i))] rfl ?_
      refine g_iincN (pc := 37) X (a := i) (i + 1) d_O_bit_37 rfl 1 rfl (by omega) (by decide) ?_
      refine g_lv [(0, .int (nI t)), (1, .int ((((nI 2) * v) &&& (nI 255)) ^^^ (nI 113))), (2, .int (nI (i + 1)))] rfl ?_
      refine g_goto (pc := 40) X (tgt := 4) d_O_bit_40 (by decide) ?_
      refine g_lv [(0, .int (nI t)), (1, .int ((((nI 2) * v) &&& (nI 255)) ^^^ (nI 113))), (2, .int (nI (i + 1)))] rfl ?_
      exact kk4 _ (by unfold bvI; first | rw [if_pos (by assumption)] | rw [if_neg (by assumption)])
    · refine g_iconst (pc := 20) X (v := nI 2) d_O_bit_20 (by decide) ?_
      refine g_iload_n (pc := 21) X (i := 1) d_O_bit_21 rfl rfl ?_
      refine g_imul (pc := 22) X d_O_bit_22 ?_
      refine g_goto (pc := 23) X (tgt := 36) d_O_bit_23 (by decide) ?_
      refine g_istore_n (pc := 36) X (i := 1) d_O_bit_36 rfl (by decide) ?_
      refine g_lv [(0, .int (nI t)), (1, .int ((nI 2) * v)), (2, .int (nI i))] rfl ?_
      refine g_iincN (pc := 37) X (a := i) (i + 1) d_O_bit_37 rfl 1 rfl (by omega) (by decide) ?_
      refine g_lv [(0, .int (nI t)), (1, .int ((nI 2) * v)), (2, .int (nI (i + 1)))] rfl ?_
      refine g_goto (pc := 40) X (tgt := 4) d_O_bit_40 (by decide) ?_
      refine g_lv [(0, .int (nI t)), (1, .int ((nI 2) * v)), (2, .int (nI (i + 1)))] rfl ?_
      exact kk4 _ (by unfold bvI; first | rw [if_pos (by assumption)] | rw [if_neg (by assumption)])
  · show G B M 3 0 0 Q [] [(0, .int (nI t)), (1, .int (it bvI t (nI 1))), (2, .int (nI t))] 4 []
    refine g_iload_n (pc := 4) X (i := 2) d_O_bit_4 rfl rfl ?_
    refine g_iload_n (pc := 5) X (i := 0) d_O_bit_5 rfl rfl ?_
    refine g_sipush (pc := 6) X (v := nI 255) d_O_bit_6 (by decide) ?_
    refine g_iremN (pc := 9) X (t % 255) (by omega) (by omega) (by omega) rfl d_O_bit_9 ?_
    refine g_icmp_geN (pc := 10) X (tgt := 43) d_O_bit_10 (by decide) (by omega) (by omega) (fun h_10 => ?_) (fun h_10 => absurd h_10 (by omega))
    refine g_iload_n (pc := 43) X (i := 1) d_O_bit_43 rfl rfl ?_
    refine g_iconst (pc := 44) X (v := nI 1) d_O_bit_44 (by decide) ?_
    refine g_iand (pc := 45) X d_O_bit_45 ?_
    exact kret _ () _ 46 rfl d_O_bit_46
