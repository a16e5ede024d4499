theorem c_P_squeeze (l : Launch) (B : Bx) (a : Nat) (la : Nat) (mo : Nat) (cm : Nat) (ta : Nat) (tn : Nat) (rate : Nat) (n : Nat) (f : Nat → Int64) (m : Nat → Int64) (c : Nat → Int64) (o : Nat → Int8) (h1 : n ≤ tn) (h2 : tn < 2 ^ 31) (h3 : 0 < rate) (h4 : rate ≤ 200) : Cv (S := Unit) l B y_P_squeeze b_P_squeeze 6 (Rm 4 0 0) [.ref a, .int (nI rate), .ref ta, .int (nI n)] [co a 2 [.ref la, .ref mo, .ref cm], cj B la 25 f, cj B mo 25 m, cj B cm 5 c, cb B ta tn o] (fun _ => True) (fun _ => [co a 2 [.ref la, .ref mo, .ref cm], cj B la 25 ((sqS rate n (f, m, c) o).1), cj B mo 25 ((sqS rate n (f, m, c) o).2.1), cj B cm 5 ((sqS rate n (f, m, c) o).2.2.1), cb B ta tn ((sqS rate n (f, m, c) o).2.2.2.2)]) := by
  refine ctr_v (by decide) (Nat.le_of_ble_eq_true rfl) ?_
  intro M Q hl hR hin X kret
  subst hl
  refine g_lv [(0, .ref a), (1, .int (nI rate)), (2, .ref ta), (3, .int (nI n))] rfl ?_
  refine g_iconst (pc := 0) X (v := nI 0) d_P_squeeze_0 (by decide) ?_
  refine g_istore (pc := 1) X d_P_squeeze_1 (by decide) ?_
  refine g_lv [(0, .ref a), (1, .int (nI rate)), (2, .ref ta), (3, .int (nI n)), (4, .int (nI 0))] rfl ?_
  refine g_iconst (pc := 3) X (v := nI 0) d_P_squeeze_3 (by decide) ?_
  refine g_istore (pc := 4) X d_P_squeeze_4 (by decide) ?_
  refine g_lv [(0, .ref a), (1, .int (nI rate)), (2, .ref ta), (3, .int (nI n)), (4, .int (nI 0)), (5, .int (nI 0))] rfl ?_
  refine g_lv [(0, .ref a), (1, .int (nI rate)), (2, .ref ta), (3, .int (nI n)), (4, .int (nI 0)), (5, .int (nI 0))] rfl ?_
  refine loopI (σ := S5) (sqF rate) (fun k s => s.2.2.2.1 ≤ rate) (fun k s => G B M 6 0 0 Q [co a 2 [.ref la, .ref mo, .ref cm], cj B la 25 s.1, cj B mo 25 s.2.1, cj B cm 5 s.2.2.1, cb B ta tn s.2.2.2.2] [(0, .ref a), (1, .int (nI rate)), (2, .ref ta), (3, .int (nI n)), (4, .int (nI s.2.2.2.1)), (5, .int (nI k))] 6 []) n (f, m, c, 0, o) (Nat.zero_le _) (fun k s _ h => sqF_le h3 k s h) ?_ ?_
  · intro k s hk6 hI6 kk6
    show G B M 6 0 0 Q [co a 2 [.ref la, .ref mo, .ref cm], cj B la 25 s.1, cj B mo 25 s.2.1, cj B cm 5 s.2.2.1, cb B ta tn s.2.2.2.2] [(0, .ref a), (1, .int (nI rate)), (2, .ref ta), (3, .int (nI n)), (4, .int (nI s.2.2.2.1)), (5, .int (nI k))] 6 []
    refine g_iload (pc := 6) X d_P_squeeze_6 rfl ?_
    refine g_iload_n (pc := 8) X (i := 3) d_P_squeeze_8 rfl rfl ?_
    refine g_icmp_geN (pc := 9) X (tgt := 58) d_P_squeeze_9 (by decide) (by omega) (by omega) (fun h_9 => absurd h_9 (by omega)) (fun h_9 => ?_)
    refine g_iload (pc := 12) X d_P_squeeze_12 rfl ?_
    refine g_iload_n (pc := 14) X (i := 1) d_P_squeeze_14 rfl rfl ?_
    refine g_icmp_neN (pc := 15) X (tgt := 25) d_P_squeeze_15 (by decide) (by omega) (by omega) (fun h_15 => ?_) (fun h_15 => ?_)
    · refine g_aload_n (pc := 25) X (i := 2) d_P_squeeze_25 rfl rfl ?_
      refine g_iload (pc := 26) X d_P_squeeze_26 rfl ?_
      refine g_aload_n (pc := 28) X (i := 0) d_P_squeeze_28 rfl rfl ?_
      refine g_get (pc := 29) X in_P 0 rfl rfl 0 (by decide) wd_54 rfl d_P_squeeze_29 ?_
      refine g_iload (pc := 32) X d_P_squeeze_32 rfl ?_
      refine g_iconst (pc := 34) X (v := nI 3) d_P_squeeze_34 (by decide) ?_
      refine g_ishrN (pc := 35) X 3 (s.2.2.2.1 / 8) rfl (by omega) rfl d_P_squeeze_35 ?_
      refine g_lald (pc := 36) X 1 rfl (s.2.2.2.1 / 8) rfl (by omega) (by omega) d_P_squeeze_36 ?_
      refine g_bipush (pc := 37) X (v := nI 8) d_P_squeeze_37 (by decide) ?_
      refine g_iload (pc := 39) X d_P_squeeze_39 rfl ?_
      refine g_bipush (pc := 41) X (v := nI 7) d_P_squeeze_41 (by decide) ?_
      refine g_iandN (pc := 43) X 3 (s.2.2.2.1 % 8) rfl (by omega) rfl d_P_squeeze_43 ?_
      refine g_imulN (pc := 44) X (8 * (s.2.2.2.1 % 8)) rfl d_P_squeeze_44 ?_
      refine g_lushr (pc := 45) X (v := lush (s.1 (s.2.2.2.1 / 8)) (nI (8 * (s.2.2.2.1 % 8)))) d_P_squeeze_45 rfl ?_
      refine g_l2i (pc := 46) X d_P_squeeze_46 rfl ?_
      refine g_i2b (pc := 47) X d_P_squeeze_47 rfl ?_
      refine g_bastB (pc := 48) X 4 rfl k rfl (by omega) (by omega) d_P_squeeze_48 ?_
      refine g_wsq [co a 2 [.ref la, .ref mo, .ref cm], cj B la 25 s.1, cj B mo 25 s.2.1, cj B cm 5 s.2.2.1, cb B ta tn (va_up s.2.2.2.2 k (((lush (s.1 (s.2.2.2.1 / 8)) (nI (8 * (s.2.2.2.1 % 8)))).toInt32).toInt8))] rfl ?_
      refine g_iincN (pc := 49) X (a := s.2.2.2.1) (s.2.2.2.1 + 1) d_P_squeeze_49 rfl 1 rfl (by omega) (by decide) ?_
      refine g_lv [(0, .ref a), (1, .int (nI rate)), (2, .ref ta), (3, .int (nI n)), (4, .int (nI (s.2.2.2.1 + 1))), (5, .int (nI k))] rfl ?_
      refine g_iincN (pc := 52) X (a := k) (k + 1) d_P_squeeze_52 rfl 1 rfl (by omega) (by decide) ?_
      refine g_lv [(0, .ref a), (1, .int (nI rate)), (2, .ref ta), (3, .int (nI n)), (4, .int (nI (s.2.2.2.1 + 1))), (5, .int (nI (k + 1)))] rfl ?_
      refine g_goto (pc := 55) X (tgt := 6) d_P_squeeze_55 (by decide) ?_
      refine g_lv [(0, .ref a), (1, .int (nI rate)), (2, .ref ta), (3, .int (nI n)), (4, .int (nI (s.2.2.2.1 + 1))), (5, .int (nI (k + 1)))] rfl ?_
      exact kk6 (_, _, _, _, _) (by unfold sqF sqP; first | (rw [if_pos (by omega)] <;> rfl) | (rw [if_neg (by omega)] <;> rfl))
    · refine g_aload_n (pc := 18) X (i := 0) d_P_squeeze_18 rfl rfl ?_
      refine g_callVv (pc := 19) (q0 := 0) X (c_P_permute (m_l M) B a la mo cm s.1 s.2.1 s.2.2.1 ) wd_673 wd_675 wp_P_permute wd_3 wd_676 hd_P_permute [0, 1, 2, 3] rfl rfl [a, la, mo, cm] (fun _ => rfl) rfl rfl rfl (by rw [hR]; decide) (by rw [hR]; decide) rfl (Nat.le_of_ble_eq_true rfl) d_P_squeeze_19 (fun _ _ => ?_)
      refine g_wsq [co a 2 [.ref la, .ref mo, .ref cm], cj B la 25 ((prm (s.1, s.2.1, s.2.2.1)).1), cj B mo 25 ((prm (s.1, s.2.1, s.2.2.1)).2.1), cj B cm 5 ((prm (s.1, s.2.1, s.2.2.1)).2.2), cb B ta tn s.2.2.2.2] rfl ?_
      refine g_iconst (pc := 22) X (v := nI 0) d_P_squeeze_22 (by decide) ?_
      refine g_istore (pc := 23) X d_P_squeeze_23 (by decide) ?_
      refine g_lv [(0, .ref a), (1, .int (nI rate)), (2, .ref ta), (3, .int (nI n)), (4, .int (nI 0)), (5, .int (nI k))] rfl ?_
      refine g_aload_n (pc := 25) X (i := 2) d_P_squeeze_25 rfl rfl ?_
      refine g_iload (pc := 26) X d_P_squeeze_26 rfl ?_
      refine g_aload_n (pc := 28) X (i := 0) d_P_squeeze_28 rfl rfl ?_
      refine g_get (pc := 29) X in_P 0 rfl rfl 0 (by decide) wd_54 rfl d_P_squeeze_29 ?_
      refine g_iload (pc := 32) X d_P_squeeze_32 rfl ?_
      refine g_iconst (pc := 34) X (v := nI 3) d_P_squeeze_34 (by decide) ?_
      refine g_ishrN (pc := 35) X 3 (0 / 8) rfl (by omega) rfl d_P_squeeze_35 ?_
      refine g_lald (pc := 36) X 1 rfl (0 / 8) rfl (by omega) (by omega) d_P_squeeze_36 ?_
      refine g_bipush (pc := 37) X (v := nI 8) d_P_squeeze_37 (by decide) ?_
      refine g_iload (pc := 39) X d_P_squeeze_39 rfl ?_
      refine g_bipush (pc := 41) X (v := nI 7) d_P_squeeze_41 (by decide) ?_
      refine g_iandN (pc := 43) X 3 (0 % 8) rfl (by omega) rfl d_P_squeeze_43 ?_
      refine g_imulN (pc := 44) X (8 * (0 % 8)) rfl d_P_squeeze_44 ?_
      refine g_lushr (pc := 45) X (v := lush (((prm (s.1, s.2.1, s.2.2.1)).1) (0 / 8)) (nI (8 * (0 % 8)))) d_P_squeeze_45 rfl ?_
      refine g_l2i (pc := 46) X d_P_squeeze_46 rfl ?_
      refine g_i2b (pc := 47) X d_P_squeeze_47 rfl ?_
      refine g_bastB (pc := 48) X 4 rfl k rfl (by omega) (by omega) d_P_squeeze_48 ?_
      refine g_wsq [co a 2 [.ref la, .ref mo, .ref cm], cj B la 25 ((prm (s.1, s.2.1, s.2.2.1)).1), cj B mo 25 ((prm (s.1, s.2.1, s.2.2.1)).2.1), cj B cm 5 ((prm (s.1, s.2.1, s.2.2.1)).2.2), cb B ta tn (va_up s.2.2.2.2 k (((lush (((prm (s.1, s.2.1, s.2.2.1)).1) (0 / 8)) (nI (8 * (0 % 8)))).toInt32).toInt8))] rfl ?_
      refine g_iincN (pc := 49) X (a := 0) 1 d_P_squeeze_49 rfl 1 rfl (by omega) (by decide) ?_
      refine g_lv [(0, .ref a), (1, .int (nI rate)), (2, .ref ta), (3, .int (nI n)), (4, .int (nI 1)), (5, .int (nI k))] rfl ?_
      refine g_iincN (pc := 52) X (a := k) (k + 1) d_P_squeeze_52 rfl 1 rfl (by omega) (by decide) ?_
      refine g_lv [(0, .ref a), (1, .int (nI rate)), (2, .ref ta), (3, .int (nI n)), (4, .int (nI 1)), (5, .int (nI (k + 1)))] rfl ?_
      refine g_goto (pc := 55) X (tgt := 6) d_P_squeeze_55 (by decide) ?_
      refine g_lv [(0, .ref a), (1, .int (nI rate)), (2, .ref ta), (3, .int (nI n)), (4, .int (nI 1)), (5, .int (nI (k + 1)))] rfl ?_
      exact kk6 (_, _, _, _, _) (by unfold sqF sqP; first | (rw [if_pos (by omega)] <;> rfl) | (rw [if_neg (by omega)] <;> rfl))
  · intro hI6
    rw [show it (sqF rate) n (f, m, c, 0, o) = sqS rate n (f, m, c) o from rfl] at hI6 ⊢
    show G B M 6 0 0 Q [co a 2 [.ref la, .ref mo, .ref cm], cj B la 25 ((sqS rate n (f, m, c) o).1), cj B mo 25 ((sqS rate n (f, m, c) o).2.1), cj B cm 5 ((sqS rate n (f, m, c) o).2.2.1), cb B ta tn ((sqS rate n (f, m, c) o).2.2.2.2)] [(0, .ref a), (1, .int (nI rate)), (2, .ref ta), (3, .int (nI n)), (4, .int (nI ((sqS rate n (f, m, c) o).2.2.2.1))), (5, .int (nI n))] 6 []
    refine g_iload (pc := 6) X d_P_squeeze_6 rfl ?_
    refine g_iload_n (pc := 8) X (i := 3) d_P_squeeze_8 rfl rfl ?_
    refine g_icmp_geN (pc := 9) X (tgt := 58) d_P_squeeze_9 (by decide) (by omega) (by omega) (fun h_9 => ?_) (fun h_9 => absurd h_9 (by omega))
    exact kret () _ 58 trivial d_P_squeeze_58
