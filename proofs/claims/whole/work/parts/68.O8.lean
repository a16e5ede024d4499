theorem c_O_in_t (l : Launch) (B : Bx) (v : Int32) (lo : Int32) (hi : Int32) (h : inR v lo hi = nI 1) : Ci (S := Unit) l B y_O_in b_O_in 3 .boolean (Rm 1 0 0) [.int v, .int lo, .int hi] [] (fun r _ => r = nI 1) (fun _ => []) := by
  refine ctr_z (by decide) (Nat.le_of_ble_eq_true rfl) ?_
  intro M Q hl hR hin X kret
  subst hl
  refine g_lv [(0, .int v), (1, .int lo), (2, .int hi)] rfl ?_
  refine g_iload_n (pc := 0) X (i := 0) d_O_in_0 rfl rfl ?_
  refine g_iload_n (pc := 1) X (i := 1) d_O_in_1 rfl rfl ?_
  refine g_icmp_lt (pc := 2) X (tgt := 14) d_O_in_2 (by decide) (fun h_2 => ?_) (fun h_2 => ?_)
  · refine g_iconst (pc := 14) X (v := nI 0) d_O_in_14 (by decide) ?_
    exact kret _ () _ 15 ⟨by first | rfl | decide, by first | rfl | (rw [← h]; unfold inR; repeat (first | rw [if_pos (by assumption)] | rw [if_neg (by assumption)]))⟩ d_O_in_15
  · refine g_iload_n (pc := 5) X (i := 0) d_O_in_5 rfl rfl ?_
    refine g_iload_n (pc := 6) X (i := 2) d_O_in_6 rfl rfl ?_
    refine g_icmp_gt (pc := 7) X (tgt := 14) d_O_in_7 (by decide) (fun h_7 => ?_) (fun h_7 => ?_)
    · refine g_iconst (pc := 14) X (v := nI 0) d_O_in_14 (by decide) ?_
      exact kret _ () _ 15 ⟨by first | rfl | decide, by first | rfl | (rw [← h]; unfold inR; repeat (first | rw [if_pos (by assumption)] | rw [if_neg (by assumption)]))⟩ d_O_in_15
    · refine g_iconst (pc := 10) X (v := nI 1) d_O_in_10 (by decide) ?_
      refine g_goto (pc := 11) X (tgt := 15) d_O_in_11 (by decide) ?_
      exact kret _ () _ 15 ⟨by first | rfl | decide, by first | rfl | (rw [← h]; unfold inR; repeat (first | rw [if_pos (by assumption)] | rw [if_neg (by assumption)]))⟩ d_O_in_15

theorem c_O_in_f (l : Launch) (B : Bx) (v : Int32) (lo : Int32) (hi : Int32) (h : inR v lo hi = nI 0) : Ci (S := Unit) l B y_O_in b_O_in 3 .boolean (Rm 1 0 0) [.int v, .int lo, .int hi] [] (fun r _ => r = nI 0) (fun _ => []) := by
  refine ctr_z (by decide) (Nat.le_of_ble_eq_true rfl) ?_
  intro M Q hl hR hin X kret
  subst hl
  refine g_lv [(0, .int v), (1, .int lo), (2, .int hi)] rfl ?_
  refine g_iload_n (pc := 0) X (i := 0) d_O_in_0 rfl rfl ?_
  refine g_iload_n (pc := 1) X (i := 1) d_O_in_1 rfl rfl ?_
  refine g_icmp_lt (pc := 2) X (tgt := 14) d_O_in_2 (by decide) (fun h_2 => ?_) (fun h_2 => ?_)
  · refine g_iconst (pc := 14) X (v := nI 0) d_O_in_14 (by decide) ?_
    exact kret _ () _ 15 ⟨by first | rfl | decide, by first | rfl | (rw [← h]; unfold inR; repeat (first | rw [if_pos (by assumption)] | rw [if_neg (by assumption)]))⟩ d_O_in_15
  · refine g_iload_n (pc := 5) X (i := 0) d_O_in_5 rfl rfl ?_
    refine g_iload_n (pc := 6) X (i := 2) d_O_in_6 rfl rfl ?_
    refine g_icmp_gt (pc := 7) X (tgt := 14) d_O_in_7 (by decide) (fun h_7 => ?_) (fun h_7 => ?_)
    · refine g_iconst (pc := 14) X (v := nI 0) d_O_in_14 (by decide) ?_
      exact kret _ () _ 15 ⟨by first | rfl | decide, by first | rfl | (rw [← h]; unfold inR; repeat (first | rw [if_pos (by assumption)] | rw [if_neg (by assumption)]))⟩ d_O_in_15
    · refine g_iconst (pc := 10) X (v := nI 1) d_O_in_10 (by decide) ?_
      refine g_goto (pc := 11) X (tgt := 15) d_O_in_11 (by decide) ?_
      exact kret _ () _ 15 ⟨by first | rfl | decide, by first | rfl | (rw [← h]; unfold inR; repeat (first | rw [if_pos (by assumption)] | rw [if_neg (by assumption)]))⟩ d_O_in_15

theorem c_O_good_t (l : Launch) (B : Bx) (a : Nat) (q : Nat → Nat) (tp : Nat) (kd : Nat) (rt : Nat) (fl : Nat) (tt : Nat) (cd : Int32) (c : Int32)  : Ci (S := Unit) l B y_O_good b_O_good 3 .boolean (Rm 1 0 0) [.ref a, .int (nI 1), .int c] [co a 4 [.ref (q 0), .ref (q 1), .ref (q 2), .int (nI tp), .int cd, .ref (q 3), .ref (q 4), .ref (q 5), .ref (q 6), .ref (q 7), .ref (q 8), .ref (q 9), .ref (q 10), .ref (q 11), .ref (q 12), .ref (q 13), .ref (q 14), .ref (q 15), .int (nI kd), .int (nI rt), .int (nI fl), .long (lN tt), .ref (q 16), .ref (q 17)]] (fun r _ => r = nI 1) (fun _ => [co a 4 [.ref (q 0), .ref (q 1), .ref (q 2), .int (nI tp), .int (nI 0), .ref (q 3), .ref (q 4), .ref (q 5), .ref (q 6), .ref (q 7), .ref (q 8), .ref (q 9), .ref (q 10), .ref (q 11), .ref (q 12), .ref (q 13), .ref (q 14), .ref (q 15), .int (nI kd), .int (nI rt), .int (nI fl), .long (lN tt), .ref (q 16), .ref (q 17)]]) := by
  refine ctr_z (by decide) (Nat.le_of_ble_eq_true rfl) ?_
  intro M Q hl hR hin X kret
  subst hl
  refine g_lv [(0, .ref a), (1, .int (nI 1)), (2, .int c)] rfl ?_
  refine g_aload_n (pc := 0) X (i := 0) d_O_good_0 rfl rfl ?_
  refine g_iload_n (pc := 1) X (i := 1) d_O_good_1 rfl rfl ?_
  refine g_if_eqN (pc := 2) X (tgt := 9) d_O_good_2 (by decide) (by omega) (fun h_2 => absurd h_2 (by omega)) (fun h_2 => ?_)
  refine g_iconst (pc := 5) X (v := nI 0) d_O_good_5 (by decide) ?_
  refine g_goto (pc := 6) X (tgt := 10) d_O_good_6 (by decide) ?_
  refine g_put (pc := 10) X in_O ty_O ok_O nm_O 0 rfl rfl 4 (by decide) wd_823 rfl rfl rfl (Nat.le_of_ble_eq_true rfl) d_O_good_10 ?_
  refine g_wsq [co a 4 [.ref (q 0), .ref (q 1), .ref (q 2), .int (nI tp), .int (nI 0), .ref (q 3), .ref (q 4), .ref (q 5), .ref (q 6), .ref (q 7), .ref (q 8), .ref (q 9), .ref (q 10), .ref (q 11), .ref (q 12), .ref (q 13), .ref (q 14), .ref (q 15), .int (nI kd), .int (nI rt), .int (nI fl), .long (lN tt), .ref (q 16), .ref (q 17)]] rfl ?_
  refine g_iload_n (pc := 13) X (i := 1) d_O_good_13 rfl rfl ?_
  exact kret _ () _ 14 ⟨by rfl, rfl⟩ d_O_good_14

theorem c_O_good_f (l : Launch) (B : Bx) (a : Nat) (q : Nat → Nat) (tp : Nat) (kd : Nat) (rt : Nat) (fl : Nat) (tt : Nat) (cd : Int32) (c : Int32)  : Ci (S := Unit) l B y_O_good b_O_good 3 .boolean (Rm 1 0 0) [.ref a, .int (nI 0), .int c] [co a 4 [.ref (q 0), .ref (q 1), .ref (q 2), .int (nI tp), .int cd, .ref (q 3), .ref (q 4), .ref (q 5), .ref (q 6), .ref (q 7), .ref (q 8), .ref (q 9), .ref (q 10), .ref (q 11), .ref (q 12), .ref (q 13), .ref (q 14), .ref (q 15), .int (nI kd), .int (nI rt), .int (nI fl), .long (lN tt), .ref (q 16), .ref (q 17)]] (fun r _ => r = nI 0) (fun _ => [co a 4 [.ref (q 0), .ref (q 1), .ref (q 2), .int (nI tp), .int c, .ref (q 3), .ref (q 4), .ref (q 5), .ref (q 6), .ref (q 7), .ref (q 8), .ref (q 9), .ref (q 10), .ref (q 11), .ref (q 12), .ref (q 13), .ref (q 14), .ref (q 15), .int (nI kd), .int (nI rt), .int (nI fl), .long (lN tt), .ref (q 16), .ref (q 17)]]) := by
  refine ctr_z (by decide) (Nat.le_of_ble_eq_true rfl) ?_
  intro M Q hl hR hin X kret
  subst hl
  refine g_lv [(0, .ref a), (1, .int (nI 0)), (2, .int c)] rfl ?_
  refine g_aload_n (pc := 0) X (i := 0) d_O_good_0 rfl rfl ?_
  refine g_iload_n (pc := 1) X (i := 1) d_O_good_1 rfl rfl ?_
  refine g_if_eqN (pc := 2) X (tgt := 9) d_O_good_2 (by decide) (by omega) (fun h_2 => ?_) (fun h_2 => absurd h_2 (by omega))
  refine g_iload_n (pc := 9) X (i := 2) d_O_good_9 rfl rfl ?_
  refine g_put (pc := 10) X in_O ty_O ok_O nm_O 0 rfl rfl 4 (by decide) wd_823 rfl rfl rfl (Nat.le_of_ble_eq_true rfl) d_O_good_10 ?_
  refine g_wsq [co a 4 [.ref (q 0), .ref (q 1), .ref (q 2), .int (nI tp), .int c, .ref (q 3), .ref (q 4), .ref (q 5), .ref (q 6), .ref (q 7), .ref (q 8), .ref (q 9), .ref (q 10), .ref (q 11), .ref (q 12), .ref (q 13), .ref (q 14), .ref (q 15), .int (nI kd), .int (nI rt), .int (nI fl), .long (lN tt), .ref (q 16), .ref (q 17)]] rfl ?_
  refine g_iload_n (pc := 13) X (i := 1) d_O_good_13 rfl rfl ?_
  exact kret _ () _ 14 ⟨by rfl, rfl⟩ d_O_good_14

theorem c_O_thrown (l : Launch) (B : Bx) (a : Nat) (q : Nat → Nat) (tp : Nat) (kd : Nat) (rt : Nat) (fl : Nat) (tt : Nat) (cd : Int32)  : Ci (S := Unit) l B y_O_thrown b_O_thrown 1 .int (Rm 1 0 0) [.ref a] [co a 4 [.ref (q 0), .ref (q 1), .ref (q 2), .int (nI tp), .int cd, .ref (q 3), .ref (q 4), .ref (q 5), .ref (q 6), .ref (q 7), .ref (q 8), .ref (q 9), .ref (q 10), .ref (q 11), .ref (q 12), .ref (q 13), .ref (q 14), .ref (q 15), .int (nI kd), .int (nI rt), .int (nI fl), .long (lN tt), .ref (q 16), .ref (q 17)]] (fun r _ => r = cd) (fun _ => [co a 4 [.ref (q 0), .ref (q 1), .ref (q 2), .int (nI tp), .int cd, .ref (q 3), .ref (q 4), .ref (q 5), .ref (q 6), .ref (q 7), .ref (q 8), .ref (q 9), .ref (q 10), .ref (q 11), .ref (q 12), .ref (q 13), .ref (q 14), .ref (q 15), .int (nI kd), .int (nI rt), .int (nI fl), .long (lN tt), .ref (q 16), .ref (q 17)]]) := by
  refine ctr_i (by decide) (Nat.le_of_ble_eq_true rfl) ?_
  intro M Q hl hR hin X kret
  subst hl
  refine g_lv [(0, .ref a)] rfl ?_
  refine g_aload_n (pc := 0) X (i := 0) d_O_thrown_0 rfl rfl ?_
  refine g_get (pc := 1) X in_O 0 rfl rfl 4 (by decide) wd_823 rfl d_O_thrown_1 ?_
  exact kret _ () _ 4 rfl d_O_thrown_4

theorem c_O_word (l : Launch) (B : Bx) (a : Nat) (q : Nat → Nat) (tp : Nat) (kd : Nat) (rt : Nat) (fl : Nat) (tt : Nat) (cd : Int32) (v : Int32) (f : Nat → Int8) (h1 : tp + 4 ≤ 8192) : Cv (S := Unit) l B y_O_word b_O_word 3 (Rm 1 0 0) [.ref a, .int v] [co a 4 [.ref (q 0), .ref (q 1), .ref (q 2), .int (nI tp), .int cd, .ref (q 3), .ref (q 4), .ref (q 5), .ref (q 6), .ref (q 7), .ref (q 8), .ref (q 9), .ref (q 10), .ref (q 11), .ref (q 12), .ref (q 13), .ref (q 14), .ref (q 15), .int (nI kd), .int (nI rt), .int (nI fl), .long (lN tt), .ref (q 16), .ref (q 17)], cb B (q 0) 8192 f] (fun _ => True) (fun _ => [co a 4 [.ref (q 0), .ref (q 1), .ref (q 2), .int (nI (tp + 4)), .int cd, .ref (q 3), .ref (q 4), .ref (q 5), .ref (q 6), .ref (q 7), .ref (q 8), .ref (q 9), .ref (q 10), .ref (q 11), .ref (q 12), .ref (q 13), .ref (q 14), .ref (q 15), .int (nI kd), .int (nI rt), .int (nI fl), .long (lN tt), .ref (q 16), .ref (q 17)], cb B (q 0) 8192 (wr4 f tp v)]) := by
  refine ctr_v (by decide) (Nat.le_of_ble_eq_true rfl) ?_
  intro M Q hl hR hin X kret
  subst hl
  refine g_lv [(0, .ref a), (1, .int v)] rfl ?_
  refine g_iconst (pc := 0) X (v := nI 0) d_O_word_0 (by decide) ?_
  refine g_istore_n (pc := 1) X (i := 2) d_O_word_1 rfl (by decide) ?_
  refine g_lv [(0, .ref a), (1, .int v), (2, .int (nI 0))] rfl ?_
  refine g_iload_n (pc := 2) X (i := 2) d_O_word_2 rfl rfl ?_
  refine g_iconst (pc := 3) X (v := nI 4) d_O_word_3 (by decide) ?_
  refine g_icmp_geN (pc := 4) X (tgt := 34) d_O_word_4 (by decide) (by omega) (by omega) (fun h_4 => absurd h_4 (by omega)) (fun h_4 => ?_)
  refine g_aload_n (pc := 7) X (i := 0) d_O_word_7 rfl rfl ?_
  refine g_get (pc := 8) X in_O 0 rfl rfl 0 (by decide) wd_819 rfl d_O_word_8 ?_
  refine g_aload_n (pc := 11) X (i := 0) d_O_word_11 rfl rfl ?_
  refine g_get (pc := 12) X in_O 0 rfl rfl 3 (by decide) wd_822 rfl d_O_word_12 ?_
  refine g_iload_n (pc := 15) X (i := 2) d_O_word_15 rfl rfl ?_
  refine g_iaddN (pc := 16) X tp (by omega) d_O_word_16 ?_
  refine g_iload_n (pc := 17) X (i := 1) d_O_word_17 rfl rfl ?_
  refine g_bipush (pc := 18) X (v := nI 24) d_O_word_18 (by decide) ?_
  refine g_bipush (pc := 20) X (v := nI 8) d_O_word_20 (by decide) ?_
  refine g_iload_n (pc := 22) X (i := 2) d_O_word_22 rfl rfl ?_
  refine g_imulN (pc := 23) X 0 rfl d_O_word_23 ?_
  refine g_isubN (pc := 24) X 24 (by omega) d_O_word_24 ?_
  refine g_ishr (pc := 25) X d_O_word_25 ?_
  refine g_i2b (pc := 26) X d_O_word_26 rfl ?_
  refine g_bastB (pc := 27) X 1 rfl tp rfl (by omega) (by omega) d_O_word_27 ?_
  refine g_wsq [co a 4 [.ref (q 0), .ref (q 1), .ref (q 2), .int (nI tp), .int cd, .ref (q 3), .ref (q 4), .ref (q 5), .ref (q 6), .ref (q 7), .ref (q 8), .ref (q 9), .ref (q 10), .ref (q 11), .ref (q 12), .ref (q 13), .ref (q 14), .ref (q 15), .int (nI kd), .int (nI rt), .int (nI fl), .long (lN tt), .ref (q 16), .ref (q 17)], cb B (q 0) 8192 (va_up f tp ((v >>> ((nI 24) &&& 31)).toInt8))] rfl ?_
  refine g_iincN (pc := 28) X (a := 0) 1 d_O_word_28 rfl 1 rfl (by omega) (by decide) ?_
  refine g_lv [(0, .ref a), (1, .int v), (2, .int (nI 1))] rfl ?_
  refine g_goto (pc := 31) X (tgt := 2) d_O_word_31 (by decide) ?_
  refine g_iload_n (pc := 2) X (i := 2) d_O_word_2 rfl rfl ?_
  refine g_iconst (pc := 3) X (v := nI 4) d_O_word_3 (by decide) ?_
  refine g_icmp_geN (pc := 4) X (tgt := 34) d_O_word_4 (by decide) (by omega) (by omega) (fun h_4 => absurd h_4 (by omega)) (fun h_4 => ?_)
  refine g_aload_n (pc := 7) X (i := 0) d_O_word_7 rfl rfl ?_
  refine g_get (pc := 8) X in_O 0 rfl rfl 0 (by decide) wd_819 rfl d_O_word_8 ?_
  refine g_aload_n (pc := 11) X (i := 0) d_O_word_11 rfl rfl ?_
  refine g_get (pc := 12) X in_O 0 rfl rfl 3 (by decide) wd_822 rfl d_O_word_12 ?_
  refine g_iload_n (pc := 15) X (i := 2) d_O_word_15 rfl rfl ?_
  refine g_iaddN (pc := 16) X (tp + 1) (by omega) d_O_word_16 ?_
  refine g_iload_n (pc := 17) X (i := 1) d_O_word_17 rfl rfl ?_
  refine g_bipush (pc := 18) X (v := nI 24) d_O_word_18 (by decide) ?_
  refine g_bipush (pc := 20) X (v := nI 8) d_O_word_20 (by decide) ?_
  refine g_iload_n (pc := 22) X (i := 2) d_O_word_22 rfl rfl ?_
  refine g_imulN (pc := 23) X 8 rfl d_O_word_23 ?_
  refine g_isubN (pc := 24) X 16 (by omega) d_O_word_24 ?_
  refine g_ishr (pc := 25) X d_O_word_25 ?_
  refine g_i2b (pc := 26) X d_O_word_26 rfl ?_
  refine g_bastB (pc := 27) X 1 rfl (tp + 1) rfl (by omega) (by omega) d_O_word_27 ?_
  refine g_wsq [co a 4 [.ref (q 0), .ref (q 1), .ref (q 2), .int (nI tp), .int cd, .ref (q 3), .ref (q 4), .ref (q 5), .ref (q 6), .ref (q 7), .ref (q 8), .ref (q 9), .ref (q 10), .ref (q 11), .ref (q 12), .ref (q 13), .ref (q 14), .ref (q 15), .int (nI kd), .int (nI rt), .int (nI fl), .long (lN tt), .ref (q 16), .ref (q 17)], cb B (q 0) 8192 (va_up (va_up f tp ((v >>> ((nI 24) &&& 31)).toInt8)) (tp + 1) ((v >>> ((nI 16) &&& 31)).toInt8))] rfl ?_
  refine g_iincN (pc := 28) X (a := 1) 2 d_O_word_28 rfl 1 rfl (by omega) (by decide) ?_
  refine g_lv [(0, .ref a), (1, .int v), (2, .int (nI 2))] rfl ?_
  refine g_goto (pc := 31) X (tgt := 2) d_O_word_31 (by decide) ?_
  refine g_iload_n (pc := 2) X (i := 2) d_O_word_2 rfl rfl ?_
  refine g_iconst (pc := 3) X (v := nI 4) d_O_word_3 (by decide) ?_
  refine g_icmp_geN (pc := 4) X (tgt := 34) d_O_word_4 (by decide) (by omega) (by omega) (fun h_4 => absurd h_4 (by omega)) (fun h_4 => ?_)
  refine g_aload_n (pc := 7) X (i := 0) d_O_word_7 rfl rfl ?_
  refine g_get (pc := 8) X in_O 0 rfl rfl 0 (by decide) wd_819 rfl d_O_word_8 ?_
  refine g_aload_n (pc := 11) X (i := 0) d_O_word_11 rfl rfl ?_
  refine g_get (pc := 12) X in_O 0 rfl rfl 3 (by decide) wd_822 rfl d_O_word_12 ?_
  refine g_iload_n (pc := 15) X (i := 2) d_O_word_15 rfl rfl ?_
  refine g_iaddN (pc := 16) X (tp + 2) (by omega) d_O_word_16 ?_
  refine g_iload_n (pc := 17) X (i := 1) d_O_word_17 rfl rfl ?_
  refine g_bipush (pc := 18) X (v := nI 24) d_O_word_18 (by decide) ?_
  refine g_bipush (pc := 20) X (v := nI 8) d_O_word_20 (by decide) ?_
  refine g_iload_n (pc := 22) X (i := 2) d_O_word_22 rfl rfl ?_
  refine g_imulN (pc := 23) X 16 rfl d_O_word_23 ?_
  refine g_isubN (pc := 24) X 8 (by omega) d_O_word_24 ?_
  refine g_ishr (pc := 25) X d_O_word_25 ?_
  refine g_i2b (pc := 26) X d_O_word_26 rfl ?_
  refine g_bastB (pc := 27) X 1 rfl (tp + 2) rfl (by omega) (by omega) d_O_word_27 ?_
  refine g_wsq [co a 4 [.ref (q 0), .ref (q 1), .ref (q 2), .int (nI tp), .int cd, .ref (q 3), .ref (q 4), .ref (q 5), .ref (q 6), .ref (q 7), .ref (q 8), .ref (q 9), .ref (q 10), .ref (q 11), .ref (q 12), .ref (q 13), .ref (q 14), .ref (q 15), .int (nI kd), .int (nI rt), .int (nI fl), .long (lN tt), .ref (q 16), .ref (q 17)], cb B (q 0) 8192 (va_up (va_up (va_up f tp ((v >>> ((nI 24) &&& 31)).toInt8)) (tp + 1) ((v >>> ((nI 16) &&& 31)).toInt8)) (tp + 2) ((v >>> ((nI 8) &&& 31)).toInt8))] rfl ?_
  refine g_iincN (pc := 28) X (a := 2) 3 d_O_word_28 rfl 1 rfl (by omega) (by decide) ?_
  refine g_lv [(0, .ref a), (1, .int v), (2, .int (nI 3))] rfl ?_
  refine g_goto (pc := 31) X (tgt := 2) d_O_word_31 (by decide) ?_
  refine g_iload_n (pc := 2) X (i := 2) d_O_word_2 rfl rfl ?_
  refine g_iconst (pc := 3) X (v := nI 4) d_O_word_3 (by decide) ?_
  refine g_icmp_geN (pc := 4) X (tgt := 34) d_O_word_4 (by decide) (by omega) (by omega) (fun h_4 => absurd h_4 (by omega)) (fun h_4 => ?_)
  refine g_aload_n (pc := 7) X (i := 0) d_O_word_7 rfl rfl ?_
  refine g_get (pc := 8) X in_O 0 rfl rfl 0 (by decide) wd_819 rfl d_O_word_8 ?_
  refine g_aload_n (pc := 11) X (i := 0) d_O_word_11 rfl rfl ?_
  refine g_get (pc := 12) X in_O 0 rfl rfl 3 (by decide) wd_822 rfl d_O_word_12 ?_
  refine g_iload_n (pc := 15) X (i := 2) d_O_word_15 rfl rfl ?_
  refine g_iaddN (pc := 16) X (tp + 3) (by omega) d_O_word_16 ?_
  refine g_iload_n (pc := 17) X (i := 1) d_O_word_17 rfl rfl ?_
  refine g_bipush (pc := 18) X (v := nI 24) d_O_word_18 (by decide) ?_
  refine g_bipush (pc := 20) X (v := nI 8) d_O_word_20 (by decide) ?_
  refine g_iload_n (pc := 22) X (i := 2) d_O_word_22 rfl rfl ?_
  refine g_imulN (pc := 23) X 24 rfl d_O_word_23 ?_
  refine g_isubN (pc := 24) X 0 (by omega) d_O_word_24 ?_
  refine g_ishr (pc := 25) X d_O_word_25 ?_
  refine g_i2b (pc := 26) X d_O_word_26 rfl ?_
  refine g_bastB (pc := 27) X 1 rfl (tp + 3) rfl (by omega) (by omega) d_O_word_27 ?_
  refine g_wsq [co a 4 [.ref (q 0), .ref (q 1), .ref (q 2), .int (nI tp), .int cd, .ref (q 3), .ref (q 4), .ref (q 5), .ref (q 6), .ref (q 7), .ref (q 8), .ref (q 9), .ref (q 10), .ref (q 11), .ref (q 12), .ref (q 13), .ref (q 14), .ref (q 15), .int (nI kd), .int (nI rt), .int (nI fl), .long (lN tt), .ref (q 16), .ref (q 17)], cb B (q 0) 8192 (va_up (va_up (va_up (va_up f tp ((v >>> ((nI 24) &&& 31)).toInt8)) (tp + 1) ((v >>> ((nI 16) &&& 31)).toInt8)) (tp + 2) ((v >>> ((nI 8) &&& 31)).toInt8)) (tp + 3) ((v >>> ((nI 0) &&& 31)).toInt8))] rfl ?_
  refine g_iincN (pc := 28) X (a := 3) 4 d_O_word_28 rfl 1 rfl (by omega) (by decide) ?_
  refine g_lv [(0, .ref a), (1, .int v), (2, .int (nI 4))] rfl ?_
  refine g_goto (pc := 31) X (tgt := 2) d_O_word_31 (by decide) ?_
  refine g_iload_n (pc := 2) X (i := 2) d_O_word_2 rfl rfl ?_
  refine g_iconst (pc := 3) X (v := nI 4) d_O_word_3 (by decide) ?_
  refine g_icmp_geN (pc := 4) X (tgt := 34) d_O_word_4 (by decide) (by omega) (by omega) (fun h_4 => ?_) (fun h_4 => absurd h_4 (by omega))
  refine g_aload_n (pc := 34) X (i := 0) d_O_word_34 rfl rfl ?_
  refine g_dup (pc := 35) X d_O_word_35 rfl ?_
  refine g_get (pc := 36) X in_O 0 rfl rfl 3 (by decide) wd_822 rfl d_O_word_36 ?_
  refine g_iconst (pc := 39) X (v := nI 4) d_O_word_39 (by decide) ?_
  refine g_iaddN (pc := 40) X (tp + 4) (by omega) d_O_word_40 ?_
  refine g_put (pc := 41) X in_O ty_O ok_O nm_O 0 rfl rfl 3 (by decide) wd_822 rfl rfl rfl (Nat.le_of_ble_eq_true rfl) d_O_word_41 ?_
  refine g_wsq [co a 4 [.ref (q 0), .ref (q 1), .ref (q 2), .int (nI (tp + 4)), .int cd, .ref (q 3), .ref (q 4), .ref (q 5), .ref (q 6), .ref (q 7), .ref (q 8), .ref (q 9), .ref (q 10), .ref (q 11), .ref (q 12), .ref (q 13), .ref (q 14), .ref (q 15), .int (nI kd), .int (nI rt), .int (nI fl), .long (lN tt), .ref (q 16), .ref (q 17)], cb B (q 0) 8192 (va_up (va_up (va_up (va_up f tp ((v >>> ((nI 24) &&& 31)).toInt8)) (tp + 1) ((v >>> ((nI 16) &&& 31)).toInt8)) (tp + 2) ((v >>> ((nI 8) &&& 31)).toInt8)) (tp + 3) ((v >>> ((nI 0) &&& 31)).toInt8))] rfl ?_
  exact kret () _ 44 trivial d_O_word_44

theorem c_O_feed_ok (l : Launch) (B : Bx) (a : Nat) (q : Nat → Nat) (tp : Nat) (kd : Nat) (rt : Nat) (fl : Nat) (tt : Nat) (cd : Int32) (p0 : Int32) (p1 : Int32) (p2 : Int32) (p3 : Int32) (p4 : Int32) (f : Nat → Int8) (h1 : tp + 20 ≤ 8192) : Ci (S := Unit) l B y_O_feed b_O_feed 6 .int (Rm 2 0 0) [.ref a, .int p0, .int p1, .int p2, .int p3, .int p4] [co a 4 [.ref (q 0), .ref (q 1), .ref (q 2), .int (nI tp), .int cd, .ref (q 3), .ref (q 4), .ref (q 5), .ref (q 6), .ref (q 7), .ref (q 8), .ref (q 9), .ref (q 10), .ref (q 11), .ref (q 12), .ref (q 13), .ref (q 14), .ref (q 15), .int (nI kd), .int (nI rt), .int (nI fl), .long (lN tt), .ref (q 16), .ref (q 17)], cb B (q 0) 8192 f] (fun r _ => r = nI (tp + 20)) (fun _ => [co a 4 [.ref (q 0), .ref (q 1), .ref (q 2), .int (nI (tp + 20)), .int (nI 0), .ref (q 3), .ref (q 4), .ref (q 5), .ref (q 6), .ref (q 7), .ref (q 8), .ref (q 9), .ref (q 10), .ref (q 11), .ref (q 12), .ref (q 13), .ref (q 14), .ref (q 15), .int (nI kd), .int (nI rt), .int (nI fl), .long (lN tt), .ref (q 16), .ref (q 17)], cb B (q 0) 8192 (wr4 (wr4 (wr4 (wr4 (wr4 f tp p0) (tp + 4) p1) (tp + 8) p2) (tp + 12) p3) (tp + 16) p4)]) := by
  refine ctr_i (by decide) (Nat.le_of_ble_eq_true rfl) ?_
  intro M Q hl hR hin X kret
  subst hl
  refine g_lv [(0, .ref a), (1, .int p0), (2, .int p1), (3, .int p2), (4, .int p3), (5, .int p4)] rfl ?_
  refine g_aload_n (pc := 0) X (i := 0) d_O_feed_0 rfl rfl ?_
  refine g_aload_n (pc := 1) X (i := 0) d_O_feed_1 rfl rfl ?_
  refine g_get (pc := 2) X in_O 0 rfl rfl 3 (by decide) wd_822 rfl d_O_feed_2 ?_
  refine g_bipush (pc := 5) X (v := nI 20) d_O_feed_5 (by decide) ?_
  refine g_iaddN (pc := 7) X (tp + 20) (by omega) d_O_feed_7 ?_
  refine g_sipush (pc := 8) X (v := nI 8192) d_O_feed_8 (by decide) ?_
  refine g_icmp_gtN (pc := 11) X (tgt := 18) d_O_feed_11 (by decide) (by omega) (by omega) (fun h_11 => absurd h_11 (by omega)) (fun h_11 => ?_)
  refine g_iconst (pc := 14) X (v := nI 1) d_O_feed_14 (by decide) ?_
  refine g_goto (pc := 15) X (tgt := 19) d_O_feed_15 (by decide) ?_
  refine g_iconst (pc := 19) X (v := nI 1) d_O_feed_19 (by decide) ?_
  refine g_callVi (pc := 20) (q0 := 0) X (c_O_good_t (m_l M) B a q tp kd rt fl tt cd (nI 1) ) wd_901 wd_903 wp_O_good wd_5 wd_904 hd_O_good [0] rfl rfl [a] (fun _ => rfl) rfl rfl rfl (by rw [hR]; decide) (by rw [hR]; decide) rfl (Nat.le_of_ble_eq_true rfl) d_O_feed_20 (fun r9 _ hr9 => ?_)
  subst hr9
  refine g_wsq [co a 4 [.ref (q 0), .ref (q 1), .ref (q 2), .int (nI tp), .int (nI 0), .ref (q 3), .ref (q 4), .ref (q 5), .ref (q 6), .ref (q 7), .ref (q 8), .ref (q 9), .ref (q 10), .ref (q 11), .ref (q 12), .ref (q 13), .ref (q 14), .ref (q 15), .int (nI kd), .int (nI rt), .int (nI fl), .long (lN tt), .ref (q 16), .ref (q 17)], cb B (q 0) 8192 f] rfl ?_
  refine g_if_neN (pc := 23) X (tgt := 28) d_O_feed_23 (by decide) (by omega) (fun h_23 => ?_) (fun h_23 => absurd h_23 (by omega))
  refine g_aload_n (pc := 28) X (i := 0) d_O_feed_28 rfl rfl ?_
  refine g_iload_n (pc := 29) X (i := 1) d_O_feed_29 rfl rfl ?_
  refine g_callVv (pc := 30) (q0 := 0) X (c_O_word (m_l M) B a q tp kd rt fl tt (nI 0) p0 f (by omega)) wd_905 wd_907 wp_O_word wd_5 wd_908 hd_O_word [0, 1] rfl rfl [a, q 0] (fun _ => rfl) rfl rfl rfl (by rw [hR]; decide) (by rw [hR]; decide) rfl (Nat.le_of_ble_eq_true rfl) d_O_feed_30 (fun _ _ => ?_)
  refine g_wsq [co a 4 [.ref (q 0), .ref (q 1), .ref (q 2), .int (nI (tp + 4)), .int (nI 0), .ref (q 3), .ref (q 4), .ref (q 5), .ref (q 6), .ref (q 7), .ref (q 8), .ref (q 9), .ref (q 10), .ref (q 11), .ref (q 12), .ref (q 13), .ref (q 14), .ref (q 15), .int (nI kd), .int (nI rt), .int (nI fl), .long (lN tt), .ref (q 16), .ref (q 17)], cb B (q 0) 8192 (wr4 f tp p0)] rfl ?_
  refine g_aload_n (pc := 33) X (i := 0) d_O_feed_33 rfl rfl ?_
  refine g_iload_n (pc := 34) X (i := 2) d_O_feed_34 rfl rfl ?_
  refine g_callVv (pc := 35) (q0 := 0) X (c_O_word (m_l M) B a q (tp + 4) kd rt fl tt (nI 0) p1 (wr4 f tp p0) (by omega)) wd_905 wd_907 wp_O_word wd_5 wd_908 hd_O_word [0, 1] rfl rfl [a, q 0] (fun _ => rfl) rfl rfl rfl (by rw [hR]; decide) (by rw [hR]; decide) rfl (Nat.le_of_ble_eq_true rfl) d_O_feed_35 (fun _ _ => ?_)
  refine g_wsq [co a 4 [.ref (q 0), .ref (q 1), .ref (q 2), .int (nI ((tp + 4) + 4)), .int (nI 0), .ref (q 3), .ref (q 4), .ref (q 5), .ref (q 6), .ref (q 7), .ref (q 8), .ref (q 9), .ref (q 10), .ref (q 11), .ref (q 12), .ref (q 13), .ref (q 14), .ref (q 15), .int (nI kd), .int (nI rt), .int (nI fl), .long (lN tt), .ref (q 16), .ref (q 17)], cb B (q 0) 8192 (wr4 (wr4 f tp p0) (tp + 4) p1)] rfl ?_
  refine g_aload_n (pc := 38) X (i := 0) d_O_feed_38 rfl rfl ?_
  refine g_iload_n (pc := 39) X (i := 3) d_O_feed_39 rfl rfl ?_
  refine g_callVv (pc := 40) (q0 := 0) X (c_O_word (m_l M) B a q ((tp + 4) + 4) kd rt fl tt (nI 0) p2 (wr4 (wr4 f tp p0) (tp + 4) p1) (by omega)) wd_905 wd_907 wp_O_word wd_5 wd_908 hd_O_word [0, 1] rfl rfl [a, q 0] (fun _ => rfl) rfl rfl rfl (by rw [hR]; decide) (by rw [hR]; decide) rfl (Nat.le_of_ble_eq_true rfl) d_O_feed_40 (fun _ _ => ?_)
  refine g_wsq [co a 4 [.ref (q 0), .ref (q 1), .ref (q 2), .int (nI (((tp + 4) + 4) + 4)), .int (nI 0), .ref (q 3), .ref (q 4), .ref (q 5), .ref (q 6), .ref (q 7), .ref (q 8), .ref (q 9), .ref (q 10), .ref (q 11), .ref (q 12), .ref (q 13), .ref (q 14), .ref (q 15), .int (nI kd), .int (nI rt), .int (nI fl), .long (lN tt), .ref (q 16), .ref (q 17)], cb B (q 0) 8192 (wr4 (wr4 (wr4 f tp p0) (tp + 4) p1) ((tp + 4) + 4) p2)] rfl ?_
  refine g_aload_n (pc := 43) X (i := 0) d_O_feed_43 rfl rfl ?_
  refine g_iload (pc := 44) X d_O_feed_44 rfl ?_
  refine g_callVv (pc := 46) (q0 := 0) X (c_O_word (m_l M) B a q (((tp + 4) + 4) + 4) kd rt fl tt (nI 0) p3 (wr4 (wr4 (wr4 f tp p0) (tp + 4) p1) ((tp + 4) + 4) p2) (by omega)) wd_905 wd_907 wp_O_word wd_5 wd_908 hd_O_word [0, 1] rfl rfl [a, q 0] (fun _ => rfl) rfl rfl rfl (by rw [hR]; decide) (by rw [hR]; decide) rfl (Nat.le_of_ble_eq_true rfl) d_O_feed_46 (fun _ _ => ?_)
  refine g_wsq [co a 4 [.ref (q 0), .ref (q 1), .ref (q 2), .int (nI ((((tp + 4) + 4) + 4) + 4)), .int (nI 0), .ref (q 3), .ref (q 4), .ref (q 5), .ref (q 6), .ref (q 7), .ref (q 8), .ref (q 9), .ref (q 10), .ref (q 11), .ref (q 12), .ref (q 13), .ref (q 14), .ref (q 15), .int (nI kd), .int (nI rt), .int (nI fl), .long (lN tt), .ref (q 16), .ref (q 17)], cb B (q 0) 8192 (wr4 (wr4 (wr4 (wr4 f tp p0) (tp + 4) p1) ((tp + 4) + 4) p2) (((tp + 4) + 4) + 4) p3)] rfl ?_
  refine g_aload_n (pc := 49) X (i := 0) d_O_feed_49 rfl rfl ?_
  refine g_iload (pc := 50) X d_O_feed_50 rfl ?_
  refine g_callVv (pc := 52) (q0 := 0) X (c_O_word (m_l M) B a q ((((tp + 4) + 4) + 4) + 4) kd rt fl tt (nI 0) p4 (wr4 (wr4 (wr4 (wr4 f tp p0) (tp + 4) p1) ((tp + 4) + 4) p2) (((tp + 4) + 4) + 4) p3) (by omega)) wd_905 wd_907 wp_O_word wd_5 wd_908 hd_O_word [0, 1] rfl rfl [a, q 0] (fun _ => rfl) rfl rfl rfl (by rw [hR]; decide) (by rw [hR]; decide) rfl (Nat.le_of_ble_eq_true rfl) d_O_feed_52 (fun _ _ => ?_)
  refine g_wsq [co a 4 [.ref (q 0), .ref (q 1), .ref (q 2), .int (nI (((((tp + 4) + 4) + 4) + 4) + 4)), .int (nI 0), .ref (q 3), .ref (q 4), .ref (q 5), .ref (q 6), .ref (q 7), .ref (q 8), .ref (q 9), .ref (q 10), .ref (q 11), .ref (q 12), .ref (q 13), .ref (q 14), .ref (q 15), .int (nI kd), .int (nI rt), .int (nI fl), .long (lN tt), .ref (q 16), .ref (q 17)], cb B (q 0) 8192 (wr4 (wr4 (wr4 (wr4 (wr4 f tp p0) (tp + 4) p1) ((tp + 4) + 4) p2) (((tp + 4) + 4) + 4) p3) ((((tp + 4) + 4) + 4) + 4) p4)] rfl ?_
  refine g_aload_n (pc := 55) X (i := 0) d_O_feed_55 rfl rfl ?_
  refine g_get (pc := 56) X in_O 0 rfl rfl 3 (by decide) wd_822 rfl d_O_feed_56 ?_
  exact kret _ () _ 59 rfl d_O_feed_59

theorem c_O_feed_bad (l : Launch) (B : Bx) (a : Nat) (q : Nat → Nat) (tp : Nat) (kd : Nat) (rt : Nat) (fl : Nat) (tt : Nat) (cd : Int32) (p0 : Int32) (p1 : Int32) (p2 : Int32) (p3 : Int32) (p4 : Int32) (h1 : 8192 < tp + 20) (h2 : tp ≤ 8192) : Ci (S := Unit) l B y_O_feed b_O_feed 6 .int (Rm 2 0 0) [.ref a, .int p0, .int p1, .int p2, .int p3, .int p4] [co a 4 [.ref (q 0), .ref (q 1), .ref (q 2), .int (nI tp), .int cd, .ref (q 3), .ref (q 4), .ref (q 5), .ref (q 6), .ref (q 7), .ref (q 8), .ref (q 9), .ref (q 10), .ref (q 11), .ref (q 12), .ref (q 13), .ref (q 14), .ref (q 15), .int (nI kd), .int (nI rt), .int (nI fl), .long (lN tt), .ref (q 16), .ref (q 17)]] (fun r _ => r = nI 0) (fun _ => [co a 4 [.ref (q 0), .ref (q 1), .ref (q 2), .int (nI tp), .int (nI 1), .ref (q 3), .ref (q 4), .ref (q 5), .ref (q 6), .ref (q 7), .ref (q 8), .ref (q 9), .ref (q 10), .ref (q 11), .ref (q 12), .ref (q 13), .ref (q 14), .ref (q 15), .int (nI kd), .int (nI rt), .int (nI fl), .long (lN tt), .ref (q 16), .ref (q 17)]]) := by
  refine ctr_i (by decide) (Nat.le_of_ble_eq_true rfl) ?_
  intro M Q hl hR hin X kret
  subst hl
  refine g_lv [(0, .ref a), (1, .int p0), (2, .int p1), (3, .int p2), (4, .int p3), (5, .int p4)] rfl ?_
  refine g_aload_n (pc := 0) X (i := 0) d_O_feed_0 rfl rfl ?_
  refine g_aload_n (pc := 1) X (i := 0) d_O_feed_1 rfl rfl ?_
  refine g_get (pc := 2) X in_O 0 rfl rfl 3 (by decide) wd_822 rfl d_O_feed_2 ?_
  refine g_bipush (pc := 5) X (v := nI 20) d_O_feed_5 (by decide) ?_
  refine g_iaddN (pc := 7) X (tp + 20) (by omega) d_O_feed_7 ?_
  refine g_sipush (pc := 8) X (v := nI 8192) d_O_feed_8 (by decide) ?_
  refine g_icmp_gtN (pc := 11) X (tgt := 18) d_O_feed_11 (by decide) (by omega) (by omega) (fun h_11 => ?_) (fun h_11 => absurd h_11 (by omega))
  refine g_iconst (pc := 18) X (v := nI 0) d_O_feed_18 (by decide) ?_
  refine g_iconst (pc := 19) X (v := nI 1) d_O_feed_19 (by decide) ?_
  refine g_callVi (pc := 20) (q0 := 0) X (c_O_good_f (m_l M) B a q tp kd rt fl tt cd (nI 1) ) wd_901 wd_903 wp_O_good wd_5 wd_904 hd_O_good [0] rfl rfl [a] (fun _ => rfl) rfl rfl rfl (by rw [hR]; decide) (by rw [hR]; decide) rfl (Nat.le_of_ble_eq_true rfl) d_O_feed_20 (fun r9 _ hr9 => ?_)
  subst hr9
  refine g_wsq [co a 4 [.ref (q 0), .ref (q 1), .ref (q 2), .int (nI tp), .int (nI 1), .ref (q 3), .ref (q 4), .ref (q 5), .ref (q 6), .ref (q 7), .ref (q 8), .ref (q 9), .ref (q 10), .ref (q 11), .ref (q 12), .ref (q 13), .ref (q 14), .ref (q 15), .int (nI kd), .int (nI rt), .int (nI fl), .long (lN tt), .ref (q 16), .ref (q 17)]] rfl ?_
  refine g_if_neN (pc := 23) X (tgt := 28) d_O_feed_23 (by decide) (by omega) (fun h_23 => absurd h_23 (by omega)) (fun h_23 => ?_)
  refine g_iconst (pc := 26) X (v := nI 0) d_O_feed_26 (by decide) ?_
  exact kret _ () _ 27 rfl d_O_feed_27

theorem c_O_end_ok (l : Launch) (B : Bx) (a : Nat) (q : Nat → Nat) (tp : Nat) (kd : Nat) (rt : Nat) (fl : Nat) (tt : Nat) (cd : Int32) (ln : Nat → Nat) (i : Nat) (n : Nat) (f : Nat → Int8) (g : Nat → Int8) (h1 : i < 8) (h2 : n ≤ 8192) (h3 : n ≤ tp) (h4 : tp ≤ 8192) : Ci (S := Unit) l B y_O_end b_O_end 4 .int (Rm 2 0 0) [.ref a, .int (nI i), .int (nI n)] [co a 4 [.ref (q 0), .ref (q 1), .ref (q 2), .int (nI tp), .int cd, .ref (q 3), .ref (q 4), .ref (q 5), .ref (q 6), .ref (q 7), .ref (q 8), .ref (q 9), .ref (q 10), .ref (q 11), .ref (q 12), .ref (q 13), .ref (q 14), .ref (q 15), .int (nI kd), .int (nI rt), .int (nI fl), .long (lN tt), .ref (q 16), .ref (q 17)], cb B (q 0) 8192 f, cq B (q 1) 8 (fun z9 => some (q (20 + z9))), cb B (q (20 + i)) 8192 g, cn B (q 2) 8 (fun z9 => nI (ln z9))] (fun r _ => r = nI n) (fun _ => [co a 4 [.ref (q 0), .ref (q 1), .ref (q 2), .int (nI 0), .int (nI 0), .ref (q 3), .ref (q 4), .ref (q 5), .ref (q 6), .ref (q 7), .ref (q 8), .ref (q 9), .ref (q 10), .ref (q 11), .ref (q 12), .ref (q 13), .ref (q 14), .ref (q 15), .int (nI kd), .int (nI rt), .int (nI fl), .long (lN tt), .ref (q 16), .ref (q 17)], cb B (q 0) 8192 f, cq B (q 1) 8 (fun z9 => some (q (20 + z9))), cb B (q (20 + i)) 8192 (va_cpy f g 0 0 n), cn B (q 2) 8 (fun z9 => nI (va_up ln i n z9))]) := by
  refine ctr_i (by decide) (Nat.le_of_ble_eq_true rfl) ?_
  intro M Q hl hR hin X kret
  subst hl
  refine g_lv [(0, .ref a), (1, .int (nI i)), (2, .int (nI n))] rfl ?_
  refine g_aload_n (pc := 0) X (i := 0) d_O_end_0 rfl rfl ?_
  refine g_iload_n (pc := 1) X (i := 1) d_O_end_1 rfl rfl ?_
  refine g_iconst (pc := 2) X (v := nI 0) d_O_end_2 (by decide) ?_
  refine g_bipush (pc := 3) X (v := nI 7) d_O_end_3 (by decide) ?_
  refine g_callSi (pc := 5) X (c_O_in_t (m_l M) B (nI i) (nI 0) (nI 7) (inR_n (by omega) (by omega) (by omega))) wd_913 wd_914 wd_5 wd_915 hd_O_in [] rfl rfl [] (fun _ => rfl) rfl (by rw [hR]; decide) (by rw [hR]; decide) rfl (Nat.le_of_ble_eq_true rfl) d_O_end_5 (fun r9 _ hr9 => ?_)
  subst hr9
  refine g_wsq [co a 4 [.ref (q 0), .ref (q 1), .ref (q 2), .int (nI tp), .int cd, .ref (q 3), .ref (q 4), .ref (q 5), .ref (q 6), .ref (q 7), .ref (q 8), .ref (q 9), .ref (q 10), .ref (q 11), .ref (q 12), .ref (q 13), .ref (q 14), .ref (q 15), .int (nI kd), .int (nI rt), .int (nI fl), .long (lN tt), .ref (q 16), .ref (q 17)], cb B (q 0) 8192 f, cq B (q 1) 8 (fun z9 => some (q (20 + z9))), cb B (q (20 + i)) 8192 g, cn B (q 2) 8 (fun z9 => nI (ln z9))] rfl ?_
  refine g_if_eqN (pc := 8) X (tgt := 26) d_O_end_8 (by decide) (by omega) (fun h_8 => absurd h_8 (by omega)) (fun h_8 => ?_)
  refine g_iload_n (pc := 11) X (i := 2) d_O_end_11 rfl rfl ?_
  refine g_iconst (pc := 12) X (v := nI 0) d_O_end_12 (by decide) ?_
  refine g_sipush (pc := 13) X (v := nI 8192) d_O_end_13 (by decide) ?_
  refine g_callSi (pc := 16) X (c_O_in_t (m_l M) B (nI n) (nI 0) (nI 8192) (inR_n (by omega) (by omega) (by omega))) wd_913 wd_914 wd_5 wd_915 hd_O_in [] rfl rfl [] (fun _ => rfl) rfl (by rw [hR]; decide) (by rw [hR]; decide) rfl (Nat.le_of_ble_eq_true rfl) d_O_end_16 (fun r9 _ hr9 => ?_)
  subst hr9
  refine g_wsq [co a 4 [.ref (q 0), .ref (q 1), .ref (q 2), .int (nI tp), .int cd, .ref (q 3), .ref (q 4), .ref (q 5), .ref (q 6), .ref (q 7), .ref (q 8), .ref (q 9), .ref (q 10), .ref (q 11), .ref (q 12), .ref (q 13), .ref (q 14), .ref (q 15), .int (nI kd), .int (nI rt), .int (nI fl), .long (lN tt), .ref (q 16), .ref (q 17)], cb B (q 0) 8192 f, cq B (q 1) 8 (fun z9 => some (q (20 + z9))), cb B (q (20 + i)) 8192 g, cn B (q 2) 8 (fun z9 => nI (ln z9))] rfl ?_
  refine g_if_eqN (pc := 19) X (tgt := 26) d_O_end_19 (by decide) (by omega) (fun h_19 => absurd h_19 (by omega)) (fun h_19 => ?_)
  refine g_iconst (pc := 22) X (v := nI 1) d_O_end_22 (by decide) ?_
  refine g_goto (pc := 23) X (tgt := 27) d_O_end_23 (by decide) ?_
  refine g_iconst (pc := 27) X (v := nI 1) d_O_end_27 (by decide) ?_
  refine g_callVi (pc := 28) (q0 := 0) X (c_O_good_t (m_l M) B a q tp kd rt fl tt cd (nI 1) ) wd_901 wd_903 wp_O_good wd_5 wd_904 hd_O_good [0] rfl rfl [a] (fun _ => rfl) rfl rfl rfl (by rw [hR]; decide) (by rw [hR]; decide) rfl (Nat.le_of_ble_eq_true rfl) d_O_end_28 (fun r9 _ hr9 => ?_)
  subst hr9
  refine g_wsq [co a 4 [.ref (q 0), .ref (q 1), .ref (q 2), .int (nI tp), .int (nI 0), .ref (q 3), .ref (q 4), .ref (q 5), .ref (q 6), .ref (q 7), .ref (q 8), .ref (q 9), .ref (q 10), .ref (q 11), .ref (q 12), .ref (q 13), .ref (q 14), .ref (q 15), .int (nI kd), .int (nI rt), .int (nI fl), .long (lN tt), .ref (q 16), .ref (q 17)], cb B (q 0) 8192 f, cq B (q 1) 8 (fun z9 => some (q (20 + z9))), cb B (q (20 + i)) 8192 g, cn B (q 2) 8 (fun z9 => nI (ln z9))] rfl ?_
  refine g_if_eqN (pc := 31) X (tgt := 55) d_O_end_31 (by decide) (by omega) (fun h_31 => absurd h_31 (by omega)) (fun h_31 => ?_)
  refine g_aload_n (pc := 34) X (i := 0) d_O_end_34 rfl rfl ?_
  refine g_iload_n (pc := 35) X (i := 2) d_O_end_35 rfl rfl ?_
  refine g_aload_n (pc := 36) X (i := 0) d_O_end_36 rfl rfl ?_
  refine g_get (pc := 37) X in_O 0 rfl rfl 3 (by decide) wd_822 rfl d_O_end_37 ?_
  refine g_icmp_gtN (pc := 40) X (tgt := 47) d_O_end_40 (by decide) (by omega) (by omega) (fun h_40 => absurd h_40 (by omega)) (fun h_40 => ?_)
  refine g_iconst (pc := 43) X (v := nI 1) d_O_end_43 (by decide) ?_
  refine g_goto (pc := 44) X (tgt := 48) d_O_end_44 (by decide) ?_
  refine g_iconst (pc := 48) X (v := nI 2) d_O_end_48 (by decide) ?_
  refine g_callVi (pc := 49) (q0 := 0) X (c_O_good_t (m_l M) B a q tp kd rt fl tt (nI 0) (nI 2) ) wd_901 wd_903 wp_O_good wd_5 wd_904 hd_O_good [0] rfl rfl [a] (fun _ => rfl) rfl rfl rfl (by rw [hR]; decide) (by rw [hR]; decide) rfl (Nat.le_of_ble_eq_true rfl) d_O_end_49 (fun r9 _ hr9 => ?_)
  subst hr9
  refine g_wsq [co a 4 [.ref (q 0), .ref (q 1), .ref (q 2), .int (nI tp), .int (nI 0), .ref (q 3), .ref (q 4), .ref (q 5), .ref (q 6), .ref (q 7), .ref (q 8), .ref (q 9), .ref (q 10), .ref (q 11), .ref (q 12), .ref (q 13), .ref (q 14), .ref (q 15), .int (nI kd), .int (nI rt), .int (nI fl), .long (lN tt), .ref (q 16), .ref (q 17)], cb B (q 0) 8192 f, cq B (q 1) 8 (fun z9 => some (q (20 + z9))), cb B (q (20 + i)) 8192 g, cn B (q 2) 8 (fun z9 => nI (ln z9))] rfl ?_
  refine g_if_neN (pc := 52) X (tgt := 57) d_O_end_52 (by decide) (by omega) (fun h_52 => ?_) (fun h_52 => absurd h_52 (by omega))
  refine g_iconst (pc := 57) X (v := nI 0) d_O_end_57 (by decide) ?_
  refine g_istore_n (pc := 58) X (i := 3) d_O_end_58 rfl (by decide) ?_
  refine g_lv [(0, .ref a), (1, .int (nI i)), (2, .int (nI n)), (3, .int (nI 0))] rfl ?_
  refine g_lv [(0, .ref a), (1, .int (nI i)), (2, .int (nI n)), (3, .int (nI 0))] rfl ?_
  refine g_wsq [co a 4 [.ref (q 0), .ref (q 1), .ref (q 2), .int (nI tp), .int (nI 0), .ref (q 3), .ref (q 4), .ref (q 5), .ref (q 6), .ref (q 7), .ref (q 8), .ref (q 9), .ref (q 10), .ref (q 11), .ref (q 12), .ref (q 13), .ref (q 14), .ref (q 15), .int (nI kd), .int (nI rt), .int (nI fl), .long (lN tt), .ref (q 16), .ref (q 17)], cb B (q 0) 8192 f, cq B (q 1) 8 (fun z9 => some (q (20 + z9))), cb B (q (20 + i)) 8192 (va_cpy f g 0 0 0), cn B (q 2) 8 (fun z9 => nI (ln z9))] (by rw [← cpy_0]) ?_
  refine loopK (fun k => G B M 4 0 0 Q [co a 4 [.ref (q 0), .ref (q 1), .ref (q 2), .int (nI tp), .int (nI 0), .ref (q 3), .ref (q 4), .ref (q 5), .ref (q 6), .ref (q 7), .ref (q 8), .ref (q 9), .ref (q 10), .ref (q 11), .ref (q 12), .ref (q 13), .ref (q 14), .ref (q 15), .int (nI kd), .int (nI rt), .int (nI fl), .long (lN tt), .ref (q 16), .ref (q 17)], cb B (q 0) 8192 f, cq B (q 1) 8 (fun z9 => some (q (20 + z9))), cb B (q (20 + i)) 8192 (va_cpy f g 0 0 k), cn B (q 2) 8 (fun z9 => nI (ln z9))] [(0, .ref a), (1, .int (nI i)), (2, .int (nI n)), (3, .int (nI k))] 59 []) n ?_ ?_
  · intro k hk59 kk59
    show G B M 4 0 0 Q [co a 4 [.ref (q 0), .ref (q 1), .ref (q 2), .int (nI tp), .int (nI 0), .ref (q 3), .ref (q 4), .ref (q 5), .ref (q 6), .ref (q 7), .ref (q 8), .ref (q 9), .ref (q 10), .ref (q 11), .ref (q 12), .ref (q 13), .ref (q 14), .ref (q 15), .int (nI kd), .int (nI rt), .int (nI fl), .long (lN tt), .ref (q 16), .ref (q 17)], cb B (q 0) 8192 f, cq B (q 1) 8 (fun z9 => some (q (20 + z9))), cb B (q (20 + i)) 8192 (va_cpy f g 0 0 k), cn B (q 2) 8 (fun z9 => nI (ln z9))] [(0, .ref a), (1, .int (nI i)), (2, .int (nI n)), (3, .int (nI k))] 59 []
    refine g_iload_n (pc := 59) X (i := 3) d_O_end_59 rfl rfl ?_
    refine g_iload_n (pc := 60) X (i := 2) d_O_end_60 rfl rfl ?_
    refine g_icmp_geN (pc := 61) X (tgt := 84) d_O_end_61 (by decide) (by omega) (by omega) (fun h_61 => absurd h_61 (by omega)) (fun h_61 => ?_)
    refine g_aload_n (pc := 64) X (i := 0) d_O_end_64 rfl rfl ?_
    refine g_get (pc := 65) X in_O 0 rfl rfl 1 (by decide) wd_820 rfl d_O_end_65 ?_
    refine g_iload_n (pc := 68) X (i := 1) d_O_end_68 rfl rfl ?_
    refine g_qald (pc := 69) X 2 rfl i rfl (by omega) (by omega) (r := q (20 + i)) rfl d_O_end_69 ?_
    refine g_iload_n (pc := 70) X (i := 3) d_O_end_70 rfl rfl ?_
    refine g_aload_n (pc := 71) X (i := 0) d_O_end_71 rfl rfl ?_
    refine g_get (pc := 72) X in_O 0 rfl rfl 0 (by decide) wd_819 rfl d_O_end_72 ?_
    refine g_iload_n (pc := 75) X (i := 3) d_O_end_75 rfl rfl ?_
    refine g_bald (pc := 76) X 1 rfl k rfl (by omega) (by omega) d_O_end_76 ?_
    refine g_bastB (pc := 77) X 3 rfl k rfl (by omega) (by omega) d_O_end_77 ?_
    refine g_wsq [co a 4 [.ref (q 0), .ref (q 1), .ref (q 2), .int (nI tp), .int (nI 0), .ref (q 3), .ref (q 4), .ref (q 5), .ref (q 6), .ref (q 7), .ref (q 8), .ref (q 9), .ref (q 10), .ref (q 11), .ref (q 12), .ref (q 13), .ref (q 14), .ref (q 15), .int (nI kd), .int (nI rt), .int (nI fl), .long (lN tt), .ref (q 16), .ref (q 17)], cb B (q 0) 8192 f, cq B (q 1) 8 (fun z9 => some (q (20 + z9))), cb B (q (20 + i)) 8192 (va_up (va_cpy f g 0 0 k) k (f k)), cn B (q 2) 8 (fun z9 => nI (ln z9))] rfl ?_
    refine g_iincN (pc := 78) X (a := k) (k + 1) d_O_end_78 rfl 1 rfl (by omega) (by decide) ?_
    refine g_lv [(0, .ref a), (1, .int (nI i)), (2, .int (nI n)), (3, .int (nI (k + 1)))] rfl ?_
    refine g_goto (pc := 81) X (tgt := 59) d_O_end_81 (by decide) ?_
    refine g_lv [(0, .ref a), (1, .int (nI i)), (2, .int (nI n)), (3, .int (nI (k + 1)))] rfl ?_
    refine g_wsq [co a 4 [.ref (q 0), .ref (q 1), .ref (q 2), .int (nI tp), .int (nI 0), .ref (q 3), .ref (q 4), .ref (q 5), .ref (q 6), .ref (q 7), .ref (q 8), .ref (q 9), .ref (q 10), .ref (q 11), .ref (q 12), .ref (q 13), .ref (q 14), .ref (q 15), .int (nI kd), .int (nI rt), .int (nI fl), .long (lN tt), .ref (q 16), .ref (q 17)], cb B (q 0) 8192 f, cq B (q 1) 8 (fun z9 => some (q (20 + z9))), cb B (q (20 + i)) 8192 (va_cpy f g 0 0 (k + 1)), cn B (q 2) 8 (fun z9 => nI (ln z9))] (by rw [← cpy_s, Nat.zero_add]) ?_
    exact kk59
  · show G B M 4 0 0 Q [co a 4 [.ref (q 0), .ref (q 1), .ref (q 2), .int (nI tp), .int (nI 0), .ref (q 3), .ref (q 4), .ref (q 5), .ref (q 6), .ref (q 7), .ref (q 8), .ref (q 9), .ref (q 10), .ref (q 11), .ref (q 12), .ref (q 13), .ref (q 14), .ref (q 15), .int (nI kd), .int (nI rt), .int (nI fl), .long (lN tt), .ref (q 16), .ref (q 17)], cb B (q 0) 8192 f, cq B (q 1) 8 (fun z9 => some (q (20 + z9))), cb B (q (20 + i)) 8192 (va_cpy f g 0 0 n), cn B (q 2) 8 (fun z9 => nI (ln z9))] [(0, .ref a), (1, .int (nI i)), (2, .int (nI n)), (3, .int (nI n))] 59 []
    refine g_iload_n (pc := 59) X (i := 3) d_O_end_59 rfl rfl ?_
    refine g_iload_n (pc := 60) X (i := 2) d_O_end_60 rfl rfl ?_
    refine g_icmp_geN (pc := 61) X (tgt := 84) d_O_end_61 (by decide) (by omega) (by omega) (fun h_61 => ?_) (fun h_61 => absurd h_61 (by omega))
    refine g_aload_n (pc := 84) X (i := 0) d_O_end_84 rfl rfl ?_
    refine g_get (pc := 85) X in_O 0 rfl rfl 2 (by decide) wd_821 rfl d_O_end_85 ?_
    refine g_iload_n (pc := 88) X (i := 1) d_O_end_88 rfl rfl ?_
    refine g_iload_n (pc := 89) X (i := 2) d_O_end_89 rfl rfl ?_
    refine g_iast (pc := 90) X 4 rfl i rfl (by omega) (by omega) d_O_end_90 ?_
    refine g_wsq [co a 4 [.ref (q 0), .ref (q 1), .ref (q 2), .int (nI tp), .int (nI 0), .ref (q 3), .ref (q 4), .ref (q 5), .ref (q 6), .ref (q 7), .ref (q 8), .ref (q 9), .ref (q 10), .ref (q 11), .ref (q 12), .ref (q 13), .ref (q 14), .ref (q 15), .int (nI kd), .int (nI rt), .int (nI fl), .long (lN tt), .ref (q 16), .ref (q 17)], cb B (q 0) 8192 f, cq B (q 1) 8 (fun z9 => some (q (20 + z9))), cb B (q (20 + i)) 8192 (va_cpy f g 0 0 n), cn B (q 2) 8 (va_up (fun z9 => nI (ln z9)) i (nI n))] rfl ?_
    refine g_aload_n (pc := 91) X (i := 0) d_O_end_91 rfl rfl ?_
    refine g_iconst (pc := 92) X (v := nI 0) d_O_end_92 (by decide) ?_
    refine g_put (pc := 93) X in_O ty_O ok_O nm_O 0 rfl rfl 3 (by decide) wd_822 rfl rfl rfl (Nat.le_of_ble_eq_true rfl) d_O_end_93 ?_
    refine g_wsq [co a 4 [.ref (q 0), .ref (q 1), .ref (q 2), .int (nI 0), .int (nI 0), .ref (q 3), .ref (q 4), .ref (q 5), .ref (q 6), .ref (q 7), .ref (q 8), .ref (q 9), .ref (q 10), .ref (q 11), .ref (q 12), .ref (q 13), .ref (q 14), .ref (q 15), .int (nI kd), .int (nI rt), .int (nI fl), .long (lN tt), .ref (q 16), .ref (q 17)], cb B (q 0) 8192 f, cq B (q 1) 8 (fun z9 => some (q (20 + z9))), cb B (q (20 + i)) 8192 (va_cpy f g 0 0 n), cn B (q 2) 8 (va_up (fun z9 => nI (ln z9)) i (nI n))] rfl ?_
    refine g_iload_n (pc := 96) X (i := 2) d_O_end_96 rfl rfl ?_
    refine g_wsq [co a 4 [.ref (q 0), .ref (q 1), .ref (q 2), .int (nI 0), .int (nI 0), .ref (q 3), .ref (q 4), .ref (q 5), .ref (q 6), .ref (q 7), .ref (q 8), .ref (q 9), .ref (q 10), .ref (q 11), .ref (q 12), .ref (q 13), .ref (q 14), .ref (q 15), .int (nI kd), .int (nI rt), .int (nI fl), .long (lN tt), .ref (q 16), .ref (q 17)], cb B (q 0) 8192 f, cq B (q 1) 8 (fun z9 => some (q (20 + z9))), cb B (q (20 + i)) 8192 (va_cpy f g 0 0 n), cn B (q 2) 8 (fun z9 => nI (va_up ln i n z9))] (by rw [nI_up]) ?_
    exact kret _ () _ 97 rfl d_O_end_97

theorem c_O_end_b1 (l : Launch) (B : Bx) (a : Nat) (q : Nat → Nat) (tp : Nat) (kd : Nat) (rt : Nat) (fl : Nat) (tt : Nat) (cd : Int32) (x : Int32) (y : Int32) (h1 : inR x (nI 0) (nI 7) = nI 0) : Ci (S := Unit) l B y_O_end b_O_end 4 .int (Rm 2 0 0) [.ref a, .int x, .int y] [co a 4 [.ref (q 0), .ref (q 1), .ref (q 2), .int (nI tp), .int cd, .ref (q 3), .ref (q 4), .ref (q 5), .ref (q 6), .ref (q 7), .ref (q 8), .ref (q 9), .ref (q 10), .ref (q 11), .ref (q 12), .ref (q 13), .ref (q 14), .ref (q 15), .int (nI kd), .int (nI rt), .int (nI fl), .long (lN tt), .ref (q 16), .ref (q 17)]] (fun r _ => r = nI 0) (fun _ => [co a 4 [.ref (q 0), .ref (q 1), .ref (q 2), .int (nI tp), .int (nI 1), .ref (q 3), .ref (q 4), .ref (q 5), .ref (q 6), .ref (q 7), .ref (q 8), .ref (q 9), .ref (q 10), .ref (q 11), .ref (q 12), .ref (q 13), .ref (q 14), .ref (q 15), .int (nI kd), .int (nI rt), .int (nI fl), .long (lN tt), .ref (q 16), .ref (q 17)]]) := by
  refine ctr_i (by decide) (Nat.le_of_ble_eq_true rfl) ?_
  intro M Q hl hR hin X kret
  subst hl
  refine g_lv [(0, .ref a), (1, .int x), (2, .int y)] rfl ?_
  refine g_aload_n (pc := 0) X (i := 0) d_O_end_0 rfl rfl ?_
  refine g_iload_n (pc := 1) X (i := 1) d_O_end_1 rfl rfl ?_
  refine g_iconst (pc := 2) X (v := nI 0) d_O_end_2 (by decide) ?_
  refine g_bipush (pc := 3) X (v := nI 7) d_O_end_3 (by decide) ?_
  refine g_callSi (pc := 5) X (c_O_in_f (m_l M) B x (nI 0) (nI 7) h1) wd_913 wd_914 wd_5 wd_915 hd_O_in [] rfl rfl [] (fun _ => rfl) rfl (by rw [hR]; decide) (by rw [hR]; decide) rfl (Nat.le_of_ble_eq_true rfl) d_O_end_5 (fun r9 _ hr9 => ?_)
  subst hr9
  refine g_wsq [co a 4 [.ref (q 0), .ref (q 1), .ref (q 2), .int (nI tp), .int cd, .ref (q 3), .ref (q 4), .ref (q 5), .ref (q 6), .ref (q 7), .ref (q 8), .ref (q 9), .ref (q 10), .ref (q 11), .ref (q 12), .ref (q 13), .ref (q 14), .ref (q 15), .int (nI kd), .int (nI rt), .int (nI fl), .long (lN tt), .ref (q 16), .ref (q 17)]] rfl ?_
  refine g_if_eqN (pc := 8) X (tgt := 26) d_O_end_8 (by decide) (by omega) (fun h_8 => ?_) (fun h_8 => absurd h_8 (by omega))
  refine g_iconst (pc := 26) X (v := nI 0) d_O_end_26 (by decide) ?_
  refine g_iconst (pc := 27) X (v := nI 1) d_O_end_27 (by decide) ?_
  refine g_callVi (pc := 28) (q0 := 0) X (c_O_good_f (m_l M) B a q tp kd rt fl tt cd (nI 1) ) wd_901 wd_903 wp_O_good wd_5 wd_904 hd_O_good [0] rfl rfl [a] (fun _ => rfl) rfl rfl rfl (by rw [hR]; decide) (by rw [hR]; decide) rfl (Nat.le_of_ble_eq_true rfl) d_O_end_28 (fun r9 _ hr9 => ?_)
  subst hr9
  refine g_wsq [co a 4 [.ref (q 0), .ref (q 1), .ref (q 2), .int (nI tp), .int (nI 1), .ref (q 3), .ref (q 4), .ref (q 5), .ref (q 6), .ref (q 7), .ref (q 8), .ref (q 9), .ref (q 10), .ref (q 11), .ref (q 12), .ref (q 13), .ref (q 14), .ref (q 15), .int (nI kd), .int (nI rt), .int (nI fl), .long (lN tt), .ref (q 16), .ref (q 17)]] rfl ?_
  refine g_if_eqN (pc := 31) X (tgt := 55) d_O_end_31 (by decide) (by omega) (fun h_31 => ?_) (fun h_31 => absurd h_31 (by omega))
  refine g_iconst (pc := 55) X (v := nI 0) d_O_end_55 (by decide) ?_
  exact kret _ () _ 56 rfl d_O_end_56

theorem c_O_end_b2 (l : Launch) (B : Bx) (a : Nat) (q : Nat → Nat) (tp : Nat) (kd : Nat) (rt : Nat) (fl : Nat) (tt : Nat) (cd : Int32) (x : Int32) (y : Int32) (h1 : inR x (nI 0) (nI 7) = nI 1) (h2 : inR y (nI 0) (nI 8192) = nI 0) : Ci (S := Unit) l B y_O_end b_O_end 4 .int (Rm 2 0 0) [.ref a, .int x, .int y] [co a 4 [.ref (q 0), .ref (q 1), .ref (q 2), .int (nI tp), .int cd, .ref (q 3), .ref (q 4), .ref (q 5), .ref (q 6), .ref (q 7), .ref (q 8), .ref (q 9), .ref (q 10), .ref (q 11), .ref (q 12), .ref (q 13), .ref (q 14), .ref (q 15), .int (nI kd), .int (nI rt), .int (nI fl), .long (lN tt), .ref (q 16), .ref (q 17)]] (fun r _ => r = nI 0) (fun _ => [co a 4 [.ref (q 0), .ref (q 1), .ref (q 2), .int (nI tp), .int (nI 1), .ref (q 3), .ref (q 4), .ref (q 5), .ref (q 6), .ref (q 7), .ref (q 8), .ref (q 9), .ref (q 10), .ref (q 11), .ref (q 12), .ref (q 13), .ref (q 14), .ref (q 15), .int (nI kd), .int (nI rt), .int (nI fl), .long (lN tt), .ref (q 16), .ref (q 17)]]) := by
  refine ctr_i (by decide) (Nat.le_of_ble_eq_true rfl) ?_
  intro M Q hl hR hin X kret
  subst hl
  refine g_lv [(0, .ref a), (1, .int x), (2, .int y)] rfl ?_
  refine g_aload_n (pc := 0) X (i := 0) d_O_end_0 rfl rfl ?_
  refine g_iload_n (pc := 1) X (i := 1) d_O_end_1 rfl rfl ?_
  refine g_iconst (pc := 2) X (v := nI 0) d_O_end_2 (by decide) ?_
  refine g_bipush (pc := 3) X (v := nI 7) d_O_end_3 (by decide) ?_
  refine g_callSi (pc := 5) X (c_O_in_t (m_l M) B x (nI 0) (nI 7) h1) wd_913 wd_914 wd_5 wd_915 hd_O_in [] rfl rfl [] (fun _ => rfl) rfl (by rw [hR]; decide) (by rw [hR]; decide) rfl (Nat.le_of_ble_eq_true rfl) d_O_end_5 (fun r9 _ hr9 => ?_)
  subst hr9
  refine g_wsq [co a 4 [.ref (q 0), .ref (q 1), .ref (q 2), .int (nI tp), .int cd, .ref (q 3), .ref (q 4), .ref (q 5), .ref (q 6), .ref (q 7), .ref (q 8), .ref (q 9), .ref (q 10), .ref (q 11), .ref (q 12), .ref (q 13), .ref (q 14), .ref (q 15), .int (nI kd), .int (nI rt), .int (nI fl), .long (lN tt), .ref (q 16), .ref (q 17)]] rfl ?_
  refine g_if_eqN (pc := 8) X (tgt := 26) d_O_end_8 (by decide) (by omega) (fun h_8 => absurd h_8 (by omega)) (fun h_8 => ?_)
  refine g_iload_n (pc := 11) X (i := 2) d_O_end_11 rfl rfl ?_
  refine g_iconst (pc := 12) X (v := nI 0) d_O_end_12 (by decide) ?_
  refine g_sipush (pc := 13) X (v := nI 8192) d_O_end_13 (by decide) ?_
  refine g_callSi (pc := 16) X (c_O_in_f (m_l M) B y (nI 0) (nI 8192) h2) wd_913 wd_914 wd_5 wd_915 hd_O_in [] rfl rfl [] (fun _ => rfl) rfl (by rw [hR]; decide) (by rw [hR]; decide) rfl (Nat.le_of_ble_eq_true rfl) d_O_end_16 (fun r9 _ hr9 => ?_)
  subst hr9
  refine g_wsq [co a 4 [.ref (q 0), .ref (q 1), .ref (q 2), .int (nI tp), .int cd, .ref (q 3), .ref (q 4), .ref (q 5), .ref (q 6), .ref (q 7), .ref (q 8), .ref (q 9), .ref (q 10), .ref (q 11), .ref (q 12), .ref (q 13), .ref (q 14), .ref (q 15), .int (nI kd), .int (nI rt), .int (nI fl), .long (lN tt), .ref (q 16), .ref (q 17)]] rfl ?_
  refine g_if_eqN (pc := 19) X (tgt := 26) d_O_end_19 (by decide) (by omega) (fun h_19 => ?_) (fun h_19 => absurd h_19 (by omega))
  refine g_iconst (pc := 26) X (v := nI 0) d_O_end_26 (by decide) ?_
  refine g_iconst (pc := 27) X (v := nI 1) d_O_end_27 (by decide) ?_
  refine g_callVi (pc := 28) (q0 := 0) X (c_O_good_f (m_l M) B a q tp kd rt fl tt cd (nI 1) ) wd_901 wd_903 wp_O_good wd_5 wd_904 hd_O_good [0] rfl rfl [a] (fun _ => rfl) rfl rfl rfl (by rw [hR]; decide) (by rw [hR]; decide) rfl (Nat.le_of_ble_eq_true rfl) d_O_end_28 (fun r9 _ hr9 => ?_)
  subst hr9
  refine g_wsq [co a 4 [.ref (q 0), .ref (q 1), .ref (q 2), .int (nI tp), .int (nI 1), .ref (q 3), .ref (q 4), .ref (q 5), .ref (q 6), .ref (q 7), .ref (q 8), .ref (q 9), .ref (q 10), .ref (q 11), .ref (q 12), .ref (q 13), .ref (q 14), .ref (q 15), .int (nI kd), .int (nI rt), .int (nI fl), .long (lN tt), .ref (q 16), .ref (q 17)]] rfl ?_
  refine g_if_eqN (pc := 31) X (tgt := 55) d_O_end_31 (by decide) (by omega) (fun h_31 => ?_) (fun h_31 => absurd h_31 (by omega))
  refine g_iconst (pc := 55) X (v := nI 0) d_O_end_55 (by decide) ?_
  exact kret _ () _ 56 rfl d_O_end_56

theorem c_O_end_b3 (l : Launch) (B : Bx) (a : Nat) (q : Nat → Nat) (tp : Nat) (kd : Nat) (rt : Nat) (fl : Nat) (tt : Nat) (cd : Int32) (x : Int32) (n : Nat) (h1 : inR x (nI 0) (nI 7) = nI 1) (h2 : n ≤ 8192) (h3 : tp < n) : Ci (S := Unit) l B y_O_end b_O_end 4 .int (Rm 2 0 0) [.ref a, .int x, .int (nI n)] [co a 4 [.ref (q 0), .ref (q 1), .ref (q 2), .int (nI tp), .int cd, .ref (q 3), .ref (q 4), .ref (q 5), .ref (q 6), .ref (q 7), .ref (q 8), .ref (q 9), .ref (q 10), .ref (q 11), .ref (q 12), .ref (q 13), .ref (q 14), .ref (q 15), .int (nI kd), .int (nI rt), .int (nI fl), .long (lN tt), .ref (q 16), .ref (q 17)]] (fun r _ => r = nI 0) (fun _ => [co a 4 [.ref (q 0), .ref (q 1), .ref (q 2), .int (nI tp), .int (nI 2), .ref (q 3), .ref (q 4), .ref (q 5), .ref (q 6), .ref (q 7), .ref (q 8), .ref (q 9), .ref (q 10), .ref (q 11), .ref (q 12), .ref (q 13), .ref (q 14), .ref (q 15), .int (nI kd), .int (nI rt), .int (nI fl), .long (lN tt), .ref (q 16), .ref (q 17)]]) := by
  refine ctr_i (by decide) (Nat.le_of_ble_eq_true rfl) ?_
  intro M Q hl hR hin X kret
  subst hl
  refine g_lv [(0, .ref a), (1, .int x), (2, .int (nI n))] rfl ?_
  refine g_aload_n (pc := 0) X (i := 0) d_O_end_0 rfl rfl ?_
  refine g_iload_n (pc := 1) X (i := 1) d_O_end_1 rfl rfl ?_
  refine g_iconst (pc := 2) X (v := nI 0) d_O_end_2 (by decide) ?_
  refine g_bipush (pc := 3) X (v := nI 7) d_O_end_3 (by decide) ?_
  refine g_callSi (pc := 5) X (c_O_in_t (m_l M) B x (nI 0) (nI 7) h1) wd_913 wd_914 wd_5 wd_915 hd_O_in [] rfl rfl [] (fun _ => rfl) rfl (by rw [hR]; decide) (by rw [hR]; decide) rfl (Nat.le_of_ble_eq_true rfl) d_O_end_5 (fun r9 _ hr9 => ?_)
  subst hr9
  refine g_wsq [co a 4 [.ref (q 0), .ref (q 1), .ref (q 2), .int (nI tp), .int cd, .ref (q 3), .ref (q 4), .ref (q 5), .ref (q 6), .ref (q 7), .ref (q 8), .ref (q 9), .ref (q 10), .ref (q 11), .ref (q 12), .ref (q 13), .ref (q 14), .ref (q 15), .int (nI kd), .int (nI rt), .int (nI fl), .long (lN tt), .ref (q 16), .ref (q 17)]] rfl ?_
  refine g_if_eqN (pc := 8) X (tgt := 26) d_O_end_8 (by decide) (by omega) (fun h_8 => absurd h_8 (by omega)) (fun h_8 => ?_)
  refine g_iload_n (pc := 11) X (i := 2) d_O_end_11 rfl rfl ?_
  refine g_iconst (pc := 12) X (v := nI 0) d_O_end_12 (by decide) ?_
  refine g_sipush (pc := 13) X (v := nI 8192) d_O_end_13 (by decide) ?_
  refine g_callSi (pc := 16) X (c_O_in_t (m_l M) B (nI n) (nI 0) (nI 8192) (inR_n (by omega) (by omega) (by omega))) wd_913 wd_914 wd_5 wd_915 hd_O_in [] rfl rfl [] (fun _ => rfl) rfl (by rw [hR]; decide) (by rw [hR]; decide) rfl (Nat.le_of_ble_eq_true rfl) d_O_end_16 (fun r9 _ hr9 => ?_)
  subst hr9
  refine g_wsq [co a 4 [.ref (q 0), .ref (q 1), .ref (q 2), .int (nI tp), .int cd, .ref (q 3), .ref (q 4), .ref (q 5), .ref (q 6), .ref (q 7), .ref (q 8), .ref (q 9), .ref (q 10), .ref (q 11), .ref (q 12), .ref (q 13), .ref (q 14), .ref (q 15), .int (nI kd), .int (nI rt), .int (nI fl), .long (lN tt), .ref (q 16), .ref (q 17)]] rfl ?_
  refine g_if_eqN (pc := 19) X (tgt := 26) d_O_end_19 (by decide) (by omega) (fun h_19 => absurd h_19 (by omega)) (fun h_19 => ?_)
  refine g_iconst (pc := 22) X (v := nI 1) d_O_end_22 (by decide) ?_
  refine g_goto (pc := 23) X (tgt := 27) d_O_end_23 (by decide) ?_
  refine g_iconst (pc := 27) X (v := nI 1) d_O_end_27 (by decide) ?_
  refine g_callVi (pc := 28) (q0 := 0) X (c_O_good_t (m_l M) B a q tp kd rt fl tt cd (nI 1) ) wd_901 wd_903 wp_O_good wd_5 wd_904 hd_O_good [0] rfl rfl [a] (fun _ => rfl) rfl rfl rfl (by rw [hR]; decide) (by rw [hR]; decide) rfl (Nat.le_of_ble_eq_true rfl) d_O_end_28 (fun r9 _ hr9 => ?_)
  subst hr9
  refine g_wsq [co a 4 [.ref (q 0), .ref (q 1), .ref (q 2), .int (nI tp), .int (nI 0), .ref (q 3), .ref (q 4), .ref (q 5), .ref (q 6), .ref (q 7), .ref (q 8), .ref (q 9), .ref (q 10), .ref (q 11), .ref (q 12), .ref (q 13), .ref (q 14), .ref (q 15), .int (nI kd), .int (nI rt), .int (nI fl), .long (lN tt), .ref (q 16), .ref (q 17)]] rfl ?_
  refine g_if_eqN (pc := 31) X (tgt := 55) d_O_end_31 (by decide) (by omega) (fun h_31 => absurd h_31 (by omega)) (fun h_31 => ?_)
  refine g_aload_n (pc := 34) X (i := 0) d_O_end_34 rfl rfl ?_
  refine g_iload_n (pc := 35) X (i := 2) d_O_end_35 rfl rfl ?_
  refine g_aload_n (pc := 36) X (i := 0) d_O_end_36 rfl rfl ?_
  refine g_get (pc := 37) X in_O 0 rfl rfl 3 (by decide) wd_822 rfl d_O_end_37 ?_
  refine g_icmp_gtN (pc := 40) X (tgt := 47) d_O_end_40 (by decide) (by omega) (by omega) (fun h_40 => ?_) (fun h_40 => absurd h_40 (by omega))
  refine g_iconst (pc := 47) X (v := nI 0) d_O_end_47 (by decide) ?_
  refine g_iconst (pc := 48) X (v := nI 2) d_O_end_48 (by decide) ?_
  refine g_callVi (pc := 49) (q0 := 0) X (c_O_good_f (m_l M) B a q tp kd rt fl tt (nI 0) (nI 2) ) wd_901 wd_903 wp_O_good wd_5 wd_904 hd_O_good [0] rfl rfl [a] (fun _ => rfl) rfl rfl rfl (by rw [hR]; decide) (by rw [hR]; decide) rfl (Nat.le_of_ble_eq_true rfl) d_O_end_49 (fun r9 _ hr9 => ?_)
  subst hr9
  refine g_wsq [co a 4 [.ref (q 0), .ref (q 1), .ref (q 2), .int (nI tp), .int (nI 2), .ref (q 3), .ref (q 4), .ref (q 5), .ref (q 6), .ref (q 7), .ref (q 8), .ref (q 9), .ref (q 10), .ref (q 11), .ref (q 12), .ref (q 13), .ref (q 14), .ref (q 15), .int (nI kd), .int (nI rt), .int (nI fl), .long (lN tt), .ref (q 16), .ref (q 17)]] rfl ?_
  refine g_if_neN (pc := 52) X (tgt := 57) d_O_end_52 (by decide) (by omega) (fun h_52 => absurd h_52 (by omega)) (fun h_52 => ?_)
  refine g_iconst (pc := 55) X (v := nI 0) d_O_end_55 (by decide) ?_
  exact kret _ () _ 56 rfl d_O_end_56

theorem c_O_copy_ok (l : Launch) (B : Bx) (a : Nat) (q : Nat → Nat) (tp : Nat) (kd : Nat) (rt : Nat) (fl : Nat) (tt : Nat) (cd : Int32) (ln : Nat → Nat) (i : Nat) (j : Nat) (f : Nat → Int8) (g : Nat → Int8) (h1 : i < 8) (h2 : j < 8) (h3 : ln i ≤ 8192) : Ci (S := Unit) l B y_O_copy b_O_copy 4 .int (Rm 2 0 0) [.ref a, .int (nI i), .int (nI j)] [co a 4 [.ref (q 0), .ref (q 1), .ref (q 2), .int (nI tp), .int cd, .ref (q 3), .ref (q 4), .ref (q 5), .ref (q 6), .ref (q 7), .ref (q 8), .ref (q 9), .ref (q 10), .ref (q 11), .ref (q 12), .ref (q 13), .ref (q 14), .ref (q 15), .int (nI kd), .int (nI rt), .int (nI fl), .long (lN tt), .ref (q 16), .ref (q 17)], cq B (q 1) 8 (fun z9 => some (q (20 + z9))), cb B (q (20 + i)) 8192 f, cb B (q (20 + j)) 8192 g, cn B (q 2) 8 (fun z9 => nI (ln z9))] (fun r _ => r = nI (ln i)) (fun _ => [co a 4 [.ref (q 0), .ref (q 1), .ref (q 2), .int (nI tp), .int (nI 0), .ref (q 3), .ref (q 4), .ref (q 5), .ref (q 6), .ref (q 7), .ref (q 8), .ref (q 9), .ref (q 10), .ref (q 11), .ref (q 12), .ref (q 13), .ref (q 14), .ref (q 15), .int (nI kd), .int (nI rt), .int (nI fl), .long (lN tt), .ref (q 16), .ref (q 17)], cq B (q 1) 8 (fun z9 => some (q (20 + z9))), cb B (q (20 + i)) 8192 f, cb B (q (20 + j)) 8192 (va_cpy f g 0 0 (ln i)), cn B (q 2) 8 (fun z9 => nI (va_up ln j (ln i) z9))]) := by
  refine ctr_i (by decide) (Nat.le_of_ble_eq_true rfl) ?_
  intro M Q hl hR hin X kret
  subst hl
  refine g_lv [(0, .ref a), (1, .int (nI i)), (2, .int (nI j))] rfl ?_
  refine g_aload_n (pc := 0) X (i := 0) d_O_copy_0 rfl rfl ?_
  refine g_iload_n (pc := 1) X (i := 1) d_O_copy_1 rfl rfl ?_
  refine g_iconst (pc := 2) X (v := nI 0) d_O_copy_2 (by decide) ?_
  refine g_bipush (pc := 3) X (v := nI 7) d_O_copy_3 (by decide) ?_
  refine g_callSi (pc := 5) X (c_O_in_t (m_l M) B (nI i) (nI 0) (nI 7) (inR_n (by omega) (by omega) (by omega))) wd_913 wd_914 wd_5 wd_915 hd_O_in [] rfl rfl [] (fun _ => rfl) rfl (by rw [hR]; decide) (by rw [hR]; decide) rfl (Nat.le_of_ble_eq_true rfl) d_O_copy_5 (fun r9 _ hr9 => ?_)
  subst hr9
  refine g_wsq [co a 4 [.ref (q 0), .ref (q 1), .ref (q 2), .int (nI tp), .int cd, .ref (q 3), .ref (q 4), .ref (q 5), .ref (q 6), .ref (q 7), .ref (q 8), .ref (q 9), .ref (q 10), .ref (q 11), .ref (q 12), .ref (q 13), .ref (q 14), .ref (q 15), .int (nI kd), .int (nI rt), .int (nI fl), .long (lN tt), .ref (q 16), .ref (q 17)], cq B (q 1) 8 (fun z9 => some (q (20 + z9))), cb B (q (20 + i)) 8192 f, cb B (q (20 + j)) 8192 g, cn B (q 2) 8 (fun z9 => nI (ln z9))] rfl ?_
  refine g_if_eqN (pc := 8) X (tgt := 25) d_O_copy_8 (by decide) (by omega) (fun h_8 => absurd h_8 (by omega)) (fun h_8 => ?_)
  refine g_iload_n (pc := 11) X (i := 2) d_O_copy_11 rfl rfl ?_
  refine g_iconst (pc := 12) X (v := nI 0) d_O_copy_12 (by decide) ?_
  refine g_bipush (pc := 13) X (v := nI 7) d_O_copy_13 (by decide) ?_
  refine g_callSi (pc := 15) X (c_O_in_t (m_l M) B (nI j) (nI 0) (nI 7) (inR_n (by omega) (by omega) (by omega))) wd_913 wd_914 wd_5 wd_915 hd_O_in [] rfl rfl [] (fun _ => rfl) rfl (by rw [hR]; decide) (by rw [hR]; decide) rfl (Nat.le_of_ble_eq_true rfl) d_O_copy_15 (fun r9 _ hr9 => ?_)
  subst hr9
  refine g_wsq [co a 4 [.ref (q 0), .ref (q 1), .ref (q 2), .int (nI tp), .int cd, .ref (q 3), .ref (q 4), .ref (q 5), .ref (q 6), .ref (q 7), .ref (q 8), .ref (q 9), .ref (q 10), .ref (q 11), .ref (q 12), .ref (q 13), .ref (q 14), .ref (q 15), .int (nI kd), .int (nI rt), .int (nI fl), .long (lN tt), .ref (q 16), .ref (q 17)], cq B (q 1) 8 (fun z9 => some (q (20 + z9))), cb B (q (20 + i)) 8192 f, cb B (q (20 + j)) 8192 g, cn B (q 2) 8 (fun z9 => nI (ln z9))] rfl ?_
  refine g_if_eqN (pc := 18) X (tgt := 25) d_O_copy_18 (by decide) (by omega) (fun h_18 => absurd h_18 (by omega)) (fun h_18 => ?_)
  refine g_iconst (pc := 21) X (v := nI 1) d_O_copy_21 (by decide) ?_
  refine g_goto (pc := 22) X (tgt := 26) d_O_copy_22 (by decide) ?_
  refine g_iconst (pc := 26) X (v := nI 1) d_O_copy_26 (by decide) ?_
  refine g_callVi (pc := 27) (q0 := 0) X (c_O_good_t (m_l M) B a q tp kd rt fl tt cd (nI 1) ) wd_901 wd_903 wp_O_good wd_5 wd_904 hd_O_good [0] rfl rfl [a] (fun _ => rfl) rfl rfl rfl (by rw [hR]; decide) (by rw [hR]; decide) rfl (Nat.le_of_ble_eq_true rfl) d_O_copy_27 (fun r9 _ hr9 => ?_)
  subst hr9
  refine g_wsq [co a 4 [.ref (q 0), .ref (q 1), .ref (q 2), .int (nI tp), .int (nI 0), .ref (q 3), .ref (q 4), .ref (q 5), .ref (q 6), .ref (q 7), .ref (q 8), .ref (q 9), .ref (q 10), .ref (q 11), .ref (q 12), .ref (q 13), .ref (q 14), .ref (q 15), .int (nI kd), .int (nI rt), .int (nI fl), .long (lN tt), .ref (q 16), .ref (q 17)], cq B (q 1) 8 (fun z9 => some (q (20 + z9))), cb B (q (20 + i)) 8192 f, cb B (q (20 + j)) 8192 g, cn B (q 2) 8 (fun z9 => nI (ln z9))] rfl ?_
  refine g_if_neN (pc := 30) X (tgt := 35) d_O_copy_30 (by decide) (by omega) (fun h_30 => ?_) (fun h_30 => absurd h_30 (by omega))
  refine g_iconst (pc := 35) X (v := nI 0) d_O_copy_35 (by decide) ?_
  refine g_istore_n (pc := 36) X (i := 3) d_O_copy_36 rfl (by decide) ?_
  refine g_lv [(0, .ref a), (1, .int (nI i)), (2, .int (nI j)), (3, .int (nI 0))] rfl ?_
  refine g_lv [(0, .ref a), (1, .int (nI i)), (2, .int (nI j)), (3, .int (nI 0))] rfl ?_
  refine g_wsq [co a 4 [.ref (q 0), .ref (q 1), .ref (q 2), .int (nI tp), .int (nI 0), .ref (q 3), .ref (q 4), .ref (q 5), .ref (q 6), .ref (q 7), .ref (q 8), .ref (q 9), .ref (q 10), .ref (q 11), .ref (q 12), .ref (q 13), .ref (q 14), .ref (q 15), .int (nI kd), .int (nI rt), .int (nI fl), .long (lN tt), .ref (q 16), .ref (q 17)], cq B (q 1) 8 (fun z9 => some (q (20 + z9))), cb B (q (20 + i)) 8192 f, cb B (q (20 + j)) 8192 (va_cpy f g 0 0 0), cn B (q 2) 8 (fun z9 => nI (ln z9))] (by rw [← cpy_0]) ?_
  refine loopK (fun k => G B M 4 0 0 Q [co a 4 [.ref (q 0), .ref (q 1), .ref (q 2), .int (nI tp), .int (nI 0), .ref (q 3), .ref (q 4), .ref (q 5), .ref (q 6), .ref (q 7), .ref (q 8), .ref (q 9), .ref (q 10), .ref (q 11), .ref (q 12), .ref (q 13), .ref (q 14), .ref (q 15), .int (nI kd), .int (nI rt), .int (nI fl), .long (lN tt), .ref (q 16), .ref (q 17)], cq B (q 1) 8 (fun z9 => some (q (20 + z9))), cb B (q (20 + i)) 8192 f, cb B (q (20 + j)) 8192 (va_cpy f g 0 0 k), cn B (q 2) 8 (fun z9 => nI (ln z9))] [(0, .ref a), (1, .int (nI i)), (2, .int (nI j)), (3, .int (nI k))] 37 []) (ln i) ?_ ?_
  · intro k hk37 kk37
    show G B M 4 0 0 Q [co a 4 [.ref (q 0), .ref (q 1), .ref (q 2), .int (nI tp), .int (nI 0), .ref (q 3), .ref (q 4), .ref (q 5), .ref (q 6), .ref (q 7), .ref (q 8), .ref (q 9), .ref (q 10), .ref (q 11), .ref (q 12), .ref (q 13), .ref (q 14), .ref (q 15), .int (nI kd), .int (nI rt), .int (nI fl), .long (lN tt), .ref (q 16), .ref (q 17)], cq B (q 1) 8 (fun z9 => some (q (20 + z9))), cb B (q (20 + i)) 8192 f, cb B (q (20 + j)) 8192 (va_cpy f g 0 0 k), cn B (q 2) 8 (fun z9 => nI (ln z9))] [(0, .ref a), (1, .int (nI i)), (2, .int (nI j)), (3, .int (nI k))] 37 []
    refine g_iload_n (pc := 37) X (i := 3) d_O_copy_37 rfl rfl ?_
    refine g_aload_n (pc := 38) X (i := 0) d_O_copy_38 rfl rfl ?_
    refine g_get (pc := 39) X in_O 0 rfl rfl 2 (by decide) wd_821 rfl d_O_copy_39 ?_
    refine g_iload_n (pc := 42) X (i := 1) d_O_copy_42 rfl rfl ?_
    refine g_iald (pc := 43) X 4 rfl i rfl (by omega) (by omega) d_O_copy_43 ?_
    refine g_icmp_geN (pc := 44) X (tgt := 69) d_O_copy_44 (by decide) (by omega) (by omega) (fun h_44 => absurd h_44 (by omega)) (fun h_44 => ?_)
    refine g_aload_n (pc := 47) X (i := 0) d_O_copy_47 rfl rfl ?_
    refine g_get (pc := 48) X in_O 0 rfl rfl 1 (by decide) wd_820 rfl d_O_copy_48 ?_
    refine g_iload_n (pc := 51) X (i := 2) d_O_copy_51 rfl rfl ?_
    refine g_qald (pc := 52) X 1 rfl j rfl (by omega) (by omega) (r := q (20 + j)) rfl d_O_copy_52 ?_
    refine g_iload_n (pc := 53) X (i := 3) d_O_copy_53 rfl rfl ?_
    refine g_aload_n (pc := 54) X (i := 0) d_O_copy_54 rfl rfl ?_
    refine g_get (pc := 55) X in_O 0 rfl rfl 1 (by decide) wd_820 rfl d_O_copy_55 ?_
    refine g_iload_n (pc := 58) X (i := 1) d_O_copy_58 rfl rfl ?_
    refine g_qald (pc := 59) X 1 rfl i rfl (by omega) (by omega) (r := q (20 + i)) rfl d_O_copy_59 ?_
    refine g_iload_n (pc := 60) X (i := 3) d_O_copy_60 rfl rfl ?_
    refine g_bald (pc := 61) X 2 rfl k rfl (by omega) (by omega) d_O_copy_61 ?_
    refine g_bastB (pc := 62) X 3 rfl k rfl (by omega) (by omega) d_O_copy_62 ?_
    refine g_wsq [co a 4 [.ref (q 0), .ref (q 1), .ref (q 2), .int (nI tp), .int (nI 0), .ref (q 3), .ref (q 4), .ref (q 5), .ref (q 6), .ref (q 7), .ref (q 8), .ref (q 9), .ref (q 10), .ref (q 11), .ref (q 12), .ref (q 13), .ref (q 14), .ref (q 15), .int (nI kd), .int (nI rt), .int (nI fl), .long (lN tt), .ref (q 16), .ref (q 17)], cq B (q 1) 8 (fun z9 => some (q (20 + z9))), cb B (q (20 + i)) 8192 f, cb B (q (20 + j)) 8192 (va_up (va_cpy f g 0 0 k) k (f k)), cn B (q 2) 8 (fun z9 => nI (ln z9))] rfl ?_
    refine g_iincN (pc := 63) X (a := k) (k + 1) d_O_copy_63 rfl 1 rfl (by omega) (by decide) ?_
    refine g_lv [(0, .ref a), (1, .int (nI i)), (2, .int (nI j)), (3, .int (nI (k + 1)))] rfl ?_
    refine g_goto (pc := 66) X (tgt := 37) d_O_copy_66 (by decide) ?_
    refine g_lv [(0, .ref a), (1, .int (nI i)), (2, .int (nI j)), (3, .int (nI (k + 1)))] rfl ?_
    refine g_wsq [co a 4 [.ref (q 0), .ref (q 1), .ref (q 2), .int (nI tp), .int (nI 0), .ref (q 3), .ref (q 4), .ref (q 5), .ref (q 6), .ref (q 7), .ref (q 8), .ref (q 9), .ref (q 10), .ref (q 11), .ref (q 12), .ref (q 13), .ref (q 14), .ref (q 15), .int (nI kd), .int (nI rt), .int (nI fl), .long (lN tt), .ref (q 16), .ref (q 17)], cq B (q 1) 8 (fun z9 => some (q (20 + z9))), cb B (q (20 + i)) 8192 f, cb B (q (20 + j)) 8192 (va_cpy f g 0 0 (k + 1)), cn B (q 2) 8 (fun z9 => nI (ln z9))] (by rw [← cpy_s, Nat.zero_add]) ?_
    exact kk37
  · show G B M 4 0 0 Q [co a 4 [.ref (q 0), .ref (q 1), .ref (q 2), .int (nI tp), .int (nI 0), .ref (q 3), .ref (q 4), .ref (q 5), .ref (q 6), .ref (q 7), .ref (q 8), .ref (q 9), .ref (q 10), .ref (q 11), .ref (q 12), .ref (q 13), .ref (q 14), .ref (q 15), .int (nI kd), .int (nI rt), .int (nI fl), .long (lN tt), .ref (q 16), .ref (q 17)], cq B (q 1) 8 (fun z9 => some (q (20 + z9))), cb B (q (20 + i)) 8192 f, cb B (q (20 + j)) 8192 (va_cpy f g 0 0 (ln i)), cn B (q 2) 8 (fun z9 => nI (ln z9))] [(0, .ref a), (1, .int (nI i)), (2, .int (nI j)), (3, .int (nI (ln i)))] 37 []
    refine g_iload_n (pc := 37) X (i := 3) d_O_copy_37 rfl rfl ?_
    refine g_aload_n (pc := 38) X (i := 0) d_O_copy_38 rfl rfl ?_
    refine g_get (pc := 39) X in_O 0 rfl rfl 2 (by decide) wd_821 rfl d_O_copy_39 ?_
    refine g_iload_n (pc := 42) X (i := 1) d_O_copy_42 rfl rfl ?_
    refine g_iald (pc := 43) X 4 rfl i rfl (by omega) (by omega) d_O_copy_43 ?_
    refine g_icmp_geN (pc := 44) X (tgt := 69) d_O_copy_44 (by decide) (by omega) (by omega) (fun h_44 => ?_) (fun h_44 => absurd h_44 (by omega))
    refine g_aload_n (pc := 69) X (i := 0) d_O_copy_69 rfl rfl ?_
    refine g_get (pc := 70) X in_O 0 rfl rfl 2 (by decide) wd_821 rfl d_O_copy_70 ?_
    refine g_iload_n (pc := 73) X (i := 2) d_O_copy_73 rfl rfl ?_
    refine g_aload_n (pc := 74) X (i := 0) d_O_copy_74 rfl rfl ?_
    refine g_get (pc := 75) X in_O 0 rfl rfl 2 (by decide) wd_821 rfl d_O_copy_75 ?_
    refine g_iload_n (pc := 78) X (i := 1) d_O_copy_78 rfl rfl ?_
    refine g_iald (pc := 79) X 4 rfl i rfl (by omega) (by omega) d_O_copy_79 ?_
    refine g_iast (pc := 80) X 4 rfl j rfl (by omega) (by omega) d_O_copy_80 ?_
    refine g_wsq [co a 4 [.ref (q 0), .ref (q 1), .ref (q 2), .int (nI tp), .int (nI 0), .ref (q 3), .ref (q 4), .ref (q 5), .ref (q 6), .ref (q 7), .ref (q 8), .ref (q 9), .ref (q 10), .ref (q 11), .ref (q 12), .ref (q 13), .ref (q 14), .ref (q 15), .int (nI kd), .int (nI rt), .int (nI fl), .long (lN tt), .ref (q 16), .ref (q 17)], cq B (q 1) 8 (fun z9 => some (q (20 + z9))), cb B (q (20 + i)) 8192 f, cb B (q (20 + j)) 8192 (va_cpy f g 0 0 (ln i)), cn B (q 2) 8 (va_up (fun z9 => nI (ln z9)) j (nI (ln i)))] rfl ?_
    refine g_aload_n (pc := 81) X (i := 0) d_O_copy_81 rfl rfl ?_
    refine g_get (pc := 82) X in_O 0 rfl rfl 2 (by decide) wd_821 rfl d_O_copy_82 ?_
    refine g_iload_n (pc := 85) X (i := 2) d_O_copy_85 rfl rfl ?_
    refine g_iald (pc := 86) X 4 rfl j rfl (by omega) (by omega) d_O_copy_86 ?_
    refine g_wsq [co a 4 [.ref (q 0), .ref (q 1), .ref (q 2), .int (nI tp), .int (nI 0), .ref (q 3), .ref (q 4), .ref (q 5), .ref (q 6), .ref (q 7), .ref (q 8), .ref (q 9), .ref (q 10), .ref (q 11), .ref (q 12), .ref (q 13), .ref (q 14), .ref (q 15), .int (nI kd), .int (nI rt), .int (nI fl), .long (lN tt), .ref (q 16), .ref (q 17)], cq B (q 1) 8 (fun z9 => some (q (20 + z9))), cb B (q (20 + i)) 8192 f, cb B (q (20 + j)) 8192 (va_cpy f g 0 0 (ln i)), cn B (q 2) 8 (fun z9 => nI (va_up ln j (ln i) z9))] (by rw [nI_up]) ?_
    exact kret _ () _ 87 (va_up_self _ _ _) d_O_copy_87

theorem c_O_copy_self (l : Launch) (B : Bx) (a : Nat) (q : Nat → Nat) (tp : Nat) (kd : Nat) (rt : Nat) (fl : Nat) (tt : Nat) (cd : Int32) (ln : Nat → Nat) (i : Nat) (f : Nat → Int8) (h1 : i < 8) (h3 : ln i ≤ 8192) : Ci (S := Unit) l B y_O_copy b_O_copy 4 .int (Rm 2 0 0) [.ref a, .int (nI i), .int (nI i)] [co a 4 [.ref (q 0), .ref (q 1), .ref (q 2), .int (nI tp), .int cd, .ref (q 3), .ref (q 4), .ref (q 5), .ref (q 6), .ref (q 7), .ref (q 8), .ref (q 9), .ref (q 10), .ref (q 11), .ref (q 12), .ref (q 13), .ref (q 14), .ref (q 15), .int (nI kd), .int (nI rt), .int (nI fl), .long (lN tt), .ref (q 16), .ref (q 17)], cq B (q 1) 8 (fun z9 => some (q (20 + z9))), cb B (q (20 + i)) 8192 f, cn B (q 2) 8 (fun z9 => nI (ln z9))] (fun r _ => r = nI (ln i)) (fun _ => [co a 4 [.ref (q 0), .ref (q 1), .ref (q 2), .int (nI tp), .int (nI 0), .ref (q 3), .ref (q 4), .ref (q 5), .ref (q 6), .ref (q 7), .ref (q 8), .ref (q 9), .ref (q 10), .ref (q 11), .ref (q 12), .ref (q 13), .ref (q 14), .ref (q 15), .int (nI kd), .int (nI rt), .int (nI fl), .long (lN tt), .ref (q 16), .ref (q 17)], cq B (q 1) 8 (fun z9 => some (q (20 + z9))), cb B (q (20 + i)) 8192 f, cn B (q 2) 8 (fun z9 => nI (va_up ln i (ln i) z9))]) := by
  refine ctr_i (by decide) (Nat.le_of_ble_eq_true rfl) ?_
  intro M Q hl hR hin X kret
  subst hl
  refine g_lv [(0, .ref a), (1, .int (nI i)), (2, .int (nI i))] rfl ?_
  refine g_aload_n (pc := 0) X (i := 0) d_O_copy_0 rfl rfl ?_
  refine g_iload_n (pc := 1) X (i := 1) d_O_copy_1 rfl rfl ?_
  refine g_iconst (pc := 2) X (v := nI 0) d_O_copy_2 (by decide) ?_
  refine g_bipush (pc := 3) X (v := nI 7) d_O_copy_3 (by decide) ?_
  refine g_callSi (pc := 5) X (c_O_in_t (m_l M) B (nI i) (nI 0) (nI 7) (inR_n (by omega) (by omega) (by omega))) wd_913 wd_914 wd_5 wd_915 hd_O_in [] rfl rfl [] (fun _ => rfl) rfl (by rw [hR]; decide) (by rw [hR]; decide) rfl (Nat.le_of_ble_eq_true rfl) d_O_copy_5 (fun r9 _ hr9 => ?_)
  subst hr9
  refine g_wsq [co a 4 [.ref (q 0), .ref (q 1), .ref (q 2), .int (nI tp), .int cd, .ref (q 3), .ref (q 4), .ref (q 5), .ref (q 6), .ref (q 7), .ref (q 8), .ref (q 9), .ref (q 10), .ref (q 11), .ref (q 12), .ref (q 13), .ref (q 14), .ref (q 15), .int (nI kd), .int (nI rt), .int (nI fl), .long (lN tt), .ref (q 16), .ref (q 17)], cq B (q 1) 8 (fun z9 => some (q (20 + z9))), cb B (q (20 + i)) 8192 f, cn B (q 2) 8 (fun z9 => nI (ln z9))] rfl ?_
  refine g_if_eqN (pc := 8) X (tgt := 25) d_O_copy_8 (by decide) (by omega) (fun h_8 => absurd h_8 (by omega)) (fun h_8 => ?_)
  refine g_iload_n (pc := 11) X (i := 2) d_O_copy_11 rfl rfl ?_
  refine g_iconst (pc := 12) X (v := nI 0) d_O_copy_12 (by decide) ?_
  refine g_bipush (pc := 13) X (v := nI 7) d_O_copy_13 (by decide) ?_
  refine g_callSi (pc := 15) X (c_O_in_t (m_l M) B (nI i) (nI 0) (nI 7) (inR_n (by omega) (by omega) (by omega))) wd_913 wd_914 wd_5 wd_915 hd_O_in [] rfl rfl [] (fun _ => rfl) rfl (by rw [hR]; decide) (by rw [hR]; decide) rfl (Nat.le_of_ble_eq_true rfl) d_O_copy_15 (fun r9 _ hr9 => ?_)
  subst hr9
  refine g_wsq [co a 4 [.ref (q 0), .ref (q 1), .ref (q 2), .int (nI tp), .int cd, .ref (q 3), .ref (q 4), .ref (q 5), .ref (q 6), .ref (q 7), .ref (q 8), .ref (q 9), .ref (q 10), .ref (q 11), .ref (q 12), .ref (q 13), .ref (q 14), .ref (q 15), .int (nI kd), .int (nI rt), .int (nI fl), .long (lN tt), .ref (q 16), .ref (q 17)], cq B (q 1) 8 (fun z9 => some (q (20 + z9))), cb B (q (20 + i)) 8192 f, cn B (q 2) 8 (fun z9 => nI (ln z9))] rfl ?_
  refine g_if_eqN (pc := 18) X (tgt := 25) d_O_copy_18 (by decide) (by omega) (fun h_18 => absurd h_18 (by omega)) (fun h_18 => ?_)
  refine g_iconst (pc := 21) X (v := nI 1) d_O_copy_21 (by decide) ?_
  refine g_goto (pc := 22) X (tgt := 26) d_O_copy_22 (by decide) ?_
  refine g_iconst (pc := 26) X (v := nI 1) d_O_copy_26 (by decide) ?_
  refine g_callVi (pc := 27) (q0 := 0) X (c_O_good_t (m_l M) B a q tp kd rt fl tt cd (nI 1) ) wd_901 wd_903 wp_O_good wd_5 wd_904 hd_O_good [0] rfl rfl [a] (fun _ => rfl) rfl rfl rfl (by rw [hR]; decide) (by rw [hR]; decide) rfl (Nat.le_of_ble_eq_true rfl) d_O_copy_27 (fun r9 _ hr9 => ?_)
  subst hr9
  refine g_wsq [co a 4 [.ref (q 0), .ref (q 1), .ref (q 2), .int (nI tp), .int (nI 0), .ref (q 3), .ref (q 4), .ref (q 5), .ref (q 6), .ref (q 7), .ref (q 8), .ref (q 9), .ref (q 10), .ref (q 11), .ref (q 12), .ref (q 13), .ref (q 14), .ref (q 15), .int (nI kd), .int (nI rt), .int (nI fl), .long (lN tt), .ref (q 16), .ref (q 17)], cq B (q 1) 8 (fun z9 => some (q (20 + z9))), cb B (q (20 + i)) 8192 f, cn B (q 2) 8 (fun z9 => nI (ln z9))] rfl ?_
  refine g_if_neN (pc := 30) X (tgt := 35) d_O_copy_30 (by decide) (by omega) (fun h_30 => ?_) (fun h_30 => absurd h_30 (by omega))
  refine g_iconst (pc := 35) X (v := nI 0) d_O_copy_35 (by decide) ?_
  refine g_istore_n (pc := 36) X (i := 3) d_O_copy_36 rfl (by decide) ?_
  refine g_lv [(0, .ref a), (1, .int (nI i)), (2, .int (nI i)), (3, .int (nI 0))] rfl ?_
  refine g_lv [(0, .ref a), (1, .int (nI i)), (2, .int (nI i)), (3, .int (nI 0))] rfl ?_
  refine g_wsq [co a 4 [.ref (q 0), .ref (q 1), .ref (q 2), .int (nI tp), .int (nI 0), .ref (q 3), .ref (q 4), .ref (q 5), .ref (q 6), .ref (q 7), .ref (q 8), .ref (q 9), .ref (q 10), .ref (q 11), .ref (q 12), .ref (q 13), .ref (q 14), .ref (q 15), .int (nI kd), .int (nI rt), .int (nI fl), .long (lN tt), .ref (q 16), .ref (q 17)], cq B (q 1) 8 (fun z9 => some (q (20 + z9))), cb B (q (20 + i)) 8192 f, cn B (q 2) 8 (fun z9 => nI (ln z9))] (by rfl) ?_
  refine loopK (fun k => G B M 4 0 0 Q [co a 4 [.ref (q 0), .ref (q 1), .ref (q 2), .int (nI tp), .int (nI 0), .ref (q 3), .ref (q 4), .ref (q 5), .ref (q 6), .ref (q 7), .ref (q 8), .ref (q 9), .ref (q 10), .ref (q 11), .ref (q 12), .ref (q 13), .ref (q 14), .ref (q 15), .int (nI kd), .int (nI rt), .int (nI fl), .long (lN tt), .ref (q 16), .ref (q 17)], cq B (q 1) 8 (fun z9 => some (q (20 + z9))), cb B (q (20 + i)) 8192 f, cn B (q 2) 8 (fun z9 => nI (ln z9))] [(0, .ref a), (1, .int (nI i)), (2, .int (nI i)), (3, .int (nI k))] 37 []) (ln i) ?_ ?_
  · intro k hk37 kk37
    show G B M 4 0 0 Q [co a 4 [.ref (q 0), .ref (q 1), .ref (q 2), .int (nI tp), .int (nI 0), .ref (q 3), .ref (q 4), .ref (q 5), .ref (q 6), .ref (q 7), .ref (q 8), .ref (q 9), .ref (q 10), .ref (q 11), .ref (q 12), .ref (q 13), .ref (q 14), .ref (q 15), .int (nI kd), .int (nI rt), .int (nI fl), .long (lN tt), .ref (q 16), .ref (q 17)], cq B (q 1) 8 (fun z9 => some (q (20 + z9))), cb B (q (20 + i)) 8192 f, cn B (q 2) 8 (fun z9 => nI (ln z9))] [(0, .ref a), (1, .int (nI i)), (2, .int (nI i)), (3, .int (nI k))] 37 []
    refine g_iload_n (pc := 37) X (i := 3) d_O_copy_37 rfl rfl ?_
    refine g_aload_n (pc := 38) X (i := 0) d_O_copy_38 rfl rfl ?_
    refine g_get (pc := 39) X in_O 0 rfl rfl 2 (by decide) wd_821 rfl d_O_copy_39 ?_
    refine g_iload_n (pc := 42) X (i := 1) d_O_copy_42 rfl rfl ?_
    refine g_iald (pc := 43) X 3 rfl i rfl (by omega) (by omega) d_O_copy_43 ?_
    refine g_icmp_geN (pc := 44) X (tgt := 69) d_O_copy_44 (by decide) (by omega) (by omega) (fun h_44 => absurd h_44 (by omega)) (fun h_44 => ?_)
    refine g_aload_n (pc := 47) X (i := 0) d_O_copy_47 rfl rfl ?_
    refine g_get (pc := 48) X in_O 0 rfl rfl 1 (by decide) wd_820 rfl d_O_copy_48 ?_
    refine g_iload_n (pc := 51) X (i := 2) d_O_copy_51 rfl rfl ?_
    refine g_qald (pc := 52) X 1 rfl i rfl (by omega) (by omega) (r := q (20 + i)) rfl d_O_copy_52 ?_
    refine g_iload_n (pc := 53) X (i := 3) d_O_copy_53 rfl rfl ?_
    refine g_aload_n (pc := 54) X (i := 0) d_O_copy_54 rfl rfl ?_
    refine g_get (pc := 55) X in_O 0 rfl rfl 1 (by decide) wd_820 rfl d_O_copy_55 ?_
    refine g_iload_n (pc := 58) X (i := 1) d_O_copy_58 rfl rfl ?_
    refine g_qald (pc := 59) X 1 rfl i rfl (by omega) (by omega) (r := q (20 + i)) rfl d_O_copy_59 ?_
    refine g_iload_n (pc := 60) X (i := 3) d_O_copy_60 rfl rfl ?_
    refine g_bald (pc := 61) X 2 rfl k rfl (by omega) (by omega) d_O_copy_61 ?_
    refine g_bastB (pc := 62) X 2 rfl k rfl (by omega) (by omega) d_O_copy_62 ?_
    refine g_wsq [co a 4 [.ref (q 0), .ref (q 1), .ref (q 2), .int (nI tp), .int (nI 0), .ref (q 3), .ref (q 4), .ref (q 5), .ref (q 6), .ref (q 7), .ref (q 8), .ref (q 9), .ref (q 10), .ref (q 11), .ref (q 12), .ref (q 13), .ref (q 14), .ref (q 15), .int (nI kd), .int (nI rt), .int (nI fl), .long (lN tt), .ref (q 16), .ref (q 17)], cq B (q 1) 8 (fun z9 => some (q (20 + z9))), cb B (q (20 + i)) 8192 (va_up f k (f k)), cn B (q 2) 8 (fun z9 => nI (ln z9))] rfl ?_
    refine g_iincN (pc := 63) X (a := k) (k + 1) d_O_copy_63 rfl 1 rfl (by omega) (by decide) ?_
    refine g_lv [(0, .ref a), (1, .int (nI i)), (2, .int (nI i)), (3, .int (nI (k + 1)))] rfl ?_
    refine g_goto (pc := 66) X (tgt := 37) d_O_copy_66 (by decide) ?_
    refine g_lv [(0, .ref a), (1, .int (nI i)), (2, .int (nI i)), (3, .int (nI (k + 1)))] rfl ?_
    refine g_wsq [co a 4 [.ref (q 0), .ref (q 1), .ref (q 2), .int (nI tp), .int (nI 0), .ref (q 3), .ref (q 4), .ref (q 5), .ref (q 6), .ref (q 7), .ref (q 8), .ref (q 9), .ref (q 10), .ref (q 11), .ref (q 12), .ref (q 13), .ref (q 14), .ref (q 15), .int (nI kd), .int (nI rt), .int (nI fl), .long (lN tt), .ref (q 16), .ref (q 17)], cq B (q 1) 8 (fun z9 => some (q (20 + z9))), cb B (q (20 + i)) 8192 f, cn B (q 2) 8 (fun z9 => nI (ln z9))] (by rw [up_id]) ?_
    exact kk37
  · show G B M 4 0 0 Q [co a 4 [.ref (q 0), .ref (q 1), .ref (q 2), .int (nI tp), .int (nI 0), .ref (q 3), .ref (q 4), .ref (q 5), .ref (q 6), .ref (q 7), .ref (q 8), .ref (q 9), .ref (q 10), .ref (q 11), .ref (q 12), .ref (q 13), .ref (q 14), .ref (q 15), .int (nI kd), .int (nI rt), .int (nI fl), .long (lN tt), .ref (q 16), .ref (q 17)], cq B (q 1) 8 (fun z9 => some (q (20 + z9))), cb B (q (20 + i)) 8192 f, cn B (q 2) 8 (fun z9 => nI (ln z9))] [(0, .ref a), (1, .int (nI i)), (2, .int (nI i)), (3, .int (nI (ln i)))] 37 []
    refine g_iload_n (pc := 37) X (i := 3) d_O_copy_37 rfl rfl ?_
    refine g_aload_n (pc := 38) X (i := 0) d_O_copy_38 rfl rfl ?_
    refine g_get (pc := 39) X in_O 0 rfl rfl 2 (by decide) wd_821 rfl d_O_copy_39 ?_
    refine g_iload_n (pc := 42) X (i := 1) d_O_copy_42 rfl rfl ?_
    refine g_iald (pc := 43) X 3 rfl i rfl (by omega) (by omega) d_O_copy_43 ?_
    refine g_icmp_geN (pc := 44) X (tgt := 69) d_O_copy_44 (by decide) (by omega) (by omega) (fun h_44 => ?_) (fun h_44 => absurd h_44 (by omega))
    refine g_aload_n (pc := 69) X (i := 0) d_O_copy_69 rfl rfl ?_
    refine g_get (pc := 70) X in_O 0 rfl rfl 2 (by decide) wd_821 rfl d_O_copy_70 ?_
    refine g_iload_n (pc := 73) X (i := 2) d_O_copy_73 rfl rfl ?_
    refine g_aload_n (pc := 74) X (i := 0) d_O_copy_74 rfl rfl ?_
    refine g_get (pc := 75) X in_O 0 rfl rfl 2 (by decide) wd_821 rfl d_O_copy_75 ?_
    refine g_iload_n (pc := 78) X (i := 1) d_O_copy_78 rfl rfl ?_
    refine g_iald (pc := 79) X 3 rfl i rfl (by omega) (by omega) d_O_copy_79 ?_
    refine g_iast (pc := 80) X 3 rfl i rfl (by omega) (by omega) d_O_copy_80 ?_
    refine g_wsq [co a 4 [.ref (q 0), .ref (q 1), .ref (q 2), .int (nI tp), .int (nI 0), .ref (q 3), .ref (q 4), .ref (q 5), .ref (q 6), .ref (q 7), .ref (q 8), .ref (q 9), .ref (q 10), .ref (q 11), .ref (q 12), .ref (q 13), .ref (q 14), .ref (q 15), .int (nI kd), .int (nI rt), .int (nI fl), .long (lN tt), .ref (q 16), .ref (q 17)], cq B (q 1) 8 (fun z9 => some (q (20 + z9))), cb B (q (20 + i)) 8192 f, cn B (q 2) 8 (va_up (fun z9 => nI (ln z9)) i (nI (ln i)))] rfl ?_
    refine g_aload_n (pc := 81) X (i := 0) d_O_copy_81 rfl rfl ?_
    refine g_get (pc := 82) X in_O 0 rfl rfl 2 (by decide) wd_821 rfl d_O_copy_82 ?_
    refine g_iload_n (pc := 85) X (i := 2) d_O_copy_85 rfl rfl ?_
    refine g_iald (pc := 86) X 3 rfl i rfl (by omega) (by omega) d_O_copy_86 ?_
    refine g_wsq [co a 4 [.ref (q 0), .ref (q 1), .ref (q 2), .int (nI tp), .int (nI 0), .ref (q 3), .ref (q 4), .ref (q 5), .ref (q 6), .ref (q 7), .ref (q 8), .ref (q 9), .ref (q 10), .ref (q 11), .ref (q 12), .ref (q 13), .ref (q 14), .ref (q 15), .int (nI kd), .int (nI rt), .int (nI fl), .long (lN tt), .ref (q 16), .ref (q 17)], cq B (q 1) 8 (fun z9 => some (q (20 + z9))), cb B (q (20 + i)) 8192 f, cn B (q 2) 8 (fun z9 => nI (va_up ln i (ln i) z9))] (by rw [nI_up]) ?_
    exact kret _ () _ 87 (va_up_self _ _ _) d_O_copy_87

theorem c_O_copy_b1 (l : Launch) (B : Bx) (a : Nat) (q : Nat → Nat) (tp : Nat) (kd : Nat) (rt : Nat) (fl : Nat) (tt : Nat) (cd : Int32) (x : Int32) (y : Int32) (h1 : inR x (nI 0) (nI 7) = nI 0) : Ci (S := Unit) l B y_O_copy b_O_copy 4 .int (Rm 2 0 0) [.ref a, .int x, .int y] [co a 4 [.ref (q 0), .ref (q 1), .ref (q 2), .int (nI tp), .int cd, .ref (q 3), .ref (q 4), .ref (q 5), .ref (q 6), .ref (q 7), .ref (q 8), .ref (q 9), .ref (q 10), .ref (q 11), .ref (q 12), .ref (q 13), .ref (q 14), .ref (q 15), .int (nI kd), .int (nI rt), .int (nI fl), .long (lN tt), .ref (q 16), .ref (q 17)]] (fun r _ => r = nI 0) (fun _ => [co a 4 [.ref (q 0), .ref (q 1), .ref (q 2), .int (nI tp), .int (nI 1), .ref (q 3), .ref (q 4), .ref (q 5), .ref (q 6), .ref (q 7), .ref (q 8), .ref (q 9), .ref (q 10), .ref (q 11), .ref (q 12), .ref (q 13), .ref (q 14), .ref (q 15), .int (nI kd), .int (nI rt), .int (nI fl), .long (lN tt), .ref (q 16), .ref (q 17)]]) := by
  refine ctr_i (by decide) (Nat.le_of_ble_eq_true rfl) ?_
  intro M Q hl hR hin X kret
  subst hl
  refine g_lv [(0, .ref a), (1, .int x), (2, .int y)] rfl ?_
  refine g_aload_n (pc := 0) X (i := 0) d_O_copy_0 rfl rfl ?_
  refine g_iload_n (pc := 1) X (i := 1) d_O_copy_1 rfl rfl ?_
  refine g_iconst (pc := 2) X (v := nI 0) d_O_copy_2 (by decide) ?_
  refine g_bipush (pc := 3) X (v := nI 7) d_O_copy_3 (by decide) ?_
  refine g_callSi (pc := 5) X (c_O_in_f (m_l M) B x (nI 0) (nI 7) h1) wd_913 wd_914 wd_5 wd_915 hd_O_in [] rfl rfl [] (fun _ => rfl) rfl (by rw [hR]; decide) (by rw [hR]; decide) rfl (Nat.le_of_ble_eq_true rfl) d_O_copy_5 (fun r9 _ hr9 => ?_)
  subst hr9
  refine g_wsq [co a 4 [.ref (q 0), .ref (q 1), .ref (q 2), .int (nI tp), .int cd, .ref (q 3), .ref (q 4), .ref (q 5), .ref (q 6), .ref (q 7), .ref (q 8), .ref (q 9), .ref (q 10), .ref (q 11), .ref (q 12), .ref (q 13), .ref (q 14), .ref (q 15), .int (nI kd), .int (nI rt), .int (nI fl), .long (lN tt), .ref (q 16), .ref (q 17)]] rfl ?_
  refine g_if_eqN (pc := 8) X (tgt := 25) d_O_copy_8 (by decide) (by omega) (fun h_8 => ?_) (fun h_8 => absurd h_8 (by omega))
  refine g_iconst (pc := 25) X (v := nI 0) d_O_copy_25 (by decide) ?_
  refine g_iconst (pc := 26) X (v := nI 1) d_O_copy_26 (by decide) ?_
  refine g_callVi (pc := 27) (q0 := 0) X (c_O_good_f (m_l M) B a q tp kd rt fl tt cd (nI 1) ) wd_901 wd_903 wp_O_good wd_5 wd_904 hd_O_good [0] rfl rfl [a] (fun _ => rfl) rfl rfl rfl (by rw [hR]; decide) (by rw [hR]; decide) rfl (Nat.le_of_ble_eq_true rfl) d_O_copy_27 (fun r9 _ hr9 => ?_)
  subst hr9
  refine g_wsq [co a 4 [.ref (q 0), .ref (q 1), .ref (q 2), .int (nI tp), .int (nI 1), .ref (q 3), .ref (q 4), .ref (q 5), .ref (q 6), .ref (q 7), .ref (q 8), .ref (q 9), .ref (q 10), .ref (q 11), .ref (q 12), .ref (q 13), .ref (q 14), .ref (q 15), .int (nI kd), .int (nI rt), .int (nI fl), .long (lN tt), .ref (q 16), .ref (q 17)]] rfl ?_
  refine g_if_neN (pc := 30) X (tgt := 35) d_O_copy_30 (by decide) (by omega) (fun h_30 => absurd h_30 (by omega)) (fun h_30 => ?_)
  refine g_iconst (pc := 33) X (v := nI 0) d_O_copy_33 (by decide) ?_
  exact kret _ () _ 34 rfl d_O_copy_34

theorem c_O_copy_b2 (l : Launch) (B : Bx) (a : Nat) (q : Nat → Nat) (tp : Nat) (kd : Nat) (rt : Nat) (fl : Nat) (tt : Nat) (cd : Int32) (x : Int32) (y : Int32) (h1 : inR x (nI 0) (nI 7) = nI 1) (h2 : inR y (nI 0) (nI 7) = nI 0) : Ci (S := Unit) l B y_O_copy b_O_copy 4 .int (Rm 2 0 0) [.ref a, .int x, .int y] [co a 4 [.ref (q 0), .ref (q 1), .ref (q 2), .int (nI tp), .int cd, .ref (q 3), .ref (q 4), .ref (q 5), .ref (q 6), .ref (q 7), .ref (q 8), .ref (q 9), .ref (q 10), .ref (q 11), .ref (q 12), .ref (q 13), .ref (q 14), .ref (q 15), .int (nI kd), .int (nI rt), .int (nI fl), .long (lN tt), .ref (q 16), .ref (q 17)]] (fun r _ => r = nI 0) (fun _ => [co a 4 [.ref (q 0), .ref (q 1), .ref (q 2), .int (nI tp), .int (nI 1), .ref (q 3), .ref (q 4), .ref (q 5), .ref (q 6), .ref (q 7), .ref (q 8), .ref (q 9), .ref (q 10), .ref (q 11), .ref (q 12), .ref (q 13), .ref (q 14), .ref (q 15), .int (nI kd), .int (nI rt), .int (nI fl), .long (lN tt), .ref (q 16), .ref (q 17)]]) := by
  refine ctr_i (by decide) (Nat.le_of_ble_eq_true rfl) ?_
  intro M Q hl hR hin X kret
  subst hl
  refine g_lv [(0, .ref a), (1, .int x), (2, .int y)] rfl ?_
  refine g_aload_n (pc := 0) X (i := 0) d_O_copy_0 rfl rfl ?_
  refine g_iload_n (pc := 1) X (i := 1) d_O_copy_1 rfl rfl ?_
  refine g_iconst (pc := 2) X (v := nI 0) d_O_copy_2 (by decide) ?_
  refine g_bipush (pc := 3) X (v := nI 7) d_O_copy_3 (by decide) ?_
  refine g_callSi (pc := 5) X (c_O_in_t (m_l M) B x (nI 0) (nI 7) h1) wd_913 wd_914 wd_5 wd_915 hd_O_in [] rfl rfl [] (fun _ => rfl) rfl (by rw [hR]; decide) (by rw [hR]; decide) rfl (Nat.le_of_ble_eq_true rfl) d_O_copy_5 (fun r9 _ hr9 => ?_)
  subst hr9
  refine g_wsq [co a 4 [.ref (q 0), .ref (q 1), .ref (q 2), .int (nI tp), .int cd, .ref (q 3), .ref (q 4), .ref (q 5), .ref (q 6), .ref (q 7), .ref (q 8), .ref (q 9), .ref (q 10), .ref (q 11), .ref (q 12), .ref (q 13), .ref (q 14), .ref (q 15), .int (nI kd), .int (nI rt), .int (nI fl), .long (lN tt), .ref (q 16), .ref (q 17)]] rfl ?_
  refine g_if_eqN (pc := 8) X (tgt := 25) d_O_copy_8 (by decide) (by omega) (fun h_8 => absurd h_8 (by omega)) (fun h_8 => ?_)
  refine g_iload_n (pc := 11) X (i := 2) d_O_copy_11 rfl rfl ?_
  refine g_iconst (pc := 12) X (v := nI 0) d_O_copy_12 (by decide) ?_
  refine g_bipush (pc := 13) X (v := nI 7) d_O_copy_13 (by decide) ?_
  refine g_callSi (pc := 15) X (c_O_in_f (m_l M) B y (nI 0) (nI 7) h2) wd_913 wd_914 wd_5 wd_915 hd_O_in [] rfl rfl [] (fun _ => rfl) rfl (by rw [hR]; decide) (by rw [hR]; decide) rfl (Nat.le_of_ble_eq_true rfl) d_O_copy_15 (fun r9 _ hr9 => ?_)
  subst hr9
  refine g_wsq [co a 4 [.ref (q 0), .ref (q 1), .ref (q 2), .int (nI tp), .int cd, .ref (q 3), .ref (q 4), .ref (q 5), .ref (q 6), .ref (q 7), .ref (q 8), .ref (q 9), .ref (q 10), .ref (q 11), .ref (q 12), .ref (q 13), .ref (q 14), .ref (q 15), .int (nI kd), .int (nI rt), .int (nI fl), .long (lN tt), .ref (q 16), .ref (q 17)]] rfl ?_
  refine g_if_eqN (pc := 18) X (tgt := 25) d_O_copy_18 (by decide) (by omega) (fun h_18 => ?_) (fun h_18 => absurd h_18 (by omega))
  refine g_iconst (pc := 25) X (v := nI 0) d_O_copy_25 (by decide) ?_
  refine g_iconst (pc := 26) X (v := nI 1) d_O_copy_26 (by decide) ?_
  refine g_callVi (pc := 27) (q0 := 0) X (c_O_good_f (m_l M) B a q tp kd rt fl tt cd (nI 1) ) wd_901 wd_903 wp_O_good wd_5 wd_904 hd_O_good [0] rfl rfl [a] (fun _ => rfl) rfl rfl rfl (by rw [hR]; decide) (by rw [hR]; decide) rfl (Nat.le_of_ble_eq_true rfl) d_O_copy_27 (fun r9 _ hr9 => ?_)
  subst hr9
  refine g_wsq [co a 4 [.ref (q 0), .ref (q 1), .ref (q 2), .int (nI tp), .int (nI 1), .ref (q 3), .ref (q 4), .ref (q 5), .ref (q 6), .ref (q 7), .ref (q 8), .ref (q 9), .ref (q 10), .ref (q 11), .ref (q 12), .ref (q 13), .ref (q 14), .ref (q 15), .int (nI kd), .int (nI rt), .int (nI fl), .long (lN tt), .ref (q 16), .ref (q 17)]] rfl ?_
  refine g_if_neN (pc := 30) X (tgt := 35) d_O_copy_30 (by decide) (by omega) (fun h_30 => absurd h_30 (by omega)) (fun h_30 => ?_)
  refine g_iconst (pc := 33) X (v := nI 0) d_O_copy_33 (by decide) ?_
  exact kret _ () _ 34 rfl d_O_copy_34

theorem c_O_same_b1 (l : Launch) (B : Bx) (a : Nat) (q : Nat → Nat) (tp : Nat) (kd : Nat) (rt : Nat) (fl : Nat) (tt : Nat) (cd : Int32) (x : Int32) (y : Int32) (h1 : inR x (nI 0) (nI 7) = nI 0) : Ci (S := Unit) l B y_O_same b_O_same 5 .boolean (Rm 2 0 0) [.ref a, .int x, .int y] [co a 4 [.ref (q 0), .ref (q 1), .ref (q 2), .int (nI tp), .int cd, .ref (q 3), .ref (q 4), .ref (q 5), .ref (q 6), .ref (q 7), .ref (q 8), .ref (q 9), .ref (q 10), .ref (q 11), .ref (q 12), .ref (q 13), .ref (q 14), .ref (q 15), .int (nI kd), .int (nI rt), .int (nI fl), .long (lN tt), .ref (q 16), .ref (q 17)]] (fun r _ => r = nI 0) (fun _ => [co a 4 [.ref (q 0), .ref (q 1), .ref (q 2), .int (nI tp), .int (nI 1), .ref (q 3), .ref (q 4), .ref (q 5), .ref (q 6), .ref (q 7), .ref (q 8), .ref (q 9), .ref (q 10), .ref (q 11), .ref (q 12), .ref (q 13), .ref (q 14), .ref (q 15), .int (nI kd), .int (nI rt), .int (nI fl), .long (lN tt), .ref (q 16), .ref (q 17)]]) := by
  refine ctr_z (by decide) (Nat.le_of_ble_eq_true rfl) ?_
  intro M Q hl hR hin X kret
  subst hl
  refine g_lv [(0, .ref a), (1, .int x), (2, .int y)] rfl ?_
  refine g_aload_n (pc := 0) X (i := 0) d_O_same_0 rfl rfl ?_
  refine g_iload_n (pc := 1) X (i := 1) d_O_same_1 rfl rfl ?_
  refine g_iconst (pc := 2) X (v := nI 0) d_O_same_2 (by decide) ?_
  refine g_bipush (pc := 3) X (v := nI 7) d_O_same_3 (by decide) ?_
  refine g_callSi (pc := 5) X (c_O_in_f (m_l M) B x (nI 0) (nI 7) h1) wd_913 wd_914 wd_5 wd_915 hd_O_in [] rfl rfl [] (fun _ => rfl) rfl (by rw [hR]; decide) (by rw [hR]; decide) rfl (Nat.le_of_ble_eq_true rfl) d_O_same_5 (fun r9 _ hr9 => ?_)
  subst hr9
  refine g_wsq [co a 4 [.ref (q 0), .ref (q 1), .ref (q 2), .int (nI tp), .int cd, .ref (q 3), .ref (q 4), .ref (q 5), .ref (q 6), .ref (q 7), .ref (q 8), .ref (q 9), .ref (q 10), .ref (q 11), .ref (q 12), .ref (q 13), .ref (q 14), .ref (q 15), .int (nI kd), .int (nI rt), .int (nI fl), .long (lN tt), .ref (q 16), .ref (q 17)]] rfl ?_
  refine g_if_eqN (pc := 8) X (tgt := 25) d_O_same_8 (by decide) (by omega) (fun h_8 => ?_) (fun h_8 => absurd h_8 (by omega))
  refine g_iconst (pc := 25) X (v := nI 0) d_O_same_25 (by decide) ?_
  refine g_iconst (pc := 26) X (v := nI 1) d_O_same_26 (by decide) ?_
  refine g_callVi (pc := 27) (q0 := 0) X (c_O_good_f (m_l M) B a q tp kd rt fl tt cd (nI 1) ) wd_901 wd_903 wp_O_good wd_5 wd_904 hd_O_good [0] rfl rfl [a] (fun _ => rfl) rfl rfl rfl (by rw [hR]; decide) (by rw [hR]; decide) rfl (Nat.le_of_ble_eq_true rfl) d_O_same_27 (fun r9 _ hr9 => ?_)
  subst hr9
  refine g_wsq [co a 4 [.ref (q 0), .ref (q 1), .ref (q 2), .int (nI tp), .int (nI 1), .ref (q 3), .ref (q 4), .ref (q 5), .ref (q 6), .ref (q 7), .ref (q 8), .ref (q 9), .ref (q 10), .ref (q 11), .ref (q 12), .ref (q 13), .ref (q 14), .ref (q 15), .int (nI kd), .int (nI rt), .int (nI fl), .long (lN tt), .ref (q 16), .ref (q 17)]] rfl ?_
  refine g_if_neN (pc := 30) X (tgt := 35) d_O_same_30 (by decide) (by omega) (fun h_30 => absurd h_30 (by omega)) (fun h_30 => ?_)
  refine g_iconst (pc := 33) X (v := nI 0) d_O_same_33 (by decide) ?_
  exact kret _ () _ 34 ⟨by rfl, rfl⟩ d_O_same_34

theorem c_O_same_b2 (l : Launch) (B : Bx) (a : Nat) (q : Nat → Nat) (tp : Nat) (kd : Nat) (rt : Nat) (fl : Nat) (tt : Nat) (cd : Int32) (x : Int32) (y : Int32) (h1 : inR x (nI 0) (nI 7) = nI 1) (h2 : inR y (nI 0) (nI 7) = nI 0) : Ci (S := Unit) l B y_O_same b_O_same 5 .boolean (Rm 2 0 0) [.ref a, .int x, .int y] [co a 4 [.ref (q 0), .ref (q 1), .ref (q 2), .int (nI tp), .int cd, .ref (q 3), .ref (q 4), .ref (q 5), .ref (q 6), .ref (q 7), .ref (q 8), .ref (q 9), .ref (q 10), .ref (q 11), .ref (q 12), .ref (q 13), .ref (q 14), .ref (q 15), .int (nI kd), .int (nI rt), .int (nI fl), .long (lN tt), .ref (q 16), .ref (q 17)]] (fun r _ => r = nI 0) (fun _ => [co a 4 [.ref (q 0), .ref (q 1), .ref (q 2), .int (nI tp), .int (nI 1), .ref (q 3), .ref (q 4), .ref (q 5), .ref (q 6), .ref (q 7), .ref (q 8), .ref (q 9), .ref (q 10), .ref (q 11), .ref (q 12), .ref (q 13), .ref (q 14), .ref (q 15), .int (nI kd), .int (nI rt), .int (nI fl), .long (lN tt), .ref (q 16), .ref (q 17)]]) := by
  refine ctr_z (by decide) (Nat.le_of_ble_eq_true rfl) ?_
  intro M Q hl hR hin X kret
  subst hl
  refine g_lv [(0, .ref a), (1, .int x), (2, .int y)] rfl ?_
  refine g_aload_n (pc := 0) X (i := 0) d_O_same_0 rfl rfl ?_
  refine g_iload_n (pc := 1) X (i := 1) d_O_same_1 rfl rfl ?_
  refine g_iconst (pc := 2) X (v := nI 0) d_O_same_2 (by decide) ?_
  refine g_bipush (pc := 3) X (v := nI 7) d_O_same_3 (by decide) ?_
  refine g_callSi (pc := 5) X (c_O_in_t (m_l M) B x (nI 0) (nI 7) h1) wd_913 wd_914 wd_5 wd_915 hd_O_in [] rfl rfl [] (fun _ => rfl) rfl (by rw [hR]; decide) (by rw [hR]; decide) rfl (Nat.le_of_ble_eq_true rfl) d_O_same_5 (fun r9 _ hr9 => ?_)
  subst hr9
  refine g_wsq [co a 4 [.ref (q 0), .ref (q 1), .ref (q 2), .int (nI tp), .int cd, .ref (q 3), .ref (q 4), .ref (q 5), .ref (q 6), .ref (q 7), .ref (q 8), .ref (q 9), .ref (q 10), .ref (q 11), .ref (q 12), .ref (q 13), .ref (q 14), .ref (q 15), .int (nI kd), .int (nI rt), .int (nI fl), .long (lN tt), .ref (q 16), .ref (q 17)]] rfl ?_
  refine g_if_eqN (pc := 8) X (tgt := 25) d_O_same_8 (by decide) (by omega) (fun h_8 => absurd h_8 (by omega)) (fun h_8 => ?_)
  refine g_iload_n (pc := 11) X (i := 2) d_O_same_11 rfl rfl ?_
  refine g_iconst (pc := 12) X (v := nI 0) d_O_same_12 (by decide) ?_
  refine g_bipush (pc := 13) X (v := nI 7) d_O_same_13 (by decide) ?_
  refine g_callSi (pc := 15) X (c_O_in_f (m_l M) B y (nI 0) (nI 7) h2) wd_913 wd_914 wd_5 wd_915 hd_O_in [] rfl rfl [] (fun _ => rfl) rfl (by rw [hR]; decide) (by rw [hR]; decide) rfl (Nat.le_of_ble_eq_true rfl) d_O_same_15 (fun r9 _ hr9 => ?_)
  subst hr9
  refine g_wsq [co a 4 [.ref (q 0), .ref (q 1), .ref (q 2), .int (nI tp), .int cd, .ref (q 3), .ref (q 4), .ref (q 5), .ref (q 6), .ref (q 7), .ref (q 8), .ref (q 9), .ref (q 10), .ref (q 11), .ref (q 12), .ref (q 13), .ref (q 14), .ref (q 15), .int (nI kd), .int (nI rt), .int (nI fl), .long (lN tt), .ref (q 16), .ref (q 17)]] rfl ?_
  refine g_if_eqN (pc := 18) X (tgt := 25) d_O_same_18 (by decide) (by omega) (fun h_18 => ?_) (fun h_18 => absurd h_18 (by omega))
  refine g_iconst (pc := 25) X (v := nI 0) d_O_same_25 (by decide) ?_
  refine g_iconst (pc := 26) X (v := nI 1) d_O_same_26 (by decide) ?_
  refine g_callVi (pc := 27) (q0 := 0) X (c_O_good_f (m_l M) B a q tp kd rt fl tt cd (nI 1) ) wd_901 wd_903 wp_O_good wd_5 wd_904 hd_O_good [0] rfl rfl [a] (fun _ => rfl) rfl rfl rfl (by rw [hR]; decide) (by rw [hR]; decide) rfl (Nat.le_of_ble_eq_true rfl) d_O_same_27 (fun r9 _ hr9 => ?_)
  subst hr9
  refine g_wsq [co a 4 [.ref (q 0), .ref (q 1), .ref (q 2), .int (nI tp), .int (nI 1), .ref (q 3), .ref (q 4), .ref (q 5), .ref (q 6), .ref (q 7), .ref (q 8), .ref (q 9), .ref (q 10), .ref (q 11), .ref (q 12), .ref (q 13), .ref (q 14), .ref (q 15), .int (nI kd), .int (nI rt), .int (nI fl), .long (lN tt), .ref (q 16), .ref (q 17)]] rfl ?_
  refine g_if_neN (pc := 30) X (tgt := 35) d_O_same_30 (by decide) (by omega) (fun h_30 => absurd h_30 (by omega)) (fun h_30 => ?_)
  refine g_iconst (pc := 33) X (v := nI 0) d_O_same_33 (by decide) ?_
  exact kret _ () _ 34 ⟨by rfl, rfl⟩ d_O_same_34

theorem c_O_resize_ok (l : Launch) (B : Bx) (a : Nat) (q : Nat → Nat) (tp : Nat) (kd : Nat) (rt : Nat) (fl : Nat) (tt : Nat) (cd : Int32) (ln : Nat → Nat) (i : Nat) (n : Nat) (f : Nat → Int8) (h1 : i < 8) (h2 : n ≤ 8192) (h3 : ln i ≤ 8192) : Ci (S := Unit) l B y_O_resize b_O_resize 5 .int (Rm 2 0 0) [.ref a, .int (nI i), .int (nI n)] [co a 4 [.ref (q 0), .ref (q 1), .ref (q 2), .int (nI tp), .int cd, .ref (q 3), .ref (q 4), .ref (q 5), .ref (q 6), .ref (q 7), .ref (q 8), .ref (q 9), .ref (q 10), .ref (q 11), .ref (q 12), .ref (q 13), .ref (q 14), .ref (q 15), .int (nI kd), .int (nI rt), .int (nI fl), .long (lN tt), .ref (q 16), .ref (q 17)], cq B (q 1) 8 (fun z9 => some (q (20 + z9))), cb B (q (20 + i)) 8192 f, cn B (q 2) 8 (fun z9 => nI (ln z9))] (fun r _ => r = nI (ln i)) (fun _ => [co a 4 [.ref (q 0), .ref (q 1), .ref (q 2), .int (nI tp), .int (nI 0), .ref (q 3), .ref (q 4), .ref (q 5), .ref (q 6), .ref (q 7), .ref (q 8), .ref (q 9), .ref (q 10), .ref (q 11), .ref (q 12), .ref (q 13), .ref (q 14), .ref (q 15), .int (nI kd), .int (nI rt), .int (nI fl), .long (lN tt), .ref (q 16), .ref (q 17)], cq B (q 1) 8 (fun z9 => some (q (20 + z9))), cb B (q (20 + i)) 8192 (fil f (ln i) n (nI 0).toInt8), cn B (q 2) 8 (fun z9 => nI (va_up ln i n z9))]) := by
  refine ctr_i (by decide) (Nat.le_of_ble_eq_true rfl) ?_
  intro M Q hl hR hin X kret
  subst hl
  refine g_lv [(0, .ref a), (1, .int (nI i)), (2, .int (nI n))] rfl ?_
  refine g_aload_n (pc := 0) X (i := 0) d_O_resize_0 rfl rfl ?_
  refine g_iload_n (pc := 1) X (i := 1) d_O_resize_1 rfl rfl ?_
  refine g_iconst (pc := 2) X (v := nI 0) d_O_resize_2 (by decide) ?_
  refine g_bipush (pc := 3) X (v := nI 7) d_O_resize_3 (by decide) ?_
  refine g_callSi (pc := 5) X (c_O_in_t (m_l M) B (nI i) (nI 0) (nI 7) (inR_n (by omega) (by omega) (by omega))) wd_913 wd_914 wd_5 wd_915 hd_O_in [] rfl rfl [] (fun _ => rfl) rfl (by rw [hR]; decide) (by rw [hR]; decide) rfl (Nat.le_of_ble_eq_true rfl) d_O_resize_5 (fun r9 _ hr9 => ?_)
  subst hr9
  refine g_wsq [co a 4 [.ref (q 0), .ref (q 1), .ref (q 2), .int (nI tp), .int cd, .ref (q 3), .ref (q 4), .ref (q 5), .ref (q 6), .ref (q 7), .ref (q 8), .ref (q 9), .ref (q 10), .ref (q 11), .ref (q 12), .ref (q 13), .ref (q 14), .ref (q 15), .int (nI kd), .int (nI rt), .int (nI fl), .long (lN tt), .ref (q 16), .ref (q 17)], cq B (q 1) 8 (fun z9 => some (q (20 + z9))), cb B (q (20 + i)) 8192 f, cn B (q 2) 8 (fun z9 => nI (ln z9))] rfl ?_
  refine g_if_eqN (pc := 8) X (tgt := 26) d_O_resize_8 (by decide) (by omega) (fun h_8 => absurd h_8 (by omega)) (fun h_8 => ?_)
  refine g_iload_n (pc := 11) X (i := 2) d_O_resize_11 rfl rfl ?_
  refine g_iconst (pc := 12) X (v := nI 0) d_O_resize_12 (by decide) ?_
  refine g_sipush (pc := 13) X (v := nI 8192) d_O_resize_13 (by decide) ?_
  refine g_callSi (pc := 16) X (c_O_in_t (m_l M) B (nI n) (nI 0) (nI 8192) (inR_n (by omega) (by omega) (by omega))) wd_913 wd_914 wd_5 wd_915 hd_O_in [] rfl rfl [] (fun _ => rfl) rfl (by rw [hR]; decide) (by rw [hR]; decide) rfl (Nat.le_of_ble_eq_true rfl) d_O_resize_16 (fun r9 _ hr9 => ?_)
  subst hr9
  refine g_wsq [co a 4 [.ref (q 0), .ref (q 1), .ref (q 2), .int (nI tp), .int cd, .ref (q 3), .ref (q 4), .ref (q 5), .ref (q 6), .ref (q 7), .ref (q 8), .ref (q 9), .ref (q 10), .ref (q 11), .ref (q 12), .ref (q 13), .ref (q 14), .ref (q 15), .int (nI kd), .int (nI rt), .int (nI fl), .long (lN tt), .ref (q 16), .ref (q 17)], cq B (q 1) 8 (fun z9 => some (q (20 + z9))), cb B (q (20 + i)) 8192 f, cn B (q 2) 8 (fun z9 => nI (ln z9))] rfl ?_
  refine g_if_eqN (pc := 19) X (tgt := 26) d_O_resize_19 (by decide) (by omega) (fun h_19 => absurd h_19 (by omega)) (fun h_19 => ?_)
  refine g_iconst (pc := 22) X (v := nI 1) d_O_resize_22 (by decide) ?_
  refine g_goto (pc := 23) X (tgt := 27) d_O_resize_23 (by decide) ?_
  refine g_iconst (pc := 27) X (v := nI 1) d_O_resize_27 (by decide) ?_
  refine g_callVi (pc := 28) (q0 := 0) X (c_O_good_t (m_l M) B a q tp kd rt fl tt cd (nI 1) ) wd_901 wd_903 wp_O_good wd_5 wd_904 hd_O_good [0] rfl rfl [a] (fun _ => rfl) rfl rfl rfl (by rw [hR]; decide) (by rw [hR]; decide) rfl (Nat.le_of_ble_eq_true rfl) d_O_resize_28 (fun r9 _ hr9 => ?_)
  subst hr9
  refine g_wsq [co a 4 [.ref (q 0), .ref (q 1), .ref (q 2), .int (nI tp), .int (nI 0), .ref (q 3), .ref (q 4), .ref (q 5), .ref (q 6), .ref (q 7), .ref (q 8), .ref (q 9), .ref (q 10), .ref (q 11), .ref (q 12), .ref (q 13), .ref (q 14), .ref (q 15), .int (nI kd), .int (nI rt), .int (nI fl), .long (lN tt), .ref (q 16), .ref (q 17)], cq B (q 1) 8 (fun z9 => some (q (20 + z9))), cb B (q (20 + i)) 8192 f, cn B (q 2) 8 (fun z9 => nI (ln z9))] rfl ?_
  refine g_if_neN (pc := 31) X (tgt := 36) d_O_resize_31 (by decide) (by omega) (fun h_31 => ?_) (fun h_31 => absurd h_31 (by omega))
  refine g_aload_n (pc := 36) X (i := 0) d_O_resize_36 rfl rfl ?_
  refine g_get (pc := 37) X in_O 0 rfl rfl 2 (by decide) wd_821 rfl d_O_resize_37 ?_
  refine g_iload_n (pc := 40) X (i := 1) d_O_resize_40 rfl rfl ?_
  refine g_iald (pc := 41) X 3 rfl i rfl (by omega) (by omega) d_O_resize_41 ?_
  refine g_istore_n (pc := 42) X (i := 3) d_O_resize_42 rfl (by decide) ?_
  refine g_lv [(0, .ref a), (1, .int (nI i)), (2, .int (nI n)), (3, .int (nI (ln i)))] rfl ?_
  refine g_iload_n (pc := 43) X (i := 3) d_O_resize_43 rfl rfl ?_
  refine g_istore (pc := 44) X d_O_resize_44 (by decide) ?_
  refine g_lv [(0, .ref a), (1, .int (nI i)), (2, .int (nI n)), (3, .int (nI (ln i))), (4, .int (nI (ln i)))] rfl ?_
  refine g_lv [(0, .ref a), (1, .int (nI i)), (2, .int (nI n)), (3, .int (nI (ln i))), (4, .int (nI (ln i)))] rfl ?_
  refine g_wsq [co a 4 [.ref (q 0), .ref (q 1), .ref (q 2), .int (nI tp), .int (nI 0), .ref (q 3), .ref (q 4), .ref (q 5), .ref (q 6), .ref (q 7), .ref (q 8), .ref (q 9), .ref (q 10), .ref (q 11), .ref (q 12), .ref (q 13), .ref (q 14), .ref (q 15), .int (nI kd), .int (nI rt), .int (nI fl), .long (lN tt), .ref (q 16), .ref (q 17)], cq B (q 1) 8 (fun z9 => some (q (20 + z9))), cb B (q (20 + i)) 8192 (fil f (ln i) (ln i + 0) (nI 0).toInt8), cn B (q 2) 8 (fun z9 => nI (ln z9))] (by rw [Nat.add_zero, ← fil_0]) ?_
  refine loopK (fun k => G B M 5 0 0 Q [co a 4 [.ref (q 0), .ref (q 1), .ref (q 2), .int (nI tp), .int (nI 0), .ref (q 3), .ref (q 4), .ref (q 5), .ref (q 6), .ref (q 7), .ref (q 8), .ref (q 9), .ref (q 10), .ref (q 11), .ref (q 12), .ref (q 13), .ref (q 14), .ref (q 15), .int (nI kd), .int (nI rt), .int (nI fl), .long (lN tt), .ref (q 16), .ref (q 17)], cq B (q 1) 8 (fun z9 => some (q (20 + z9))), cb B (q (20 + i)) 8192 (fil f (ln i) (ln i + k) (nI 0).toInt8), cn B (q 2) 8 (fun z9 => nI (ln z9))] [(0, .ref a), (1, .int (nI i)), (2, .int (nI n)), (3, .int (nI (ln i))), (4, .int (nI (ln i + k)))] 46 []) (n - ln i) ?_ ?_
  · intro k hk46 kk46
    show G B M 5 0 0 Q [co a 4 [.ref (q 0), .ref (q 1), .ref (q 2), .int (nI tp), .int (nI 0), .ref (q 3), .ref (q 4), .ref (q 5), .ref (q 6), .ref (q 7), .ref (q 8), .ref (q 9), .ref (q 10), .ref (q 11), .ref (q 12), .ref (q 13), .ref (q 14), .ref (q 15), .int (nI kd), .int (nI rt), .int (nI fl), .long (lN tt), .ref (q 16), .ref (q 17)], cq B (q 1) 8 (fun z9 => some (q (20 + z9))), cb B (q (20 + i)) 8192 (fil f (ln i) (ln i + k) (nI 0).toInt8), cn B (q 2) 8 (fun z9 => nI (ln z9))] [(0, .ref a), (1, .int (nI i)), (2, .int (nI n)), (3, .int (nI (ln i))), (4, .int (nI (ln i + k)))] 46 []
    refine g_iload (pc := 46) X d_O_resize_46 rfl ?_
    refine g_iload_n (pc := 48) X (i := 2) d_O_resize_48 rfl rfl ?_
    refine g_icmp_geN (pc := 49) X (tgt := 68) d_O_resize_49 (by decide) (by omega) (by omega) (fun h_49 => absurd h_49 (by omega)) (fun h_49 => ?_)
    refine g_aload_n (pc := 52) X (i := 0) d_O_resize_52 rfl rfl ?_
    refine g_get (pc := 53) X in_O 0 rfl rfl 1 (by decide) wd_820 rfl d_O_resize_53 ?_
    refine g_iload_n (pc := 56) X (i := 1) d_O_resize_56 rfl rfl ?_
    refine g_qald (pc := 57) X 1 rfl i rfl (by omega) (by omega) (r := q (20 + i)) rfl d_O_resize_57 ?_
    refine g_iload (pc := 58) X d_O_resize_58 rfl ?_
    refine g_iconst (pc := 60) X (v := nI 0) d_O_resize_60 (by decide) ?_
    refine g_bast (pc := 61) X 2 rfl (ln i + k) rfl (by omega) (by omega) d_O_resize_61 ?_
    refine g_wsq [co a 4 [.ref (q 0), .ref (q 1), .ref (q 2), .int (nI tp), .int (nI 0), .ref (q 3), .ref (q 4), .ref (q 5), .ref (q 6), .ref (q 7), .ref (q 8), .ref (q 9), .ref (q 10), .ref (q 11), .ref (q 12), .ref (q 13), .ref (q 14), .ref (q 15), .int (nI kd), .int (nI rt), .int (nI fl), .long (lN tt), .ref (q 16), .ref (q 17)], cq B (q 1) 8 (fun z9 => some (q (20 + z9))), cb B (q (20 + i)) 8192 (va_up (fil f (ln i) (ln i + k) (nI 0).toInt8) (ln i + k) ((nI 0).toInt8)), cn B (q 2) 8 (fun z9 => nI (ln z9))] rfl ?_
    refine g_iincN (pc := 62) X (a := ln i + k) (ln i + k + 1) d_O_resize_62 rfl 1 rfl (by omega) (by decide) ?_
    refine g_lv [(0, .ref a), (1, .int (nI i)), (2, .int (nI n)), (3, .int (nI (ln i))), (4, .int (nI (ln i + k + 1)))] rfl ?_
    refine g_goto (pc := 65) X (tgt := 46) d_O_resize_65 (by decide) ?_
    refine g_lv [(0, .ref a), (1, .int (nI i)), (2, .int (nI n)), (3, .int (nI (ln i))), (4, .int (nI (ln i + k + 1)))] rfl ?_
    refine g_wsq [co a 4 [.ref (q 0), .ref (q 1), .ref (q 2), .int (nI tp), .int (nI 0), .ref (q 3), .ref (q 4), .ref (q 5), .ref (q 6), .ref (q 7), .ref (q 8), .ref (q 9), .ref (q 10), .ref (q 11), .ref (q 12), .ref (q 13), .ref (q 14), .ref (q 15), .int (nI kd), .int (nI rt), .int (nI fl), .long (lN tt), .ref (q 16), .ref (q 17)], cq B (q 1) 8 (fun z9 => some (q (20 + z9))), cb B (q (20 + i)) 8192 (fil f (ln i) (ln i + (k + 1)) (nI 0).toInt8), cn B (q 2) 8 (fun z9 => nI (ln z9))] (by rw [fil_s _ (by omega)]; rfl) ?_
    exact kk46
  · show G B M 5 0 0 Q [co a 4 [.ref (q 0), .ref (q 1), .ref (q 2), .int (nI tp), .int (nI 0), .ref (q 3), .ref (q 4), .ref (q 5), .ref (q 6), .ref (q 7), .ref (q 8), .ref (q 9), .ref (q 10), .ref (q 11), .ref (q 12), .ref (q 13), .ref (q 14), .ref (q 15), .int (nI kd), .int (nI rt), .int (nI fl), .long (lN tt), .ref (q 16), .ref (q 17)], cq B (q 1) 8 (fun z9 => some (q (20 + z9))), cb B (q (20 + i)) 8192 (fil f (ln i) (ln i + (n - ln i)) (nI 0).toInt8), cn B (q 2) 8 (fun z9 => nI (ln z9))] [(0, .ref a), (1, .int (nI i)), (2, .int (nI n)), (3, .int (nI (ln i))), (4, .int (nI (ln i + (n - ln i))))] 46 []
    refine g_iload (pc := 46) X d_O_resize_46 rfl ?_
    refine g_iload_n (pc := 48) X (i := 2) d_O_resize_48 rfl rfl ?_
    refine g_icmp_geN (pc := 49) X (tgt := 68) d_O_resize_49 (by decide) (by omega) (by omega) (fun h_49 => ?_) (fun h_49 => absurd h_49 (by omega))
    refine g_aload_n (pc := 68) X (i := 0) d_O_resize_68 rfl rfl ?_
    refine g_get (pc := 69) X in_O 0 rfl rfl 2 (by decide) wd_821 rfl d_O_resize_69 ?_
    refine g_iload_n (pc := 72) X (i := 1) d_O_resize_72 rfl rfl ?_
    refine g_iload_n (pc := 73) X (i := 2) d_O_resize_73 rfl rfl ?_
    refine g_iast (pc := 74) X 3 rfl i rfl (by omega) (by omega) d_O_resize_74 ?_
    refine g_wsq [co a 4 [.ref (q 0), .ref (q 1), .ref (q 2), .int (nI tp), .int (nI 0), .ref (q 3), .ref (q 4), .ref (q 5), .ref (q 6), .ref (q 7), .ref (q 8), .ref (q 9), .ref (q 10), .ref (q 11), .ref (q 12), .ref (q 13), .ref (q 14), .ref (q 15), .int (nI kd), .int (nI rt), .int (nI fl), .long (lN tt), .ref (q 16), .ref (q 17)], cq B (q 1) 8 (fun z9 => some (q (20 + z9))), cb B (q (20 + i)) 8192 (fil f (ln i) (ln i + (n - ln i)) (nI 0).toInt8), cn B (q 2) 8 (va_up (fun z9 => nI (ln z9)) i (nI n))] rfl ?_
    refine g_iload_n (pc := 75) X (i := 3) d_O_resize_75 rfl rfl ?_
    refine g_wsq [co a 4 [.ref (q 0), .ref (q 1), .ref (q 2), .int (nI tp), .int (nI 0), .ref (q 3), .ref (q 4), .ref (q 5), .ref (q 6), .ref (q 7), .ref (q 8), .ref (q 9), .ref (q 10), .ref (q 11), .ref (q 12), .ref (q 13), .ref (q 14), .ref (q 15), .int (nI kd), .int (nI rt), .int (nI fl), .long (lN tt), .ref (q 16), .ref (q 17)], cq B (q 1) 8 (fun z9 => some (q (20 + z9))), cb B (q (20 + i)) 8192 (fil f (ln i) n (nI 0).toInt8), cn B (q 2) 8 (fun z9 => nI (va_up ln i n z9))] (by rw [nI_up, fil_to]) ?_
    exact kret _ () _ 76 rfl d_O_resize_76

theorem c_O_resize_b1 (l : Launch) (B : Bx) (a : Nat) (q : Nat → Nat) (tp : Nat) (kd : Nat) (rt : Nat) (fl : Nat) (tt : Nat) (cd : Int32) (x : Int32) (y : Int32) (h1 : inR x (nI 0) (nI 7) = nI 0) : Ci (S := Unit) l B y_O_resize b_O_resize 5 .int (Rm 2 0 0) [.ref a, .int x, .int y] [co a 4 [.ref (q 0), .ref (q 1), .ref (q 2), .int (nI tp), .int cd, .ref (q 3), .ref (q 4), .ref (q 5), .ref (q 6), .ref (q 7), .ref (q 8), .ref (q 9), .ref (q 10), .ref (q 11), .ref (q 12), .ref (q 13), .ref (q 14), .ref (q 15), .int (nI kd), .int (nI rt), .int (nI fl), .long (lN tt), .ref (q 16), .ref (q 17)]] (fun r _ => r = nI 0) (fun _ => [co a 4 [.ref (q 0), .ref (q 1), .ref (q 2), .int (nI tp), .int (nI 1), .ref (q 3), .ref (q 4), .ref (q 5), .ref (q 6), .ref (q 7), .ref (q 8), .ref (q 9), .ref (q 10), .ref (q 11), .ref (q 12), .ref (q 13), .ref (q 14), .ref (q 15), .int (nI kd), .int (nI rt), .int (nI fl), .long (lN tt), .ref (q 16), .ref (q 17)]]) := by
  refine ctr_i (by decide) (Nat.le_of_ble_eq_true rfl) ?_
  intro M Q hl hR hin X kret
  subst hl
  refine g_lv [(0, .ref a), (1, .int x), (2, .int y)] rfl ?_
  refine g_aload_n (pc := 0) X (i := 0) d_O_resize_0 rfl rfl ?_
  refine g_iload_n (pc := 1) X (i := 1) d_O_resize_1 rfl rfl ?_
  refine g_iconst (pc := 2) X (v := nI 0) d_O_resize_2 (by decide) ?_
  refine g_bipush (pc := 3) X (v := nI 7) d_O_resize_3 (by decide) ?_
  refine g_callSi (pc := 5) X (c_O_in_f (m_l M) B x (nI 0) (nI 7) h1) wd_913 wd_914 wd_5 wd_915 hd_O_in [] rfl rfl [] (fun _ => rfl) rfl (by rw [hR]; decide) (by rw [hR]; decide) rfl (Nat.le_of_ble_eq_true rfl) d_O_resize_5 (fun r9 _ hr9 => ?_)
  subst hr9
  refine g_wsq [co a 4 [.ref (q 0), .ref (q 1), .ref (q 2), .int (nI tp), .int cd, .ref (q 3), .ref (q 4), .ref (q 5), .ref (q 6), .ref (q 7), .ref (q 8), .ref (q 9), .ref (q 10), .ref (q 11), .ref (q 12), .ref (q 13), .ref (q 14), .ref (q 15), .int (nI kd), .int (nI rt), .int (nI fl), .long (lN tt), .ref (q 16), .ref (q 17)]] rfl ?_
  refine g_if_eqN (pc := 8) X (tgt := 26) d_O_resize_8 (by decide) (by omega) (fun h_8 => ?_) (fun h_8 => absurd h_8 (by omega))
  refine g_iconst (pc := 26) X (v := nI 0) d_O_resize_26 (by decide) ?_
  refine g_iconst (pc := 27) X (v := nI 1) d_O_resize_27 (by decide) ?_
  refine g_callVi (pc := 28) (q0 := 0) X (c_O_good_f (m_l M) B a q tp kd rt fl tt cd (nI 1) ) wd_901 wd_903 wp_O_good wd_5 wd_904 hd_O_good [0] rfl rfl [a] (fun _ => rfl) rfl rfl rfl (by rw [hR]; decide) (by rw [hR]; decide) rfl (Nat.le_of_ble_eq_true rfl) d_O_resize_28 (fun r9 _ hr9 => ?_)
  subst hr9
  refine g_wsq [co a 4 [.ref (q 0), .ref (q 1), .ref (q 2), .int (nI tp), .int (nI 1), .ref (q 3), .ref (q 4), .ref (q 5), .ref (q 6), .ref (q 7), .ref (q 8), .ref (q 9), .ref (q 10), .ref (q 11), .ref (q 12), .ref (q 13), .ref (q 14), .ref (q 15), .int (nI kd), .int (nI rt), .int (nI fl), .long (lN tt), .ref (q 16), .ref (q 17)]] rfl ?_
  refine g_if_neN (pc := 31) X (tgt := 36) d_O_resize_31 (by decide) (by omega) (fun h_31 => absurd h_31 (by omega)) (fun h_31 => ?_)
  refine g_iconst (pc := 34) X (v := nI 0) d_O_resize_34 (by decide) ?_
  exact kret _ () _ 35 rfl d_O_resize_35

theorem c_O_resize_b2 (l : Launch) (B : Bx) (a : Nat) (q : Nat → Nat) (tp : Nat) (kd : Nat) (rt : Nat) (fl : Nat) (tt : Nat) (cd : Int32) (x : Int32) (y : Int32) (h1 : inR x (nI 0) (nI 7) = nI 1) (h2 : inR y (nI 0) (nI 8192) = nI 0) : Ci (S := Unit) l B y_O_resize b_O_resize 5 .int (Rm 2 0 0) [.ref a, .int x, .int y] [co a 4 [.ref (q 0), .ref (q 1), .ref (q 2), .int (nI tp), .int cd, .ref (q 3), .ref (q 4), .ref (q 5), .ref (q 6), .ref (q 7), .ref (q 8), .ref (q 9), .ref (q 10), .ref (q 11), .ref (q 12), .ref (q 13), .ref (q 14), .ref (q 15), .int (nI kd), .int (nI rt), .int (nI fl), .long (lN tt), .ref (q 16), .ref (q 17)]] (fun r _ => r = nI 0) (fun _ => [co a 4 [.ref (q 0), .ref (q 1), .ref (q 2), .int (nI tp), .int (nI 1), .ref (q 3), .ref (q 4), .ref (q 5), .ref (q 6), .ref (q 7), .ref (q 8), .ref (q 9), .ref (q 10), .ref (q 11), .ref (q 12), .ref (q 13), .ref (q 14), .ref (q 15), .int (nI kd), .int (nI rt), .int (nI fl), .long (lN tt), .ref (q 16), .ref (q 17)]]) := by
  refine ctr_i (by decide) (Nat.le_of_ble_eq_true rfl) ?_
  intro M Q hl hR hin X kret
  subst hl
  refine g_lv [(0, .ref a), (1, .int x), (2, .int y)] rfl ?_
  refine g_aload_n (pc := 0) X (i := 0) d_O_resize_0 rfl rfl ?_
  refine g_iload_n (pc := 1) X (i := 1) d_O_resize_1 rfl rfl ?_
  refine g_iconst (pc := 2) X (v := nI 0) d_O_resize_2 (by decide) ?_
  refine g_bipush (pc := 3) X (v := nI 7) d_O_resize_3 (by decide) ?_
  refine g_callSi (pc := 5) X (c_O_in_t (m_l M) B x (nI 0) (nI 7) h1) wd_913 wd_914 wd_5 wd_915 hd_O_in [] rfl rfl [] (fun _ => rfl) rfl (by rw [hR]; decide) (by rw [hR]; decide) rfl (Nat.le_of_ble_eq_true rfl) d_O_resize_5 (fun r9 _ hr9 => ?_)
  subst hr9
  refine g_wsq [co a 4 [.ref (q 0), .ref (q 1), .ref (q 2), .int (nI tp), .int cd, .ref (q 3), .ref (q 4), .ref (q 5), .ref (q 6), .ref (q 7), .ref (q 8), .ref (q 9), .ref (q 10), .ref (q 11), .ref (q 12), .ref (q 13), .ref (q 14), .ref (q 15), .int (nI kd), .int (nI rt), .int (nI fl), .long (lN tt), .ref (q 16), .ref (q 17)]] rfl ?_
  refine g_if_eqN (pc := 8) X (tgt := 26) d_O_resize_8 (by decide) (by omega) (fun h_8 => absurd h_8 (by omega)) (fun h_8 => ?_)
  refine g_iload_n (pc := 11) X (i := 2) d_O_resize_11 rfl rfl ?_
  refine g_iconst (pc := 12) X (v := nI 0) d_O_resize_12 (by decide) ?_
  refine g_sipush (pc := 13) X (v := nI 8192) d_O_resize_13 (by decide) ?_
  refine g_callSi (pc := 16) X (c_O_in_f (m_l M) B y (nI 0) (nI 8192) h2) wd_913 wd_914 wd_5 wd_915 hd_O_in [] rfl rfl [] (fun _ => rfl) rfl (by rw [hR]; decide) (by rw [hR]; decide) rfl (Nat.le_of_ble_eq_true rfl) d_O_resize_16 (fun r9 _ hr9 => ?_)
  subst hr9
  refine g_wsq [co a 4 [.ref (q 0), .ref (q 1), .ref (q 2), .int (nI tp), .int cd, .ref (q 3), .ref (q 4), .ref (q 5), .ref (q 6), .ref (q 7), .ref (q 8), .ref (q 9), .ref (q 10), .ref (q 11), .ref (q 12), .ref (q 13), .ref (q 14), .ref (q 15), .int (nI kd), .int (nI rt), .int (nI fl), .long (lN tt), .ref (q 16), .ref (q 17)]] rfl ?_
  refine g_if_eqN (pc := 19) X (tgt := 26) d_O_resize_19 (by decide) (by omega) (fun h_19 => ?_) (fun h_19 => absurd h_19 (by omega))
  refine g_iconst (pc := 26) X (v := nI 0) d_O_resize_26 (by decide) ?_
  refine g_iconst (pc := 27) X (v := nI 1) d_O_resize_27 (by decide) ?_
  refine g_callVi (pc := 28) (q0 := 0) X (c_O_good_f (m_l M) B a q tp kd rt fl tt cd (nI 1) ) wd_901 wd_903 wp_O_good wd_5 wd_904 hd_O_good [0] rfl rfl [a] (fun _ => rfl) rfl rfl rfl (by rw [hR]; decide) (by rw [hR]; decide) rfl (Nat.le_of_ble_eq_true rfl) d_O_resize_28 (fun r9 _ hr9 => ?_)
  subst hr9
  refine g_wsq [co a 4 [.ref (q 0), .ref (q 1), .ref (q 2), .int (nI tp), .int (nI 1), .ref (q 3), .ref (q 4), .ref (q 5), .ref (q 6), .ref (q 7), .ref (q 8), .ref (q 9), .ref (q 10), .ref (q 11), .ref (q 12), .ref (q 13), .ref (q 14), .ref (q 15), .int (nI kd), .int (nI rt), .int (nI fl), .long (lN tt), .ref (q 16), .ref (q 17)]] rfl ?_
  refine g_if_neN (pc := 31) X (tgt := 36) d_O_resize_31 (by decide) (by omega) (fun h_31 => absurd h_31 (by omega)) (fun h_31 => ?_)
  refine g_iconst (pc := 34) X (v := nI 0) d_O_resize_34 (by decide) ?_
  exact kret _ () _ 35 rfl d_O_resize_35

theorem c_O_length_ok (l : Launch) (B : Bx) (a : Nat) (q : Nat → Nat) (tp : Nat) (kd : Nat) (rt : Nat) (fl : Nat) (tt : Nat) (cd : Int32) (ln : Nat → Nat) (i : Nat) (h1 : i < 8) : Ci (S := Unit) l B y_O_length b_O_length 2 .int (Rm 2 0 0) [.ref a, .int (nI i)] [co a 4 [.ref (q 0), .ref (q 1), .ref (q 2), .int (nI tp), .int cd, .ref (q 3), .ref (q 4), .ref (q 5), .ref (q 6), .ref (q 7), .ref (q 8), .ref (q 9), .ref (q 10), .ref (q 11), .ref (q 12), .ref (q 13), .ref (q 14), .ref (q 15), .int (nI kd), .int (nI rt), .int (nI fl), .long (lN tt), .ref (q 16), .ref (q 17)], cn B (q 2) 8 (fun z9 => nI (ln z9))] (fun r _ => r = nI (ln i)) (fun _ => [co a 4 [.ref (q 0), .ref (q 1), .ref (q 2), .int (nI tp), .int (nI 0), .ref (q 3), .ref (q 4), .ref (q 5), .ref (q 6), .ref (q 7), .ref (q 8), .ref (q 9), .ref (q 10), .ref (q 11), .ref (q 12), .ref (q 13), .ref (q 14), .ref (q 15), .int (nI kd), .int (nI rt), .int (nI fl), .long (lN tt), .ref (q 16), .ref (q 17)], cn B (q 2) 8 (fun z9 => nI (ln z9))]) := by
  refine ctr_i (by decide) (Nat.le_of_ble_eq_true rfl) ?_
  intro M Q hl hR hin X kret
  subst hl
  refine g_lv [(0, .ref a), (1, .int (nI i))] rfl ?_
  refine g_aload_n (pc := 0) X (i := 0) d_O_length_0 rfl rfl ?_
  refine g_iload_n (pc := 1) X (i := 1) d_O_length_1 rfl rfl ?_
  refine g_iconst (pc := 2) X (v := nI 0) d_O_length_2 (by decide) ?_
  refine g_bipush (pc := 3) X (v := nI 7) d_O_length_3 (by decide) ?_
  refine g_callSi (pc := 5) X (c_O_in_t (m_l M) B (nI i) (nI 0) (nI 7) (inR_n (by omega) (by omega) (by omega))) wd_913 wd_914 wd_5 wd_915 hd_O_in [] rfl rfl [] (fun _ => rfl) rfl (by rw [hR]; decide) (by rw [hR]; decide) rfl (Nat.le_of_ble_eq_true rfl) d_O_length_5 (fun r9 _ hr9 => ?_)
  subst hr9
  refine g_wsq [co a 4 [.ref (q 0), .ref (q 1), .ref (q 2), .int (nI tp), .int cd, .ref (q 3), .ref (q 4), .ref (q 5), .ref (q 6), .ref (q 7), .ref (q 8), .ref (q 9), .ref (q 10), .ref (q 11), .ref (q 12), .ref (q 13), .ref (q 14), .ref (q 15), .int (nI kd), .int (nI rt), .int (nI fl), .long (lN tt), .ref (q 16), .ref (q 17)], cn B (q 2) 8 (fun z9 => nI (ln z9))] rfl ?_
  refine g_iconst (pc := 8) X (v := nI 1) d_O_length_8 (by decide) ?_
  refine g_callVi (pc := 9) (q0 := 0) X (c_O_good_t (m_l M) B a q tp kd rt fl tt cd (nI 1) ) wd_901 wd_903 wp_O_good wd_5 wd_904 hd_O_good [0] rfl rfl [a] (fun _ => rfl) rfl rfl rfl (by rw [hR]; decide) (by rw [hR]; decide) rfl (Nat.le_of_ble_eq_true rfl) d_O_length_9 (fun r9 _ hr9 => ?_)
  subst hr9
  refine g_wsq [co a 4 [.ref (q 0), .ref (q 1), .ref (q 2), .int (nI tp), .int (nI 0), .ref (q 3), .ref (q 4), .ref (q 5), .ref (q 6), .ref (q 7), .ref (q 8), .ref (q 9), .ref (q 10), .ref (q 11), .ref (q 12), .ref (q 13), .ref (q 14), .ref (q 15), .int (nI kd), .int (nI rt), .int (nI fl), .long (lN tt), .ref (q 16), .ref (q 17)], cn B (q 2) 8 (fun z9 => nI (ln z9))] rfl ?_
  refine g_if_neN (pc := 12) X (tgt := 17) d_O_length_12 (by decide) (by omega) (fun h_12 => ?_) (fun h_12 => absurd h_12 (by omega))
  refine g_aload_n (pc := 17) X (i := 0) d_O_length_17 rfl rfl ?_
  refine g_get (pc := 18) X in_O 0 rfl rfl 2 (by decide) wd_821 rfl d_O_length_18 ?_
  refine g_iload_n (pc := 21) X (i := 1) d_O_length_21 rfl rfl ?_
  refine g_iald (pc := 22) X 1 rfl i rfl (by omega) (by omega) d_O_length_22 ?_
  exact kret _ () _ 23 rfl d_O_length_23

theorem c_O_length_b1 (l : Launch) (B : Bx) (a : Nat) (q : Nat → Nat) (tp : Nat) (kd : Nat) (rt : Nat) (fl : Nat) (tt : Nat) (cd : Int32) (x : Int32) (h1 : inR x (nI 0) (nI 7) = nI 0) : Ci (S := Unit) l B y_O_length b_O_length 2 .int (Rm 2 0 0) [.ref a, .int x] [co a 4 [.ref (q 0), .ref (q 1), .ref (q 2), .int (nI tp), .int cd, .ref (q 3), .ref (q 4), .ref (q 5), .ref (q 6), .ref (q 7), .ref (q 8), .ref (q 9), .ref (q 10), .ref (q 11), .ref (q 12), .ref (q 13), .ref (q 14), .ref (q 15), .int (nI kd), .int (nI rt), .int (nI fl), .long (lN tt), .ref (q 16), .ref (q 17)]] (fun r _ => r = nI 0) (fun _ => [co a 4 [.ref (q 0), .ref (q 1), .ref (q 2), .int (nI tp), .int (nI 1), .ref (q 3), .ref (q 4), .ref (q 5), .ref (q 6), .ref (q 7), .ref (q 8), .ref (q 9), .ref (q 10), .ref (q 11), .ref (q 12), .ref (q 13), .ref (q 14), .ref (q 15), .int (nI kd), .int (nI rt), .int (nI fl), .long (lN tt), .ref (q 16), .ref (q 17)]]) := by
  refine ctr_i (by decide) (Nat.le_of_ble_eq_true rfl) ?_
  intro M Q hl hR hin X kret
  subst hl
  refine g_lv [(0, .ref a), (1, .int x)] rfl ?_
  refine g_aload_n (pc := 0) X (i := 0) d_O_length_0 rfl rfl ?_
  refine g_iload_n (pc := 1) X (i := 1) d_O_length_1 rfl rfl ?_
  refine g_iconst (pc := 2) X (v := nI 0) d_O_length_2 (by decide) ?_
  refine g_bipush (pc := 3) X (v := nI 7) d_O_length_3 (by decide) ?_
  refine g_callSi (pc := 5) X (c_O_in_f (m_l M) B x (nI 0) (nI 7) h1) wd_913 wd_914 wd_5 wd_915 hd_O_in [] rfl rfl [] (fun _ => rfl) rfl (by rw [hR]; decide) (by rw [hR]; decide) rfl (Nat.le_of_ble_eq_true rfl) d_O_length_5 (fun r9 _ hr9 => ?_)
  subst hr9
  refine g_wsq [co a 4 [.ref (q 0), .ref (q 1), .ref (q 2), .int (nI tp), .int cd, .ref (q 3), .ref (q 4), .ref (q 5), .ref (q 6), .ref (q 7), .ref (q 8), .ref (q 9), .ref (q 10), .ref (q 11), .ref (q 12), .ref (q 13), .ref (q 14), .ref (q 15), .int (nI kd), .int (nI rt), .int (nI fl), .long (lN tt), .ref (q 16), .ref (q 17)]] rfl ?_
  refine g_iconst (pc := 8) X (v := nI 1) d_O_length_8 (by decide) ?_
  refine g_callVi (pc := 9) (q0 := 0) X (c_O_good_f (m_l M) B a q tp kd rt fl tt cd (nI 1) ) wd_901 wd_903 wp_O_good wd_5 wd_904 hd_O_good [0] rfl rfl [a] (fun _ => rfl) rfl rfl rfl (by rw [hR]; decide) (by rw [hR]; decide) rfl (Nat.le_of_ble_eq_true rfl) d_O_length_9 (fun r9 _ hr9 => ?_)
  subst hr9
  refine g_wsq [co a 4 [.ref (q 0), .ref (q 1), .ref (q 2), .int (nI tp), .int (nI 1), .ref (q 3), .ref (q 4), .ref (q 5), .ref (q 6), .ref (q 7), .ref (q 8), .ref (q 9), .ref (q 10), .ref (q 11), .ref (q 12), .ref (q 13), .ref (q 14), .ref (q 15), .int (nI kd), .int (nI rt), .int (nI fl), .long (lN tt), .ref (q 16), .ref (q 17)]] rfl ?_
  refine g_if_neN (pc := 12) X (tgt := 17) d_O_length_12 (by decide) (by omega) (fun h_12 => absurd h_12 (by omega)) (fun h_12 => ?_)
  refine g_iconst (pc := 15) X (v := nI 0) d_O_length_15 (by decide) ?_
  exact kret _ () _ 16 rfl d_O_length_16

theorem c_O_word2_ok (l : Launch) (B : Bx) (a : Nat) (q : Nat → Nat) (tp : Nat) (kd : Nat) (rt : Nat) (fl : Nat) (tt : Nat) (cd : Int32) (ln : Nat → Nat) (i : Nat) (p : Nat) (f : Nat → Int8) (h1 : i < 8) (h2 : p < ln i) (h3 : ln i ≤ 8192) : Cl (S := Unit) l B y_O_word2 b_O_word2 6 (Rm 2 0 0) [.ref a, .int (nI i), .int (nI p)] [co a 4 [.ref (q 0), .ref (q 1), .ref (q 2), .int (nI tp), .int cd, .ref (q 3), .ref (q 4), .ref (q 5), .ref (q 6), .ref (q 7), .ref (q 8), .ref (q 9), .ref (q 10), .ref (q 11), .ref (q 12), .ref (q 13), .ref (q 14), .ref (q 15), .int (nI kd), .int (nI rt), .int (nI fl), .long (lN tt), .ref (q 16), .ref (q 17)], cq B (q 1) 8 (fun z9 => some (q (20 + z9))), cb B (q (20 + i)) 8192 f, cn B (q 2) 8 (fun z9 => nI (ln z9))] (fun r _ => r = it (wdR f (ln i) p) 8 0) (fun _ => [co a 4 [.ref (q 0), .ref (q 1), .ref (q 2), .int (nI tp), .int (nI 0), .ref (q 3), .ref (q 4), .ref (q 5), .ref (q 6), .ref (q 7), .ref (q 8), .ref (q 9), .ref (q 10), .ref (q 11), .ref (q 12), .ref (q 13), .ref (q 14), .ref (q 15), .int (nI kd), .int (nI rt), .int (nI fl), .long (lN tt), .ref (q 16), .ref (q 17)], cq B (q 1) 8 (fun z9 => some (q (20 + z9))), cb B (q (20 + i)) 8192 f, cn B (q 2) 8 (fun z9 => nI (ln z9))]) := by
  refine ctr_l (by decide) (Nat.le_of_ble_eq_true rfl) ?_
  intro M Q hl hR hin X kret
  subst hl
  refine g_lv [(0, .ref a), (1, .int (nI i)), (2, .int (nI p))] rfl ?_
  refine g_aload_n (pc := 0) X (i := 0) d_O_word2_0 rfl rfl ?_
  refine g_iload_n (pc := 1) X (i := 1) d_O_word2_1 rfl rfl ?_
  refine g_iconst (pc := 2) X (v := nI 0) d_O_word2_2 (by decide) ?_
  refine g_bipush (pc := 3) X (v := nI 7) d_O_word2_3 (by decide) ?_
  refine g_callSi (pc := 5) X (c_O_in_t (m_l M) B (nI i) (nI 0) (nI 7) (inR_n (by omega) (by omega) (by omega))) wd_913 wd_914 wd_5 wd_915 hd_O_in [] rfl rfl [] (fun _ => rfl) rfl (by rw [hR]; decide) (by rw [hR]; decide) rfl (Nat.le_of_ble_eq_true rfl) d_O_word2_5 (fun r9 _ hr9 => ?_)
  subst hr9
  refine g_wsq [co a 4 [.ref (q 0), .ref (q 1), .ref (q 2), .int (nI tp), .int cd, .ref (q 3), .ref (q 4), .ref (q 5), .ref (q 6), .ref (q 7), .ref (q 8), .ref (q 9), .ref (q 10), .ref (q 11), .ref (q 12), .ref (q 13), .ref (q 14), .ref (q 15), .int (nI kd), .int (nI rt), .int (nI fl), .long (lN tt), .ref (q 16), .ref (q 17)], cq B (q 1) 8 (fun z9 => some (q (20 + z9))), cb B (q (20 + i)) 8192 f, cn B (q 2) 8 (fun z9 => nI (ln z9))] rfl ?_
  refine g_iconst (pc := 8) X (v := nI 1) d_O_word2_8 (by decide) ?_
  refine g_callVi (pc := 9) (q0 := 0) X (c_O_good_t (m_l M) B a q tp kd rt fl tt cd (nI 1) ) wd_901 wd_903 wp_O_good wd_5 wd_904 hd_O_good [0] rfl rfl [a] (fun _ => rfl) rfl rfl rfl (by rw [hR]; decide) (by rw [hR]; decide) rfl (Nat.le_of_ble_eq_true rfl) d_O_word2_9 (fun r9 _ hr9 => ?_)
  subst hr9
  refine g_wsq [co a 4 [.ref (q 0), .ref (q 1), .ref (q 2), .int (nI tp), .int (nI 0), .ref (q 3), .ref (q 4), .ref (q 5), .ref (q 6), .ref (q 7), .ref (q 8), .ref (q 9), .ref (q 10), .ref (q 11), .ref (q 12), .ref (q 13), .ref (q 14), .ref (q 15), .int (nI kd), .int (nI rt), .int (nI fl), .long (lN tt), .ref (q 16), .ref (q 17)], cq B (q 1) 8 (fun z9 => some (q (20 + z9))), cb B (q (20 + i)) 8192 f, cn B (q 2) 8 (fun z9 => nI (ln z9))] rfl ?_
  refine g_if_eqN (pc := 12) X (tgt := 36) d_O_word2_12 (by decide) (by omega) (fun h_12 => absurd h_12 (by omega)) (fun h_12 => ?_)
  refine g_aload_n (pc := 15) X (i := 0) d_O_word2_15 rfl rfl ?_
  refine g_iload_n (pc := 16) X (i := 2) d_O_word2_16 rfl rfl ?_
  refine g_iconst (pc := 17) X (v := nI 0) d_O_word2_17 (by decide) ?_
  refine g_aload_n (pc := 18) X (i := 0) d_O_word2_18 rfl rfl ?_
  refine g_get (pc := 19) X in_O 0 rfl rfl 2 (by decide) wd_821 rfl d_O_word2_19 ?_
  refine g_iload_n (pc := 22) X (i := 1) d_O_word2_22 rfl rfl ?_
  refine g_iald (pc := 23) X 3 rfl i rfl (by omega) (by omega) d_O_word2_23 ?_
  refine g_iconst (pc := 24) X (v := nI 1) d_O_word2_24 (by decide) ?_
  refine g_isubN (pc := 25) X (ln i - 1) (by omega) d_O_word2_25 ?_
  refine g_callSi (pc := 26) X (c_O_in_t (m_l M) B (nI p) (nI 0) (nI (ln i - 1)) (inR_n (by omega) (by omega) (by omega))) wd_913 wd_914 wd_5 wd_915 hd_O_in [] rfl rfl [] (fun _ => rfl) rfl (by rw [hR]; decide) (by rw [hR]; decide) rfl (Nat.le_of_ble_eq_true rfl) d_O_word2_26 (fun r9 _ hr9 => ?_)
  subst hr9
  refine g_wsq [co a 4 [.ref (q 0), .ref (q 1), .ref (q 2), .int (nI tp), .int (nI 0), .ref (q 3), .ref (q 4), .ref (q 5), .ref (q 6), .ref (q 7), .ref (q 8), .ref (q 9), .ref (q 10), .ref (q 11), .ref (q 12), .ref (q 13), .ref (q 14), .ref (q 15), .int (nI kd), .int (nI rt), .int (nI fl), .long (lN tt), .ref (q 16), .ref (q 17)], cq B (q 1) 8 (fun z9 => some (q (20 + z9))), cb B (q (20 + i)) 8192 f, cn B (q 2) 8 (fun z9 => nI (ln z9))] rfl ?_
  refine g_iconst (pc := 29) X (v := nI 2) d_O_word2_29 (by decide) ?_
  refine g_callVi (pc := 30) (q0 := 0) X (c_O_good_t (m_l M) B a q tp kd rt fl tt (nI 0) (nI 2) ) wd_901 wd_903 wp_O_good wd_5 wd_904 hd_O_good [0] rfl rfl [a] (fun _ => rfl) rfl rfl rfl (by rw [hR]; decide) (by rw [hR]; decide) rfl (Nat.le_of_ble_eq_true rfl) d_O_word2_30 (fun r9 _ hr9 => ?_)
  subst hr9
  refine g_wsq [co a 4 [.ref (q 0), .ref (q 1), .ref (q 2), .int (nI tp), .int (nI 0), .ref (q 3), .ref (q 4), .ref (q 5), .ref (q 6), .ref (q 7), .ref (q 8), .ref (q 9), .ref (q 10), .ref (q 11), .ref (q 12), .ref (q 13), .ref (q 14), .ref (q 15), .int (nI kd), .int (nI rt), .int (nI fl), .long (lN tt), .ref (q 16), .ref (q 17)], cq B (q 1) 8 (fun z9 => some (q (20 + z9))), cb B (q (20 + i)) 8192 f, cn B (q 2) 8 (fun z9 => nI (ln z9))] rfl ?_
  refine g_if_neN (pc := 33) X (tgt := 38) d_O_word2_33 (by decide) (by omega) (fun h_33 => ?_) (fun h_33 => absurd h_33 (by omega))
  refine g_lconst (pc := 38) X (v := 0) d_O_word2_38 (by decide) ?_
  refine g_lstore_n (pc := 39) X (i := 3) d_O_word2_39 rfl (by decide) ?_
  refine g_lv [(0, .ref a), (1, .int (nI i)), (2, .int (nI p)), (3, .long 0)] rfl ?_
  refine g_iload_n (pc := 40) X (i := 2) d_O_word2_40 rfl rfl ?_
  refine g_istore (pc := 41) X d_O_word2_41 (by decide) ?_
  refine g_lv [(0, .ref a), (1, .int (nI i)), (2, .int (nI p)), (3, .long 0), (5, .int (nI p))] rfl ?_
  refine g_lv [(0, .ref a), (1, .int (nI i)), (2, .int (nI p)), (3, .long 0), (5, .int (nI p))] rfl ?_
  refine loopF (σ := Int64) (wdR f (ln i) p) (fun k z => G B M 6 0 0 Q [co a 4 [.ref (q 0), .ref (q 1), .ref (q 2), .int (nI tp), .int (nI 0), .ref (q 3), .ref (q 4), .ref (q 5), .ref (q 6), .ref (q 7), .ref (q 8), .ref (q 9), .ref (q 10), .ref (q 11), .ref (q 12), .ref (q 13), .ref (q 14), .ref (q 15), .int (nI kd), .int (nI rt), .int (nI fl), .long (lN tt), .ref (q 16), .ref (q 17)], cq B (q 1) 8 (fun z9 => some (q (20 + z9))), cb B (q (20 + i)) 8192 f, cn B (q 2) 8 (fun z9 => nI (ln z9))] [(0, .ref a), (1, .int (nI i)), (2, .int (nI p)), (3, .long z), (5, .int (nI (p + k)))] 43 []) 8 0 ?_ ?_
  · intro k z hk43 kk43
    show G B M 6 0 0 Q [co a 4 [.ref (q 0), .ref (q 1), .ref (q 2), .int (nI tp), .int (nI 0), .ref (q 3), .ref (q 4), .ref (q 5), .ref (q 6), .ref (q 7), .ref (q 8), .ref (q 9), .ref (q 10), .ref (q 11), .ref (q 12), .ref (q 13), .ref (q 14), .ref (q 15), .int (nI kd), .int (nI rt), .int (nI fl), .long (lN tt), .ref (q 16), .ref (q 17)], cq B (q 1) 8 (fun z9 => some (q (20 + z9))), cb B (q (20 + i)) 8192 f, cn B (q 2) 8 (fun z9 => nI (ln z9))] [(0, .ref a), (1, .int (nI i)), (2, .int (nI p)), (3, .long z), (5, .int (nI (p + k)))] 43 []
    refine g_iload (pc := 43) X d_O_word2_43 rfl ?_
    refine g_iload_n (pc := 45) X (i := 2) d_O_word2_45 rfl rfl ?_
    refine g_bipush (pc := 46) X (v := nI 8) d_O_word2_46 (by decide) ?_
    refine g_iaddN (pc := 48) X (p + 8) (by omega) d_O_word2_48 ?_
    refine g_icmp_geN (pc := 49) X (tgt := 93) d_O_word2_49 (by decide) (by omega) (by omega) (fun h_49 => absurd h_49 (by omega)) (fun h_49 => ?_)
    refine g_lload_n (pc := 52) X (i := 3) d_O_word2_52 rfl rfl ?_
    refine g_bipush (pc := 53) X (v := nI 8) d_O_word2_53 (by decide) ?_
    refine g_lshl (pc := 55) X (v := lshl z (nI 8)) d_O_word2_55 rfl ?_
    refine g_iload (pc := 56) X d_O_word2_56 rfl ?_
    refine g_aload_n (pc := 58) X (i := 0) d_O_word2_58 rfl rfl ?_
    refine g_get (pc := 59) X in_O 0 rfl rfl 2 (by decide) wd_821 rfl d_O_word2_59 ?_
    refine g_iload_n (pc := 62) X (i := 1) d_O_word2_62 rfl rfl ?_
    refine g_iald (pc := 63) X 3 rfl i rfl (by omega) (by omega) d_O_word2_63 ?_
    refine g_icmp_geN (pc := 64) X (tgt := 84) d_O_word2_64 (by decide) (by omega) (by omega) (fun h_64 => ?_) (fun h_64 => ?_)
    · refine g_lconst (pc := 84) X (v := 0) d_O_word2_84 (by decide) ?_
      refine g_lor (pc := 85) X d_O_word2_85 ?_
      refine g_lstore_n (pc := 86) X (i := 3) d_O_word2_86 rfl (by decide) ?_
      refine g_lv [(0, .ref a), (1, .int (nI i)), (2, .int (nI p)), (3, .long ((lshl z (nI 8)) ||| 0)), (5, .int (nI (p + k)))] rfl ?_
      refine g_iincN (pc := 87) X (a := p + k) (p + k + 1) d_O_word2_87 rfl 1 rfl (by omega) (by decide) ?_
      refine g_lv [(0, .ref a), (1, .int (nI i)), (2, .int (nI p)), (3, .long ((lshl z (nI 8)) ||| 0)), (5, .int (nI (p + k + 1)))] rfl ?_
      refine g_goto (pc := 90) X (tgt := 43) d_O_word2_90 (by decide) ?_
      refine g_lv [(0, .ref a), (1, .int (nI i)), (2, .int (nI p)), (3, .long ((lshl z (nI 8)) ||| 0)), (5, .int (nI (p + k + 1)))] rfl ?_
      exact kk43 _ (by unfold wdR; first | rw [if_pos (by omega)] | rw [if_neg (by omega)])
    · refine g_aload_n (pc := 67) X (i := 0) d_O_word2_67 rfl rfl ?_
      refine g_get (pc := 68) X in_O 0 rfl rfl 1 (by decide) wd_820 rfl d_O_word2_68 ?_
      refine g_iload_n (pc := 71) X (i := 1) d_O_word2_71 rfl rfl ?_
      refine g_qald (pc := 72) X 1 rfl i rfl (by omega) (by omega) (r := q (20 + i)) rfl d_O_word2_72 ?_
      refine g_iload (pc := 73) X d_O_word2_73 rfl ?_
      refine g_bald (pc := 75) X 2 rfl (p + k) rfl (by omega) (by omega) d_O_word2_75 ?_
      refine g_i2l (pc := 76) X d_O_word2_76 rfl ?_
      refine g_ldc2 (pc := 77) X wd_791 d_O_word2_77 ?_
      refine g_land (pc := 80) X d_O_word2_80 ?_
      refine g_goto (pc := 81) X (tgt := 85) d_O_word2_81 (by decide) ?_
      refine g_lor (pc := 85) X d_O_word2_85 ?_
      refine g_lstore_n (pc := 86) X (i := 3) d_O_word2_86 rfl (by decide) ?_
      refine g_lv [(0, .ref a), (1, .int (nI i)), (2, .int (nI p)), (3, .long ((lshl z (nI 8)) ||| ((((f (p + k)).toInt32).toInt64) &&& 255))), (5, .int (nI (p + k)))] rfl ?_
      refine g_iincN (pc := 87) X (a := p + k) (p + k + 1) d_O_word2_87 rfl 1 rfl (by omega) (by decide) ?_
      refine g_lv [(0, .ref a), (1, .int (nI i)), (2, .int (nI p)), (3, .long ((lshl z (nI 8)) ||| ((((f (p + k)).toInt32).toInt64) &&& 255))), (5, .int (nI (p + k + 1)))] rfl ?_
      refine g_goto (pc := 90) X (tgt := 43) d_O_word2_90 (by decide) ?_
      refine g_lv [(0, .ref a), (1, .int (nI i)), (2, .int (nI p)), (3, .long ((lshl z (nI 8)) ||| ((((f (p + k)).toInt32).toInt64) &&& 255))), (5, .int (nI (p + k + 1)))] rfl ?_
      exact kk43 _ (by unfold wdR; first | rw [if_pos (by omega)] | rw [if_neg (by omega)])
  · show G B M 6 0 0 Q [co a 4 [.ref (q 0), .ref (q 1), .ref (q 2), .int (nI tp), .int (nI 0), .ref (q 3), .ref (q 4), .ref (q 5), .ref (q 6), .ref (q 7), .ref (q 8), .ref (q 9), .ref (q 10), .ref (q 11), .ref (q 12), .ref (q 13), .ref (q 14), .ref (q 15), .int (nI kd), .int (nI rt), .int (nI fl), .long (lN tt), .ref (q 16), .ref (q 17)], cq B (q 1) 8 (fun z9 => some (q (20 + z9))), cb B (q (20 + i)) 8192 f, cn B (q 2) 8 (fun z9 => nI (ln z9))] [(0, .ref a), (1, .int (nI i)), (2, .int (nI p)), (3, .long (it (wdR f (ln i) p) 8 0)), (5, .int (nI (p + 8)))] 43 []
    refine g_iload (pc := 43) X d_O_word2_43 rfl ?_
    refine g_iload_n (pc := 45) X (i := 2) d_O_word2_45 rfl rfl ?_
    refine g_bipush (pc := 46) X (v := nI 8) d_O_word2_46 (by decide) ?_
    refine g_iaddN (pc := 48) X (p + 8) (by omega) d_O_word2_48 ?_
    refine g_icmp_geN (pc := 49) X (tgt := 93) d_O_word2_49 (by decide) (by omega) (by omega) (fun h_49 => ?_) (fun h_49 => absurd h_49 (by omega))
    refine g_lload_n (pc := 93) X (i := 3) d_O_word2_93 rfl rfl ?_
    exact kret _ () _ 94 rfl d_O_word2_94

theorem c_O_word2_b1 (l : Launch) (B : Bx) (a : Nat) (q : Nat → Nat) (tp : Nat) (kd : Nat) (rt : Nat) (fl : Nat) (tt : Nat) (cd : Int32) (x : Int32) (y : Int32) (h1 : inR x (nI 0) (nI 7) = nI 0) : Cl (S := Unit) l B y_O_word2 b_O_word2 6 (Rm 2 0 0) [.ref a, .int x, .int y] [co a 4 [.ref (q 0), .ref (q 1), .ref (q 2), .int (nI tp), .int cd, .ref (q 3), .ref (q 4), .ref (q 5), .ref (q 6), .ref (q 7), .ref (q 8), .ref (q 9), .ref (q 10), .ref (q 11), .ref (q 12), .ref (q 13), .ref (q 14), .ref (q 15), .int (nI kd), .int (nI rt), .int (nI fl), .long (lN tt), .ref (q 16), .ref (q 17)]] (fun r _ => r = 0) (fun _ => [co a 4 [.ref (q 0), .ref (q 1), .ref (q 2), .int (nI tp), .int (nI 1), .ref (q 3), .ref (q 4), .ref (q 5), .ref (q 6), .ref (q 7), .ref (q 8), .ref (q 9), .ref (q 10), .ref (q 11), .ref (q 12), .ref (q 13), .ref (q 14), .ref (q 15), .int (nI kd), .int (nI rt), .int (nI fl), .long (lN tt), .ref (q 16), .ref (q 17)]]) := by
  refine ctr_l (by decide) (Nat.le_of_ble_eq_true rfl) ?_
  intro M Q hl hR hin X kret
  subst hl
  refine g_lv [(0, .ref a), (1, .int x), (2, .int y)] rfl ?_
  refine g_aload_n (pc := 0) X (i := 0) d_O_word2_0 rfl rfl ?_
  refine g_iload_n (pc := 1) X (i := 1) d_O_word2_1 rfl rfl ?_
  refine g_iconst (pc := 2) X (v := nI 0) d_O_word2_2 (by decide) ?_
  refine g_bipush (pc := 3) X (v := nI 7) d_O_word2_3 (by decide) ?_
  refine g_callSi (pc := 5) X (c_O_in_f (m_l M) B x (nI 0) (nI 7) h1) wd_913 wd_914 wd_5 wd_915 hd_O_in [] rfl rfl [] (fun _ => rfl) rfl (by rw [hR]; decide) (by rw [hR]; decide) rfl (Nat.le_of_ble_eq_true rfl) d_O_word2_5 (fun r9 _ hr9 => ?_)
  subst hr9
  refine g_wsq [co a 4 [.ref (q 0), .ref (q 1), .ref (q 2), .int (nI tp), .int cd, .ref (q 3), .ref (q 4), .ref (q 5), .ref (q 6), .ref (q 7), .ref (q 8), .ref (q 9), .ref (q 10), .ref (q 11), .ref (q 12), .ref (q 13), .ref (q 14), .ref (q 15), .int (nI kd), .int (nI rt), .int (nI fl), .long (lN tt), .ref (q 16), .ref (q 17)]] rfl ?_
  refine g_iconst (pc := 8) X (v := nI 1) d_O_word2_8 (by decide) ?_
  refine g_callVi (pc := 9) (q0 := 0) X (c_O_good_f (m_l M) B a q tp kd rt fl tt cd (nI 1) ) wd_901 wd_903 wp_O_good wd_5 wd_904 hd_O_good [0] rfl rfl [a] (fun _ => rfl) rfl rfl rfl (by rw [hR]; decide) (by rw [hR]; decide) rfl (Nat.le_of_ble_eq_true rfl) d_O_word2_9 (fun r9 _ hr9 => ?_)
  subst hr9
  refine g_wsq [co a 4 [.ref (q 0), .ref (q 1), .ref (q 2), .int (nI tp), .int (nI 1), .ref (q 3), .ref (q 4), .ref (q 5), .ref (q 6), .ref (q 7), .ref (q 8), .ref (q 9), .ref (q 10), .ref (q 11), .ref (q 12), .ref (q 13), .ref (q 14), .ref (q 15), .int (nI kd), .int (nI rt), .int (nI fl), .long (lN tt), .ref (q 16), .ref (q 17)]] rfl ?_
  refine g_if_eqN (pc := 12) X (tgt := 36) d_O_word2_12 (by decide) (by omega) (fun h_12 => ?_) (fun h_12 => absurd h_12 (by omega))
  refine g_lconst (pc := 36) X (v := 0) d_O_word2_36 (by decide) ?_
  exact kret _ () _ 37 rfl d_O_word2_37

theorem c_O_word2_b2 (l : Launch) (B : Bx) (a : Nat) (q : Nat → Nat) (tp : Nat) (kd : Nat) (rt : Nat) (fl : Nat) (tt : Nat) (cd : Int32) (ln : Nat → Nat) (i : Nat) (y : Int32) (h1 : i < 8) (h2 : inR y (nI 0) (nI (ln i) - nI 1) = nI 0) : Cl (S := Unit) l B y_O_word2 b_O_word2 6 (Rm 2 0 0) [.ref a, .int (nI i), .int y] [co a 4 [.ref (q 0), .ref (q 1), .ref (q 2), .int (nI tp), .int cd, .ref (q 3), .ref (q 4), .ref (q 5), .ref (q 6), .ref (q 7), .ref (q 8), .ref (q 9), .ref (q 10), .ref (q 11), .ref (q 12), .ref (q 13), .ref (q 14), .ref (q 15), .int (nI kd), .int (nI rt), .int (nI fl), .long (lN tt), .ref (q 16), .ref (q 17)], cn B (q 2) 8 (fun z9 => nI (ln z9))] (fun r _ => r = 0) (fun _ => [co a 4 [.ref (q 0), .ref (q 1), .ref (q 2), .int (nI tp), .int (nI 2), .ref (q 3), .ref (q 4), .ref (q 5), .ref (q 6), .ref (q 7), .ref (q 8), .ref (q 9), .ref (q 10), .ref (q 11), .ref (q 12), .ref (q 13), .ref (q 14), .ref (q 15), .int (nI kd), .int (nI rt), .int (nI fl), .long (lN tt), .ref (q 16), .ref (q 17)], cn B (q 2) 8 (fun z9 => nI (ln z9))]) := by
  refine ctr_l (by decide) (Nat.le_of_ble_eq_true rfl) ?_
  intro M Q hl hR hin X kret
  subst hl
  refine g_lv [(0, .ref a), (1, .int (nI i)), (2, .int y)] rfl ?_
  refine g_aload_n (pc := 0) X (i := 0) d_O_word2_0 rfl rfl ?_
  refine g_iload_n (pc := 1) X (i := 1) d_O_word2_1 rfl rfl ?_
  refine g_iconst (pc := 2) X (v := nI 0) d_O_word2_2 (by decide) ?_
  refine g_bipush (pc := 3) X (v := nI 7) d_O_word2_3 (by decide) ?_
  refine g_callSi (pc := 5) X (c_O_in_t (m_l M) B (nI i) (nI 0) (nI 7) (inR_n (by omega) (by omega) (by omega))) wd_913 wd_914 wd_5 wd_915 hd_O_in [] rfl rfl [] (fun _ => rfl) rfl (by rw [hR]; decide) (by rw [hR]; decide) rfl (Nat.le_of_ble_eq_true rfl) d_O_word2_5 (fun r9 _ hr9 => ?_)
  subst hr9
  refine g_wsq [co a 4 [.ref (q 0), .ref (q 1), .ref (q 2), .int (nI tp), .int cd, .ref (q 3), .ref (q 4), .ref (q 5), .ref (q 6), .ref (q 7), .ref (q 8), .ref (q 9), .ref (q 10), .ref (q 11), .ref (q 12), .ref (q 13), .ref (q 14), .ref (q 15), .int (nI kd), .int (nI rt), .int (nI fl), .long (lN tt), .ref (q 16), .ref (q 17)], cn B (q 2) 8 (fun z9 => nI (ln z9))] rfl ?_
  refine g_iconst (pc := 8) X (v := nI 1) d_O_word2_8 (by decide) ?_
  refine g_callVi (pc := 9) (q0 := 0) X (c_O_good_t (m_l M) B a q tp kd rt fl tt cd (nI 1) ) wd_901 wd_903 wp_O_good wd_5 wd_904 hd_O_good [0] rfl rfl [a] (fun _ => rfl) rfl rfl rfl (by rw [hR]; decide) (by rw [hR]; decide) rfl (Nat.le_of_ble_eq_true rfl) d_O_word2_9 (fun r9 _ hr9 => ?_)
  subst hr9
  refine g_wsq [co a 4 [.ref (q 0), .ref (q 1), .ref (q 2), .int (nI tp), .int (nI 0), .ref (q 3), .ref (q 4), .ref (q 5), .ref (q 6), .ref (q 7), .ref (q 8), .ref (q 9), .ref (q 10), .ref (q 11), .ref (q 12), .ref (q 13), .ref (q 14), .ref (q 15), .int (nI kd), .int (nI rt), .int (nI fl), .long (lN tt), .ref (q 16), .ref (q 17)], cn B (q 2) 8 (fun z9 => nI (ln z9))] rfl ?_
  refine g_if_eqN (pc := 12) X (tgt := 36) d_O_word2_12 (by decide) (by omega) (fun h_12 => absurd h_12 (by omega)) (fun h_12 => ?_)
  refine g_aload_n (pc := 15) X (i := 0) d_O_word2_15 rfl rfl ?_
  refine g_iload_n (pc := 16) X (i := 2) d_O_word2_16 rfl rfl ?_
  refine g_iconst (pc := 17) X (v := nI 0) d_O_word2_17 (by decide) ?_
  refine g_aload_n (pc := 18) X (i := 0) d_O_word2_18 rfl rfl ?_
  refine g_get (pc := 19) X in_O 0 rfl rfl 2 (by decide) wd_821 rfl d_O_word2_19 ?_
  refine g_iload_n (pc := 22) X (i := 1) d_O_word2_22 rfl rfl ?_
  refine g_iald (pc := 23) X 1 rfl i rfl (by omega) (by omega) d_O_word2_23 ?_
  refine g_iconst (pc := 24) X (v := nI 1) d_O_word2_24 (by decide) ?_
  refine g_isub (pc := 25) X d_O_word2_25 ?_
  refine g_callSi (pc := 26) X (c_O_in_f (m_l M) B y (nI 0) ((nI (ln i)) - (nI 1)) h2) wd_913 wd_914 wd_5 wd_915 hd_O_in [] rfl rfl [] (fun _ => rfl) rfl (by rw [hR]; decide) (by rw [hR]; decide) rfl (Nat.le_of_ble_eq_true rfl) d_O_word2_26 (fun r9 _ hr9 => ?_)
  subst hr9
  refine g_wsq [co a 4 [.ref (q 0), .ref (q 1), .ref (q 2), .int (nI tp), .int (nI 0), .ref (q 3), .ref (q 4), .ref (q 5), .ref (q 6), .ref (q 7), .ref (q 8), .ref (q 9), .ref (q 10), .ref (q 11), .ref (q 12), .ref (q 13), .ref (q 14), .ref (q 15), .int (nI kd), .int (nI rt), .int (nI fl), .long (lN tt), .ref (q 16), .ref (q 17)], cn B (q 2) 8 (fun z9 => nI (ln z9))] rfl ?_
  refine g_iconst (pc := 29) X (v := nI 2) d_O_word2_29 (by decide) ?_
  refine g_callVi (pc := 30) (q0 := 0) X (c_O_good_f (m_l M) B a q tp kd rt fl tt (nI 0) (nI 2) ) wd_901 wd_903 wp_O_good wd_5 wd_904 hd_O_good [0] rfl rfl [a] (fun _ => rfl) rfl rfl rfl (by rw [hR]; decide) (by rw [hR]; decide) rfl (Nat.le_of_ble_eq_true rfl) d_O_word2_30 (fun r9 _ hr9 => ?_)
  subst hr9
  refine g_wsq [co a 4 [.ref (q 0), .ref (q 1), .ref (q 2), .int (nI tp), .int (nI 2), .ref (q 3), .ref (q 4), .ref (q 5), .ref (q 6), .ref (q 7), .ref (q 8), .ref (q 9), .ref (q 10), .ref (q 11), .ref (q 12), .ref (q 13), .ref (q 14), .ref (q 15), .int (nI kd), .int (nI rt), .int (nI fl), .long (lN tt), .ref (q 16), .ref (q 17)], cn B (q 2) 8 (fun z9 => nI (ln z9))] rfl ?_
  refine g_if_neN (pc := 33) X (tgt := 38) d_O_word2_33 (by decide) (by omega) (fun h_33 => absurd h_33 (by omega)) (fun h_33 => ?_)
  refine g_lconst (pc := 36) X (v := 0) d_O_word2_36 (by decide) ?_
  exact kret _ () _ 37 rfl d_O_word2_37

theorem c_O_alter_ok (l : Launch) (B : Bx) (a : Nat) (q : Nat → Nat) (tp : Nat) (kd : Nat) (rt : Nat) (fl : Nat) (tt : Nat) (cd : Int32) (ln : Nat → Nat) (i : Nat) (p : Nat) (v : Nat) (f : Nat → Int8) (h1 : i < 8) (h2 : p < ln i) (h3 : ln i ≤ 8192) (h4 : v ≤ 255) : Ci (S := Unit) l B y_O_alter b_O_alter 4 .int (Rm 2 0 0) [.ref a, .int (nI i), .int (nI p), .int (nI v)] [co a 4 [.ref (q 0), .ref (q 1), .ref (q 2), .int (nI tp), .int cd, .ref (q 3), .ref (q 4), .ref (q 5), .ref (q 6), .ref (q 7), .ref (q 8), .ref (q 9), .ref (q 10), .ref (q 11), .ref (q 12), .ref (q 13), .ref (q 14), .ref (q 15), .int (nI kd), .int (nI rt), .int (nI fl), .long (lN tt), .ref (q 16), .ref (q 17)], cq B (q 1) 8 (fun z9 => some (q (20 + z9))), cb B (q (20 + i)) 8192 f, cn B (q 2) 8 (fun z9 => nI (ln z9))] (fun r _ => r = (va_up f p ((f p).toInt32 ^^^ (nI v).toInt8.toInt32).toInt8 p).toInt32 &&& nI 255) (fun _ => [co a 4 [.ref (q 0), .ref (q 1), .ref (q 2), .int (nI tp), .int (nI 0), .ref (q 3), .ref (q 4), .ref (q 5), .ref (q 6), .ref (q 7), .ref (q 8), .ref (q 9), .ref (q 10), .ref (q 11), .ref (q 12), .ref (q 13), .ref (q 14), .ref (q 15), .int (nI kd), .int (nI rt), .int (nI fl), .long (lN tt), .ref (q 16), .ref (q 17)], cq B (q 1) 8 (fun z9 => some (q (20 + z9))), cb B (q (20 + i)) 8192 (va_up f p ((f p).toInt32 ^^^ (nI v).toInt8.toInt32).toInt8), cn B (q 2) 8 (fun z9 => nI (ln z9))]) := by
  refine ctr_i (by decide) (Nat.le_of_ble_eq_true rfl) ?_
  intro M Q hl hR hin X kret
  subst hl
  refine g_lv [(0, .ref a), (1, .int (nI i)), (2, .int (nI p)), (3, .int (nI v))] rfl ?_
  refine g_aload_n (pc := 0) X (i := 0) d_O_alter_0 rfl rfl ?_
  refine g_iload_n (pc := 1) X (i := 1) d_O_alter_1 rfl rfl ?_
  refine g_iconst (pc := 2) X (v := nI 0) d_O_alter_2 (by decide) ?_
  refine g_bipush (pc := 3) X (v := nI 7) d_O_alter_3 (by decide) ?_
  refine g_callSi (pc := 5) X (c_O_in_t (m_l M) B (nI i) (nI 0) (nI 7) (inR_n (by omega) (by omega) (by omega))) wd_913 wd_914 wd_5 wd_915 hd_O_in [] rfl rfl [] (fun _ => rfl) rfl (by rw [hR]; decide) (by rw [hR]; decide) rfl (Nat.le_of_ble_eq_true rfl) d_O_alter_5 (fun r9 _ hr9 => ?_)
  subst hr9
  refine g_wsq [co a 4 [.ref (q 0), .ref (q 1), .ref (q 2), .int (nI tp), .int cd, .ref (q 3), .ref (q 4), .ref (q 5), .ref (q 6), .ref (q 7), .ref (q 8), .ref (q 9), .ref (q 10), .ref (q 11), .ref (q 12), .ref (q 13), .ref (q 14), .ref (q 15), .int (nI kd), .int (nI rt), .int (nI fl), .long (lN tt), .ref (q 16), .ref (q 17)], cq B (q 1) 8 (fun z9 => some (q (20 + z9))), cb B (q (20 + i)) 8192 f, cn B (q 2) 8 (fun z9 => nI (ln z9))] rfl ?_
  refine g_if_eqN (pc := 8) X (tgt := 26) d_O_alter_8 (by decide) (by omega) (fun h_8 => absurd h_8 (by omega)) (fun h_8 => ?_)
  refine g_iload_n (pc := 11) X (i := 3) d_O_alter_11 rfl rfl ?_
  refine g_iconst (pc := 12) X (v := nI 0) d_O_alter_12 (by decide) ?_
  refine g_sipush (pc := 13) X (v := nI 255) d_O_alter_13 (by decide) ?_
  refine g_callSi (pc := 16) X (c_O_in_t (m_l M) B (nI v) (nI 0) (nI 255) (inR_n (by omega) (by omega) (by omega))) wd_913 wd_914 wd_5 wd_915 hd_O_in [] rfl rfl [] (fun _ => rfl) rfl (by rw [hR]; decide) (by rw [hR]; decide) rfl (Nat.le_of_ble_eq_true rfl) d_O_alter_16 (fun r9 _ hr9 => ?_)
  subst hr9
  refine g_wsq [co a 4 [.ref (q 0), .ref (q 1), .ref (q 2), .int (nI tp), .int cd, .ref (q 3), .ref (q 4), .ref (q 5), .ref (q 6), .ref (q 7), .ref (q 8), .ref (q 9), .ref (q 10), .ref (q 11), .ref (q 12), .ref (q 13), .ref (q 14), .ref (q 15), .int (nI kd), .int (nI rt), .int (nI fl), .long (lN tt), .ref (q 16), .ref (q 17)], cq B (q 1) 8 (fun z9 => some (q (20 + z9))), cb B (q (20 + i)) 8192 f, cn B (q 2) 8 (fun z9 => nI (ln z9))] rfl ?_
  refine g_if_eqN (pc := 19) X (tgt := 26) d_O_alter_19 (by decide) (by omega) (fun h_19 => absurd h_19 (by omega)) (fun h_19 => ?_)
  refine g_iconst (pc := 22) X (v := nI 1) d_O_alter_22 (by decide) ?_
  refine g_goto (pc := 23) X (tgt := 27) d_O_alter_23 (by decide) ?_
  refine g_iconst (pc := 27) X (v := nI 1) d_O_alter_27 (by decide) ?_
  refine g_callVi (pc := 28) (q0 := 0) X (c_O_good_t (m_l M) B a q tp kd rt fl tt cd (nI 1) ) wd_901 wd_903 wp_O_good wd_5 wd_904 hd_O_good [0] rfl rfl [a] (fun _ => rfl) rfl rfl rfl (by rw [hR]; decide) (by rw [hR]; decide) rfl (Nat.le_of_ble_eq_true rfl) d_O_alter_28 (fun r9 _ hr9 => ?_)
  subst hr9
  refine g_wsq [co a 4 [.ref (q 0), .ref (q 1), .ref (q 2), .int (nI tp), .int (nI 0), .ref (q 3), .ref (q 4), .ref (q 5), .ref (q 6), .ref (q 7), .ref (q 8), .ref (q 9), .ref (q 10), .ref (q 11), .ref (q 12), .ref (q 13), .ref (q 14), .ref (q 15), .int (nI kd), .int (nI rt), .int (nI fl), .long (lN tt), .ref (q 16), .ref (q 17)], cq B (q 1) 8 (fun z9 => some (q (20 + z9))), cb B (q (20 + i)) 8192 f, cn B (q 2) 8 (fun z9 => nI (ln z9))] rfl ?_
  refine g_if_eqN (pc := 31) X (tgt := 55) d_O_alter_31 (by decide) (by omega) (fun h_31 => absurd h_31 (by omega)) (fun h_31 => ?_)
  refine g_aload_n (pc := 34) X (i := 0) d_O_alter_34 rfl rfl ?_
  refine g_iload_n (pc := 35) X (i := 2) d_O_alter_35 rfl rfl ?_
  refine g_iconst (pc := 36) X (v := nI 0) d_O_alter_36 (by decide) ?_
  refine g_aload_n (pc := 37) X (i := 0) d_O_alter_37 rfl rfl ?_
  refine g_get (pc := 38) X in_O 0 rfl rfl 2 (by decide) wd_821 rfl d_O_alter_38 ?_
  refine g_iload_n (pc := 41) X (i := 1) d_O_alter_41 rfl rfl ?_
  refine g_iald (pc := 42) X 3 rfl i rfl (by omega) (by omega) d_O_alter_42 ?_
  refine g_iconst (pc := 43) X (v := nI 1) d_O_alter_43 (by decide) ?_
  refine g_isubN (pc := 44) X (ln i - 1) (by omega) d_O_alter_44 ?_
  refine g_callSi (pc := 45) X (c_O_in_t (m_l M) B (nI p) (nI 0) (nI (ln i - 1)) (inR_n (by omega) (by omega) (by omega))) wd_913 wd_914 wd_5 wd_915 hd_O_in [] rfl rfl [] (fun _ => rfl) rfl (by rw [hR]; decide) (by rw [hR]; decide) rfl (Nat.le_of_ble_eq_true rfl) d_O_alter_45 (fun r9 _ hr9 => ?_)
  subst hr9
  refine g_wsq [co a 4 [.ref (q 0), .ref (q 1), .ref (q 2), .int (nI tp), .int (nI 0), .ref (q 3), .ref (q 4), .ref (q 5), .ref (q 6), .ref (q 7), .ref (q 8), .ref (q 9), .ref (q 10), .ref (q 11), .ref (q 12), .ref (q 13), .ref (q 14), .ref (q 15), .int (nI kd), .int (nI rt), .int (nI fl), .long (lN tt), .ref (q 16), .ref (q 17)], cq B (q 1) 8 (fun z9 => some (q (20 + z9))), cb B (q (20 + i)) 8192 f, cn B (q 2) 8 (fun z9 => nI (ln z9))] rfl ?_
  refine g_iconst (pc := 48) X (v := nI 2) d_O_alter_48 (by decide) ?_
  refine g_callVi (pc := 49) (q0 := 0) X (c_O_good_t (m_l M) B a q tp kd rt fl tt (nI 0) (nI 2) ) wd_901 wd_903 wp_O_good wd_5 wd_904 hd_O_good [0] rfl rfl [a] (fun _ => rfl) rfl rfl rfl (by rw [hR]; decide) (by rw [hR]; decide) rfl (Nat.le_of_ble_eq_true rfl) d_O_alter_49 (fun r9 _ hr9 => ?_)
  subst hr9
  refine g_wsq [co a 4 [.ref (q 0), .ref (q 1), .ref (q 2), .int (nI tp), .int (nI 0), .ref (q 3), .ref (q 4), .ref (q 5), .ref (q 6), .ref (q 7), .ref (q 8), .ref (q 9), .ref (q 10), .ref (q 11), .ref (q 12), .ref (q 13), .ref (q 14), .ref (q 15), .int (nI kd), .int (nI rt), .int (nI fl), .long (lN tt), .ref (q 16), .ref (q 17)], cq B (q 1) 8 (fun z9 => some (q (20 + z9))), cb B (q (20 + i)) 8192 f, cn B (q 2) 8 (fun z9 => nI (ln z9))] rfl ?_
  refine g_if_neN (pc := 52) X (tgt := 57) d_O_alter_52 (by decide) (by omega) (fun h_52 => ?_) (fun h_52 => absurd h_52 (by omega))
  refine g_aload_n (pc := 57) X (i := 0) d_O_alter_57 rfl rfl ?_
  refine g_get (pc := 58) X in_O 0 rfl rfl 1 (by decide) wd_820 rfl d_O_alter_58 ?_
  refine g_iload_n (pc := 61) X (i := 1) d_O_alter_61 rfl rfl ?_
  refine g_qald (pc := 62) X 1 rfl i rfl (by omega) (by omega) (r := q (20 + i)) rfl d_O_alter_62 ?_
  refine g_iload_n (pc := 63) X (i := 2) d_O_alter_63 rfl rfl ?_
  refine g_dup2_11 (pc := 64) X d_O_alter_64 rfl rfl ?_
  refine g_bald (pc := 65) X 2 rfl p rfl (by omega) (by omega) d_O_alter_65 ?_
  refine g_iload_n (pc := 66) X (i := 3) d_O_alter_66 rfl rfl ?_
  refine g_i2b (pc := 67) X d_O_alter_67 rfl ?_
  refine g_ixor (pc := 68) X d_O_alter_68 ?_
  refine g_i2b (pc := 69) X d_O_alter_69 rfl ?_
  refine g_bastB (pc := 70) X 2 rfl p rfl (by omega) (by omega) d_O_alter_70 ?_
  refine g_wsq [co a 4 [.ref (q 0), .ref (q 1), .ref (q 2), .int (nI tp), .int (nI 0), .ref (q 3), .ref (q 4), .ref (q 5), .ref (q 6), .ref (q 7), .ref (q 8), .ref (q 9), .ref (q 10), .ref (q 11), .ref (q 12), .ref (q 13), .ref (q 14), .ref (q 15), .int (nI kd), .int (nI rt), .int (nI fl), .long (lN tt), .ref (q 16), .ref (q 17)], cq B (q 1) 8 (fun z9 => some (q (20 + z9))), cb B (q (20 + i)) 8192 (va_up f p ((((f p).toInt32) ^^^ (((nI v).toInt8).toInt32)).toInt8)), cn B (q 2) 8 (fun z9 => nI (ln z9))] rfl ?_
  refine g_aload_n (pc := 71) X (i := 0) d_O_alter_71 rfl rfl ?_
  refine g_get (pc := 72) X in_O 0 rfl rfl 1 (by decide) wd_820 rfl d_O_alter_72 ?_
  refine g_iload_n (pc := 75) X (i := 1) d_O_alter_75 rfl rfl ?_
  refine g_qald (pc := 76) X 1 rfl i rfl (by omega) (by omega) (r := q (20 + i)) rfl d_O_alter_76 ?_
  refine g_iload_n (pc := 77) X (i := 2) d_O_alter_77 rfl rfl ?_
  refine g_bald (pc := 78) X 2 rfl p rfl (by omega) (by omega) d_O_alter_78 ?_
  refine g_sipush (pc := 79) X (v := nI 255) d_O_alter_79 (by decide) ?_
  refine g_iand (pc := 82) X d_O_alter_82 ?_
  exact kret _ () _ 83 rfl d_O_alter_83

theorem c_O_alter_b1 (l : Launch) (B : Bx) (a : Nat) (q : Nat → Nat) (tp : Nat) (kd : Nat) (rt : Nat) (fl : Nat) (tt : Nat) (cd : Int32) (x : Int32) (y : Int32) (z : Int32) (h1 : inR x (nI 0) (nI 7) = nI 0) : Ci (S := Unit) l B y_O_alter b_O_alter 4 .int (Rm 2 0 0) [.ref a, .int x, .int y, .int z] [co a 4 [.ref (q 0), .ref (q 1), .ref (q 2), .int (nI tp), .int cd, .ref (q 3), .ref (q 4), .ref (q 5), .ref (q 6), .ref (q 7), .ref (q 8), .ref (q 9), .ref (q 10), .ref (q 11), .ref (q 12), .ref (q 13), .ref (q 14), .ref (q 15), .int (nI kd), .int (nI rt), .int (nI fl), .long (lN tt), .ref (q 16), .ref (q 17)]] (fun r _ => r = nI 0) (fun _ => [co a 4 [.ref (q 0), .ref (q 1), .ref (q 2), .int (nI tp), .int (nI 1), .ref (q 3), .ref (q 4), .ref (q 5), .ref (q 6), .ref (q 7), .ref (q 8), .ref (q 9), .ref (q 10), .ref (q 11), .ref (q 12), .ref (q 13), .ref (q 14), .ref (q 15), .int (nI kd), .int (nI rt), .int (nI fl), .long (lN tt), .ref (q 16), .ref (q 17)]]) := by
  refine ctr_i (by decide) (Nat.le_of_ble_eq_true rfl) ?_
  intro M Q hl hR hin X kret
  subst hl
  refine g_lv [(0, .ref a), (1, .int x), (2, .int y), (3, .int z)] rfl ?_
  refine g_aload_n (pc := 0) X (i := 0) d_O_alter_0 rfl rfl ?_
  refine g_iload_n (pc := 1) X (i := 1) d_O_alter_1 rfl rfl ?_
  refine g_iconst (pc := 2) X (v := nI 0) d_O_alter_2 (by decide) ?_
  refine g_bipush (pc := 3) X (v := nI 7) d_O_alter_3 (by decide) ?_
  refine g_callSi (pc := 5) X (c_O_in_f (m_l M) B x (nI 0) (nI 7) h1) wd_913 wd_914 wd_5 wd_915 hd_O_in [] rfl rfl [] (fun _ => rfl) rfl (by rw [hR]; decide) (by rw [hR]; decide) rfl (Nat.le_of_ble_eq_true rfl) d_O_alter_5 (fun r9 _ hr9 => ?_)
  subst hr9
  refine g_wsq [co a 4 [.ref (q 0), .ref (q 1), .ref (q 2), .int (nI tp), .int cd, .ref (q 3), .ref (q 4), .ref (q 5), .ref (q 6), .ref (q 7), .ref (q 8), .ref (q 9), .ref (q 10), .ref (q 11), .ref (q 12), .ref (q 13), .ref (q 14), .ref (q 15), .int (nI kd), .int (nI rt), .int (nI fl), .long (lN tt), .ref (q 16), .ref (q 17)]] rfl ?_
  refine g_if_eqN (pc := 8) X (tgt := 26) d_O_alter_8 (by decide) (by omega) (fun h_8 => ?_) (fun h_8 => absurd h_8 (by omega))
  refine g_iconst (pc := 26) X (v := nI 0) d_O_alter_26 (by decide) ?_
  refine g_iconst (pc := 27) X (v := nI 1) d_O_alter_27 (by decide) ?_
  refine g_callVi (pc := 28) (q0 := 0) X (c_O_good_f (m_l M) B a q tp kd rt fl tt cd (nI 1) ) wd_901 wd_903 wp_O_good wd_5 wd_904 hd_O_good [0] rfl rfl [a] (fun _ => rfl) rfl rfl rfl (by rw [hR]; decide) (by rw [hR]; decide) rfl (Nat.le_of_ble_eq_true rfl) d_O_alter_28 (fun r9 _ hr9 => ?_)
  subst hr9
  refine g_wsq [co a 4 [.ref (q 0), .ref (q 1), .ref (q 2), .int (nI tp), .int (nI 1), .ref (q 3), .ref (q 4), .ref (q 5), .ref (q 6), .ref (q 7), .ref (q 8), .ref (q 9), .ref (q 10), .ref (q 11), .ref (q 12), .ref (q 13), .ref (q 14), .ref (q 15), .int (nI kd), .int (nI rt), .int (nI fl), .long (lN tt), .ref (q 16), .ref (q 17)]] rfl ?_
  refine g_if_eqN (pc := 31) X (tgt := 55) d_O_alter_31 (by decide) (by omega) (fun h_31 => ?_) (fun h_31 => absurd h_31 (by omega))
  refine g_iconst (pc := 55) X (v := nI 0) d_O_alter_55 (by decide) ?_
  exact kret _ () _ 56 rfl d_O_alter_56

theorem c_O_alter_b2 (l : Launch) (B : Bx) (a : Nat) (q : Nat → Nat) (tp : Nat) (kd : Nat) (rt : Nat) (fl : Nat) (tt : Nat) (cd : Int32) (x : Int32) (y : Int32) (z : Int32) (h1 : inR x (nI 0) (nI 7) = nI 1) (h2 : inR z (nI 0) (nI 255) = nI 0) : Ci (S := Unit) l B y_O_alter b_O_alter 4 .int (Rm 2 0 0) [.ref a, .int x, .int y, .int z] [co a 4 [.ref (q 0), .ref (q 1), .ref (q 2), .int (nI tp), .int cd, .ref (q 3), .ref (q 4), .ref (q 5), .ref (q 6), .ref (q 7), .ref (q 8), .ref (q 9), .ref (q 10), .ref (q 11), .ref (q 12), .ref (q 13), .ref (q 14), .ref (q 15), .int (nI kd), .int (nI rt), .int (nI fl), .long (lN tt), .ref (q 16), .ref (q 17)]] (fun r _ => r = nI 0) (fun _ => [co a 4 [.ref (q 0), .ref (q 1), .ref (q 2), .int (nI tp), .int (nI 1), .ref (q 3), .ref (q 4), .ref (q 5), .ref (q 6), .ref (q 7), .ref (q 8), .ref (q 9), .ref (q 10), .ref (q 11), .ref (q 12), .ref (q 13), .ref (q 14), .ref (q 15), .int (nI kd), .int (nI rt), .int (nI fl), .long (lN tt), .ref (q 16), .ref (q 17)]]) := by
  refine ctr_i (by decide) (Nat.le_of_ble_eq_true rfl) ?_
  intro M Q hl hR hin X kret
  subst hl
  refine g_lv [(0, .ref a), (1, .int x), (2, .int y), (3, .int z)] rfl ?_
  refine g_aload_n (pc := 0) X (i := 0) d_O_alter_0 rfl rfl ?_
  refine g_iload_n (pc := 1) X (i := 1) d_O_alter_1 rfl rfl ?_
  refine g_iconst (pc := 2) X (v := nI 0) d_O_alter_2 (by decide) ?_
  refine g_bipush (pc := 3) X (v := nI 7) d_O_alter_3 (by decide) ?_
  refine g_callSi (pc := 5) X (c_O_in_t (m_l M) B x (nI 0) (nI 7) h1) wd_913 wd_914 wd_5 wd_915 hd_O_in [] rfl rfl [] (fun _ => rfl) rfl (by rw [hR]; decide) (by rw [hR]; decide) rfl (Nat.le_of_ble_eq_true rfl) d_O_alter_5 (fun r9 _ hr9 => ?_)
  subst hr9
  refine g_wsq [co a 4 [.ref (q 0), .ref (q 1), .ref (q 2), .int (nI tp), .int cd, .ref (q 3), .ref (q 4), .ref (q 5), .ref (q 6), .ref (q 7), .ref (q 8), .ref (q 9), .ref (q 10), .ref (q 11), .ref (q 12), .ref (q 13), .ref (q 14), .ref (q 15), .int (nI kd), .int (nI rt), .int (nI fl), .long (lN tt), .ref (q 16), .ref (q 17)]] rfl ?_
  refine g_if_eqN (pc := 8) X (tgt := 26) d_O_alter_8 (by decide) (by omega) (fun h_8 => absurd h_8 (by omega)) (fun h_8 => ?_)
  refine g_iload_n (pc := 11) X (i := 3) d_O_alter_11 rfl rfl ?_
  refine g_iconst (pc := 12) X (v := nI 0) d_O_alter_12 (by decide) ?_
  refine g_sipush (pc := 13) X (v := nI 255) d_O_alter_13 (by decide) ?_
  refine g_callSi (pc := 16) X (c_O_in_f (m_l M) B z (nI 0) (nI 255) h2) wd_913 wd_914 wd_5 wd_915 hd_O_in [] rfl rfl [] (fun _ => rfl) rfl (by rw [hR]; decide) (by rw [hR]; decide) rfl (Nat.le_of_ble_eq_true rfl) d_O_alter_16 (fun r9 _ hr9 => ?_)
  subst hr9
  refine g_wsq [co a 4 [.ref (q 0), .ref (q 1), .ref (q 2), .int (nI tp), .int cd, .ref (q 3), .ref (q 4), .ref (q 5), .ref (q 6), .ref (q 7), .ref (q 8), .ref (q 9), .ref (q 10), .ref (q 11), .ref (q 12), .ref (q 13), .ref (q 14), .ref (q 15), .int (nI kd), .int (nI rt), .int (nI fl), .long (lN tt), .ref (q 16), .ref (q 17)]] rfl ?_
  refine g_if_eqN (pc := 19) X (tgt := 26) d_O_alter_19 (by decide) (by omega) (fun h_19 => ?_) (fun h_19 => absurd h_19 (by omega))
  refine g_iconst (pc := 26) X (v := nI 0) d_O_alter_26 (by decide) ?_
  refine g_iconst (pc := 27) X (v := nI 1) d_O_alter_27 (by decide) ?_
  refine g_callVi (pc := 28) (q0 := 0) X (c_O_good_f (m_l M) B a q tp kd rt fl tt cd (nI 1) ) wd_901 wd_903 wp_O_good wd_5 wd_904 hd_O_good [0] rfl rfl [a] (fun _ => rfl) rfl rfl rfl (by rw [hR]; decide) (by rw [hR]; decide) rfl (Nat.le_of_ble_eq_true rfl) d_O_alter_28 (fun r9 _ hr9 => ?_)
  subst hr9
  refine g_wsq [co a 4 [.ref (q 0), .ref (q 1), .ref (q 2), .int (nI tp), .int (nI 1), .ref (q 3), .ref (q 4), .ref (q 5), .ref (q 6), .ref (q 7), .ref (q 8), .ref (q 9), .ref (q 10), .ref (q 11), .ref (q 12), .ref (q 13), .ref (q 14), .ref (q 15), .int (nI kd), .int (nI rt), .int (nI fl), .long (lN tt), .ref (q 16), .ref (q 17)]] rfl ?_
  refine g_if_eqN (pc := 31) X (tgt := 55) d_O_alter_31 (by decide) (by omega) (fun h_31 => ?_) (fun h_31 => absurd h_31 (by omega))
  refine g_iconst (pc := 55) X (v := nI 0) d_O_alter_55 (by decide) ?_
  exact kret _ () _ 56 rfl d_O_alter_56

theorem c_O_alter_b3 (l : Launch) (B : Bx) (a : Nat) (q : Nat → Nat) (tp : Nat) (kd : Nat) (rt : Nat) (fl : Nat) (tt : Nat) (cd : Int32) (ln : Nat → Nat) (i : Nat) (y : Int32) (z : Int32) (h1 : i < 8) (h3 : inR z (nI 0) (nI 255) = nI 1) (h2 : inR y (nI 0) (nI (ln i) - nI 1) = nI 0) : Ci (S := Unit) l B y_O_alter b_O_alter 4 .int (Rm 2 0 0) [.ref a, .int (nI i), .int y, .int z] [co a 4 [.ref (q 0), .ref (q 1), .ref (q 2), .int (nI tp), .int cd, .ref (q 3), .ref (q 4), .ref (q 5), .ref (q 6), .ref (q 7), .ref (q 8), .ref (q 9), .ref (q 10), .ref (q 11), .ref (q 12), .ref (q 13), .ref (q 14), .ref (q 15), .int (nI kd), .int (nI rt), .int (nI fl), .long (lN tt), .ref (q 16), .ref (q 17)], cn B (q 2) 8 (fun z9 => nI (ln z9))] (fun r _ => r = nI 0) (fun _ => [co a 4 [.ref (q 0), .ref (q 1), .ref (q 2), .int (nI tp), .int (nI 2), .ref (q 3), .ref (q 4), .ref (q 5), .ref (q 6), .ref (q 7), .ref (q 8), .ref (q 9), .ref (q 10), .ref (q 11), .ref (q 12), .ref (q 13), .ref (q 14), .ref (q 15), .int (nI kd), .int (nI rt), .int (nI fl), .long (lN tt), .ref (q 16), .ref (q 17)], cn B (q 2) 8 (fun z9 => nI (ln z9))]) := by
  refine ctr_i (by decide) (Nat.le_of_ble_eq_true rfl) ?_
  intro M Q hl hR hin X kret
  subst hl
  refine g_lv [(0, .ref a), (1, .int (nI i)), (2, .int y), (3, .int z)] rfl ?_
  refine g_aload_n (pc := 0) X (i := 0) d_O_alter_0 rfl rfl ?_
  refine g_iload_n (pc := 1) X (i := 1) d_O_alter_1 rfl rfl ?_
  refine g_iconst (pc := 2) X (v := nI 0) d_O_alter_2 (by decide) ?_
  refine g_bipush (pc := 3) X (v := nI 7) d_O_alter_3 (by decide) ?_
  refine g_callSi (pc := 5) X (c_O_in_t (m_l M) B (nI i) (nI 0) (nI 7) (inR_n (by omega) (by omega) (by omega))) wd_913 wd_914 wd_5 wd_915 hd_O_in [] rfl rfl [] (fun _ => rfl) rfl (by rw [hR]; decide) (by rw [hR]; decide) rfl (Nat.le_of_ble_eq_true rfl) d_O_alter_5 (fun r9 _ hr9 => ?_)
  subst hr9
  refine g_wsq [co a 4 [.ref (q 0), .ref (q 1), .ref (q 2), .int (nI tp), .int cd, .ref (q 3), .ref (q 4), .ref (q 5), .ref (q 6), .ref (q 7), .ref (q 8), .ref (q 9), .ref (q 10), .ref (q 11), .ref (q 12), .ref (q 13), .ref (q 14), .ref (q 15), .int (nI kd), .int (nI rt), .int (nI fl), .long (lN tt), .ref (q 16), .ref (q 17)], cn B (q 2) 8 (fun z9 => nI (ln z9))] rfl ?_
  refine g_if_eqN (pc := 8) X (tgt := 26) d_O_alter_8 (by decide) (by omega) (fun h_8 => absurd h_8 (by omega)) (fun h_8 => ?_)
  refine g_iload_n (pc := 11) X (i := 3) d_O_alter_11 rfl rfl ?_
  refine g_iconst (pc := 12) X (v := nI 0) d_O_alter_12 (by decide) ?_
  refine g_sipush (pc := 13) X (v := nI 255) d_O_alter_13 (by decide) ?_
  refine g_callSi (pc := 16) X (c_O_in_t (m_l M) B z (nI 0) (nI 255) h3) wd_913 wd_914 wd_5 wd_915 hd_O_in [] rfl rfl [] (fun _ => rfl) rfl (by rw [hR]; decide) (by rw [hR]; decide) rfl (Nat.le_of_ble_eq_true rfl) d_O_alter_16 (fun r9 _ hr9 => ?_)
  subst hr9
  refine g_wsq [co a 4 [.ref (q 0), .ref (q 1), .ref (q 2), .int (nI tp), .int cd, .ref (q 3), .ref (q 4), .ref (q 5), .ref (q 6), .ref (q 7), .ref (q 8), .ref (q 9), .ref (q 10), .ref (q 11), .ref (q 12), .ref (q 13), .ref (q 14), .ref (q 15), .int (nI kd), .int (nI rt), .int (nI fl), .long (lN tt), .ref (q 16), .ref (q 17)], cn B (q 2) 8 (fun z9 => nI (ln z9))] rfl ?_
  refine g_if_eqN (pc := 19) X (tgt := 26) d_O_alter_19 (by decide) (by omega) (fun h_19 => absurd h_19 (by omega)) (fun h_19 => ?_)
  refine g_iconst (pc := 22) X (v := nI 1) d_O_alter_22 (by decide) ?_
  refine g_goto (pc := 23) X (tgt := 27) d_O_alter_23 (by decide) ?_
  refine g_iconst (pc := 27) X (v := nI 1) d_O_alter_27 (by decide) ?_
  refine g_callVi (pc := 28) (q0 := 0) X (c_O_good_t (m_l M) B a q tp kd rt fl tt cd (nI 1) ) wd_901 wd_903 wp_O_good wd_5 wd_904 hd_O_good [0] rfl rfl [a] (fun _ => rfl) rfl rfl rfl (by rw [hR]; decide) (by rw [hR]; decide) rfl (Nat.le_of_ble_eq_true rfl) d_O_alter_28 (fun r9 _ hr9 => ?_)
  subst hr9
  refine g_wsq [co a 4 [.ref (q 0), .ref (q 1), .ref (q 2), .int (nI tp), .int (nI 0), .ref (q 3), .ref (q 4), .ref (q 5), .ref (q 6), .ref (q 7), .ref (q 8), .ref (q 9), .ref (q 10), .ref (q 11), .ref (q 12), .ref (q 13), .ref (q 14), .ref (q 15), .int (nI kd), .int (nI rt), .int (nI fl), .long (lN tt), .ref (q 16), .ref (q 17)], cn B (q 2) 8 (fun z9 => nI (ln z9))] rfl ?_
  refine g_if_eqN (pc := 31) X (tgt := 55) d_O_alter_31 (by decide) (by omega) (fun h_31 => absurd h_31 (by omega)) (fun h_31 => ?_)
  refine g_aload_n (pc := 34) X (i := 0) d_O_alter_34 rfl rfl ?_
  refine g_iload_n (pc := 35) X (i := 2) d_O_alter_35 rfl rfl ?_
  refine g_iconst (pc := 36) X (v := nI 0) d_O_alter_36 (by decide) ?_
  refine g_aload_n (pc := 37) X (i := 0) d_O_alter_37 rfl rfl ?_
  refine g_get (pc := 38) X in_O 0 rfl rfl 2 (by decide) wd_821 rfl d_O_alter_38 ?_
  refine g_iload_n (pc := 41) X (i := 1) d_O_alter_41 rfl rfl ?_
  refine g_iald (pc := 42) X 1 rfl i rfl (by omega) (by omega) d_O_alter_42 ?_
  refine g_iconst (pc := 43) X (v := nI 1) d_O_alter_43 (by decide) ?_
  refine g_isub (pc := 44) X d_O_alter_44 ?_
  refine g_callSi (pc := 45) X (c_O_in_f (m_l M) B y (nI 0) ((nI (ln i)) - (nI 1)) h2) wd_913 wd_914 wd_5 wd_915 hd_O_in [] rfl rfl [] (fun _ => rfl) rfl (by rw [hR]; decide) (by rw [hR]; decide) rfl (Nat.le_of_ble_eq_true rfl) d_O_alter_45 (fun r9 _ hr9 => ?_)
  subst hr9
  refine g_wsq [co a 4 [.ref (q 0), .ref (q 1), .ref (q 2), .int (nI tp), .int (nI 0), .ref (q 3), .ref (q 4), .ref (q 5), .ref (q 6), .ref (q 7), .ref (q 8), .ref (q 9), .ref (q 10), .ref (q 11), .ref (q 12), .ref (q 13), .ref (q 14), .ref (q 15), .int (nI kd), .int (nI rt), .int (nI fl), .long (lN tt), .ref (q 16), .ref (q 17)], cn B (q 2) 8 (fun z9 => nI (ln z9))] rfl ?_
  refine g_iconst (pc := 48) X (v := nI 2) d_O_alter_48 (by decide) ?_
  refine g_callVi (pc := 49) (q0 := 0) X (c_O_good_f (m_l M) B a q tp kd rt fl tt (nI 0) (nI 2) ) wd_901 wd_903 wp_O_good wd_5 wd_904 hd_O_good [0] rfl rfl [a] (fun _ => rfl) rfl rfl rfl (by rw [hR]; decide) (by rw [hR]; decide) rfl (Nat.le_of_ble_eq_true rfl) d_O_alter_49 (fun r9 _ hr9 => ?_)
  subst hr9
  refine g_wsq [co a 4 [.ref (q 0), .ref (q 1), .ref (q 2), .int (nI tp), .int (nI 2), .ref (q 3), .ref (q 4), .ref (q 5), .ref (q 6), .ref (q 7), .ref (q 8), .ref (q 9), .ref (q 10), .ref (q 11), .ref (q 12), .ref (q 13), .ref (q 14), .ref (q 15), .int (nI kd), .int (nI rt), .int (nI fl), .long (lN tt), .ref (q 16), .ref (q 17)], cn B (q 2) 8 (fun z9 => nI (ln z9))] rfl ?_
  refine g_if_neN (pc := 52) X (tgt := 57) d_O_alter_52 (by decide) (by omega) (fun h_52 => absurd h_52 (by omega)) (fun h_52 => ?_)
  refine g_iconst (pc := 55) X (v := nI 0) d_O_alter_55 (by decide) ?_
  exact kret _ () _ 56 rfl d_O_alter_56

theorem c_O_same_ok (l : Launch) (B : Bx) (a : Nat) (q : Nat → Nat) (tp : Nat) (kd : Nat) (rt : Nat) (fl : Nat) (tt : Nat) (cd : Int32) (ln : Nat → Nat) (i : Nat) (j : Nat) (f : Nat → Int8) (g : Nat → Int8) (h1 : i < 8) (h2 : j < 8) (h3 : ln i ≤ 8192) (h4 : ln i = ln j) : Ci (S := Unit) l B y_O_same b_O_same 5 .boolean (Rm 2 0 0) [.ref a, .int (nI i), .int (nI j)] [co a 4 [.ref (q 0), .ref (q 1), .ref (q 2), .int (nI tp), .int cd, .ref (q 3), .ref (q 4), .ref (q 5), .ref (q 6), .ref (q 7), .ref (q 8), .ref (q 9), .ref (q 10), .ref (q 11), .ref (q 12), .ref (q 13), .ref (q 14), .ref (q 15), .int (nI kd), .int (nI rt), .int (nI fl), .long (lN tt), .ref (q 16), .ref (q 17)], cq B (q 1) 8 (fun z9 => some (q (20 + z9))), cb B (q (20 + i)) 8192 f, cb B (q (20 + j)) 8192 g, cn B (q 2) 8 (fun z9 => nI (ln z9))] (fun r _ => r = it (smR f g) (ln i) (nI 1)) (fun _ => [co a 4 [.ref (q 0), .ref (q 1), .ref (q 2), .int (nI tp), .int (nI 0), .ref (q 3), .ref (q 4), .ref (q 5), .ref (q 6), .ref (q 7), .ref (q 8), .ref (q 9), .ref (q 10), .ref (q 11), .ref (q 12), .ref (q 13), .ref (q 14), .ref (q 15), .int (nI kd), .int (nI rt), .int (nI fl), .long (lN tt), .ref (q 16), .ref (q 17)], cq B (q 1) 8 (fun z9 => some (q (20 + z9))), cb B (q (20 + i)) 8192 f, cb B (q (20 + j)) 8192 g, cn B (q 2) 8 (fun z9 => nI (ln z9))]) := by
  refine ctr_z (by decide) (Nat.le_of_ble_eq_true rfl) ?_
  intro M Q hl hR hin X kret
  subst hl
  refine g_lv [(0, .ref a), (1, .int (nI i)), (2, .int (nI j))] rfl ?_
  refine g_aload_n (pc := 0) X (i := 0) d_O_same_0 rfl rfl ?_
  refine g_iload_n (pc := 1) X (i := 1) d_O_same_1 rfl rfl ?_
  refine g_iconst (pc := 2) X (v := nI 0) d_O_same_2 (by decide) ?_
  refine g_bipush (pc := 3) X (v := nI 7) d_O_same_3 (by decide) ?_
  refine g_callSi (pc := 5) X (c_O_in_t (m_l M) B (nI i) (nI 0) (nI 7) (inR_n (by omega) (by omega) (by omega))) wd_913 wd_914 wd_5 wd_915 hd_O_in [] rfl rfl [] (fun _ => rfl) rfl (by rw [hR]; decide) (by rw [hR]; decide) rfl (Nat.le_of_ble_eq_true rfl) d_O_same_5 (fun r9 _ hr9 => ?_)
  subst hr9
  refine g_wsq [co a 4 [.ref (q 0), .ref (q 1), .ref (q 2), .int (nI tp), .int cd, .ref (q 3), .ref (q 4), .ref (q 5), .ref (q 6), .ref (q 7), .ref (q 8), .ref (q 9), .ref (q 10), .ref (q 11), .ref (q 12), .ref (q 13), .ref (q 14), .ref (q 15), .int (nI kd), .int (nI rt), .int (nI fl), .long (lN tt), .ref (q 16), .ref (q 17)], cq B (q 1) 8 (fun z9 => some (q (20 + z9))), cb B (q (20 + i)) 8192 f, cb B (q (20 + j)) 8192 g, cn B (q 2) 8 (fun z9 => nI (ln z9))] rfl ?_
  refine g_if_eqN (pc := 8) X (tgt := 25) d_O_same_8 (by decide) (by omega) (fun h_8 => absurd h_8 (by omega)) (fun h_8 => ?_)
  refine g_iload_n (pc := 11) X (i := 2) d_O_same_11 rfl rfl ?_
  refine g_iconst (pc := 12) X (v := nI 0) d_O_same_12 (by decide) ?_
  refine g_bipush (pc := 13) X (v := nI 7) d_O_same_13 (by decide) ?_
  refine g_callSi (pc := 15) X (c_O_in_t (m_l M) B (nI j) (nI 0) (nI 7) (inR_n (by omega) (by omega) (by omega))) wd_913 wd_914 wd_5 wd_915 hd_O_in [] rfl rfl [] (fun _ => rfl) rfl (by rw [hR]; decide) (by rw [hR]; decide) rfl (Nat.le_of_ble_eq_true rfl) d_O_same_15 (fun r9 _ hr9 => ?_)
  subst hr9
  refine g_wsq [co a 4 [.ref (q 0), .ref (q 1), .ref (q 2), .int (nI tp), .int cd, .ref (q 3), .ref (q 4), .ref (q 5), .ref (q 6), .ref (q 7), .ref (q 8), .ref (q 9), .ref (q 10), .ref (q 11), .ref (q 12), .ref (q 13), .ref (q 14), .ref (q 15), .int (nI kd), .int (nI rt), .int (nI fl), .long (lN tt), .ref (q 16), .ref (q 17)], cq B (q 1) 8 (fun z9 => some (q (20 + z9))), cb B (q (20 + i)) 8192 f, cb B (q (20 + j)) 8192 g, cn B (q 2) 8 (fun z9 => nI (ln z9))] rfl ?_
  refine g_if_eqN (pc := 18) X (tgt := 25) d_O_same_18 (by decide) (by omega) (fun h_18 => absurd h_18 (by omega)) (fun h_18 => ?_)
  refine g_iconst (pc := 21) X (v := nI 1) d_O_same_21 (by decide) ?_
  refine g_goto (pc := 22) X (tgt := 26) d_O_same_22 (by decide) ?_
  refine g_iconst (pc := 26) X (v := nI 1) d_O_same_26 (by decide) ?_
  refine g_callVi (pc := 27) (q0 := 0) X (c_O_good_t (m_l M) B a q tp kd rt fl tt cd (nI 1) ) wd_901 wd_903 wp_O_good wd_5 wd_904 hd_O_good [0] rfl rfl [a] (fun _ => rfl) rfl rfl rfl (by rw [hR]; decide) (by rw [hR]; decide) rfl (Nat.le_of_ble_eq_true rfl) d_O_same_27 (fun r9 _ hr9 => ?_)
  subst hr9
  refine g_wsq [co a 4 [.ref (q 0), .ref (q 1), .ref (q 2), .int (nI tp), .int (nI 0), .ref (q 3), .ref (q 4), .ref (q 5), .ref (q 6), .ref (q 7), .ref (q 8), .ref (q 9), .ref (q 10), .ref (q 11), .ref (q 12), .ref (q 13), .ref (q 14), .ref (q 15), .int (nI kd), .int (nI rt), .int (nI fl), .long (lN tt), .ref (q 16), .ref (q 17)], cq B (q 1) 8 (fun z9 => some (q (20 + z9))), cb B (q (20 + i)) 8192 f, cb B (q (20 + j)) 8192 g, cn B (q 2) 8 (fun z9 => nI (ln z9))] rfl ?_
  refine g_if_neN (pc := 30) X (tgt := 35) d_O_same_30 (by decide) (by omega) (fun h_30 => ?_) (fun h_30 => absurd h_30 (by omega))
  refine g_aload_n (pc := 35) X (i := 0) d_O_same_35 rfl rfl ?_
  refine g_get (pc := 36) X in_O 0 rfl rfl 2 (by decide) wd_821 rfl d_O_same_36 ?_
  refine g_iload_n (pc := 39) X (i := 1) d_O_same_39 rfl rfl ?_
  refine g_iald (pc := 40) X 4 rfl i rfl (by omega) (by omega) d_O_same_40 ?_
  refine g_aload_n (pc := 41) X (i := 0) d_O_same_41 rfl rfl ?_
  refine g_get (pc := 42) X in_O 0 rfl rfl 2 (by decide) wd_821 rfl d_O_same_42 ?_
  refine g_iload_n (pc := 45) X (i := 2) d_O_same_45 rfl rfl ?_
  refine g_iald (pc := 46) X 4 rfl j rfl (by omega) (by omega) d_O_same_46 ?_
  refine g_icmp_eqN (pc := 47) X (tgt := 52) d_O_same_47 (by decide) (by omega) (by omega) (fun h_47 => ?_) (fun h_47 => absurd h_47 (by omega))
  refine g_iconst (pc := 52) X (v := nI 1) d_O_same_52 (by decide) ?_
  refine g_istore_n (pc := 53) X (i := 3) d_O_same_53 rfl (by decide) ?_
  refine g_lv [(0, .ref a), (1, .int (nI i)), (2, .int (nI j)), (3, .int (nI 1))] rfl ?_
  refine g_iconst (pc := 54) X (v := nI 0) d_O_same_54 (by decide) ?_
  refine g_istore (pc := 55) X d_O_same_55 (by decide) ?_
  refine g_lv [(0, .ref a), (1, .int (nI i)), (2, .int (nI j)), (3, .int (nI 1)), (4, .int (nI 0))] rfl ?_
  refine g_lv [(0, .ref a), (1, .int (nI i)), (2, .int (nI j)), (3, .int (nI 1)), (4, .int (nI 0))] rfl ?_
  refine loopF (σ := Int32) (smR f g) (fun k z => G B M 5 0 0 Q [co a 4 [.ref (q 0), .ref (q 1), .ref (q 2), .int (nI tp), .int (nI 0), .ref (q 3), .ref (q 4), .ref (q 5), .ref (q 6), .ref (q 7), .ref (q 8), .ref (q 9), .ref (q 10), .ref (q 11), .ref (q 12), .ref (q 13), .ref (q 14), .ref (q 15), .int (nI kd), .int (nI rt), .int (nI fl), .long (lN tt), .ref (q 16), .ref (q 17)], cq B (q 1) 8 (fun z9 => some (q (20 + z9))), cb B (q (20 + i)) 8192 f, cb B (q (20 + j)) 8192 g, cn B (q 2) 8 (fun z9 => nI (ln z9))] [(0, .ref a), (1, .int (nI i)), (2, .int (nI j)), (3, .int z), (4, .int (nI k))] 57 []) (ln i) (nI 1) ?_ ?_
  · intro k z hk57 kk57
    show G B M 5 0 0 Q [co a 4 [.ref (q 0), .ref (q 1), .ref (q 2), .int (nI tp), .int (nI 0), .ref (q 3), .ref (q 4), .ref (q 5), .ref (q 6), .ref (q 7), .ref (q 8), .ref (q 9), .ref (q 10), .ref (q 11), .ref (q 12), .ref (q 13), .ref (q 14), .ref (q 15), .int (nI kd), .int (nI rt), .int (nI fl), .long (lN tt), .ref (q 16), .ref (q 17)], cq B (q 1) 8 (fun z9 => some (q (20 + z9))), cb B (q (20 + i)) 8192 f, cb B (q (20 + j)) 8192 g, cn B (q 2) 8 (fun z9 => nI (ln z9))] [(0, .ref a), (1, .int (nI i)), (2, .int (nI j)), (3, .int z), (4, .int (nI k))] 57 []
    refine g_iload (pc := 57) X d_O_same_57 rfl ?_
    refine g_aload_n (pc := 59) X (i := 0) d_O_same_59 rfl rfl ?_
    refine g_get (pc := 60) X in_O 0 rfl rfl 2 (by decide) wd_821 rfl d_O_same_60 ?_
    refine g_iload_n (pc := 63) X (i := 1) d_O_same_63 rfl rfl ?_
    refine g_iald (pc := 64) X 4 rfl i rfl (by omega) (by omega) d_O_same_64 ?_
    refine g_icmp_geN (pc := 65) X (tgt := 97) d_O_same_65 (by decide) (by omega) (by omega) (fun h_65 => absurd h_65 (by omega)) (fun h_65 => ?_)
    refine g_aload_n (pc := 68) X (i := 0) d_O_same_68 rfl rfl ?_
    refine g_get (pc := 69) X in_O 0 rfl rfl 1 (by decide) wd_820 rfl d_O_same_69 ?_
    refine g_iload_n (pc := 72) X (i := 1) d_O_same_72 rfl rfl ?_
    refine g_qald (pc := 73) X 1 rfl i rfl (by omega) (by omega) (r := q (20 + i)) rfl d_O_same_73 ?_
    refine g_iload (pc := 74) X d_O_same_74 rfl ?_
    refine g_bald (pc := 76) X 2 rfl k rfl (by omega) (by omega) d_O_same_76 ?_
    refine g_aload_n (pc := 77) X (i := 0) d_O_same_77 rfl rfl ?_
    refine g_get (pc := 78) X in_O 0 rfl rfl 1 (by decide) wd_820 rfl d_O_same_78 ?_
    refine g_iload_n (pc := 81) X (i := 2) d_O_same_81 rfl rfl ?_
    refine g_qald (pc := 82) X 1 rfl j rfl (by omega) (by omega) (r := q (20 + j)) rfl d_O_same_82 ?_
    refine g_iload (pc := 83) X d_O_same_83 rfl ?_
    refine g_bald (pc := 85) X 3 rfl k rfl (by omega) (by omega) d_O_same_85 ?_
    refine g_icmp_eq (pc := 86) X (tgt := 91) d_O_same_86 (by decide) (fun h_86 => ?_) (fun h_86 => ?_)
    · refine g_iincN (pc := 91) X (a := k) (k + 1) d_O_same_91 rfl 1 rfl (by omega) (by decide) ?_
      refine g_lv [(0, .ref a), (1, .int (nI i)), (2, .int (nI j)), (3, .int z), (4, .int (nI (k + 1)))] rfl ?_
      refine g_goto (pc := 94) X (tgt := 57) d_O_same_94 (by decide) ?_
      refine g_lv [(0, .ref a), (1, .int (nI i)), (2, .int (nI j)), (3, .int z), (4, .int (nI (k + 1)))] rfl ?_
      exact kk57 _ (by unfold smR; first | rw [if_pos (by assumption)] | rw [if_neg (by assumption)])
    · refine g_iconst (pc := 89) X (v := nI 0) d_O_same_89 (by decide) ?_
      refine g_istore_n (pc := 90) X (i := 3) d_O_same_90 rfl (by decide) ?_
      refine g_lv [(0, .ref a), (1, .int (nI i)), (2, .int (nI j)), (3, .int (nI 0)), (4, .int (nI k))] rfl ?_
      refine g_iincN (pc := 91) X (a := k) (k + 1) d_O_same_91 rfl 1 rfl (by omega) (by decide) ?_
      refine g_lv [(0, .ref a), (1, .int (nI i)), (2, .int (nI j)), (3, .int (nI 0)), (4, .int (nI (k + 1)))] rfl ?_
      refine g_goto (pc := 94) X (tgt := 57) d_O_same_94 (by decide) ?_
      refine g_lv [(0, .ref a), (1, .int (nI i)), (2, .int (nI j)), (3, .int (nI 0)), (4, .int (nI (k + 1)))] rfl ?_
      exact kk57 _ (by unfold smR; first | rw [if_pos (by assumption)] | rw [if_neg (by assumption)])
  · show G B M 5 0 0 Q [co a 4 [.ref (q 0), .ref (q 1), .ref (q 2), .int (nI tp), .int (nI 0), .ref (q 3), .ref (q 4), .ref (q 5), .ref (q 6), .ref (q 7), .ref (q 8), .ref (q 9), .ref (q 10), .ref (q 11), .ref (q 12), .ref (q 13), .ref (q 14), .ref (q 15), .int (nI kd), .int (nI rt), .int (nI fl), .long (lN tt), .ref (q 16), .ref (q 17)], cq B (q 1) 8 (fun z9 => some (q (20 + z9))), cb B (q (20 + i)) 8192 f, cb B (q (20 + j)) 8192 g, cn B (q 2) 8 (fun z9 => nI (ln z9))] [(0, .ref a), (1, .int (nI i)), (2, .int (nI j)), (3, .int (it (smR f g) (ln i) (nI 1))), (4, .int (nI (ln i)))] 57 []
    refine g_iload (pc := 57) X d_O_same_57 rfl ?_
    refine g_aload_n (pc := 59) X (i := 0) d_O_same_59 rfl rfl ?_
    refine g_get (pc := 60) X in_O 0 rfl rfl 2 (by decide) wd_821 rfl d_O_same_60 ?_
    refine g_iload_n (pc := 63) X (i := 1) d_O_same_63 rfl rfl ?_
    refine g_iald (pc := 64) X 4 rfl i rfl (by omega) (by omega) d_O_same_64 ?_
    refine g_icmp_geN (pc := 65) X (tgt := 97) d_O_same_65 (by decide) (by omega) (by omega) (fun h_65 => ?_) (fun h_65 => absurd h_65 (by omega))
    refine g_iload_n (pc := 97) X (i := 3) d_O_same_97 rfl rfl ?_
    exact kret _ () _ 98 ⟨smR_nz _ _ _, rfl⟩ d_O_same_98

theorem c_O_same_self (l : Launch) (B : Bx) (a : Nat) (q : Nat → Nat) (tp : Nat) (kd : Nat) (rt : Nat) (fl : Nat) (tt : Nat) (cd : Int32) (ln : Nat → Nat) (i : Nat) (f : Nat → Int8) (h1 : i < 8) (h3 : ln i ≤ 8192) : Ci (S := Unit) l B y_O_same b_O_same 5 .boolean (Rm 2 0 0) [.ref a, .int (nI i), .int (nI i)] [co a 4 [.ref (q 0), .ref (q 1), .ref (q 2), .int (nI tp), .int cd, .ref (q 3), .ref (q 4), .ref (q 5), .ref (q 6), .ref (q 7), .ref (q 8), .ref (q 9), .ref (q 10), .ref (q 11), .ref (q 12), .ref (q 13), .ref (q 14), .ref (q 15), .int (nI kd), .int (nI rt), .int (nI fl), .long (lN tt), .ref (q 16), .ref (q 17)], cq B (q 1) 8 (fun z9 => some (q (20 + z9))), cb B (q (20 + i)) 8192 f, cn B (q 2) 8 (fun z9 => nI (ln z9))] (fun r _ => r = it (smR f f) (ln i) (nI 1)) (fun _ => [co a 4 [.ref (q 0), .ref (q 1), .ref (q 2), .int (nI tp), .int (nI 0), .ref (q 3), .ref (q 4), .ref (q 5), .ref (q 6), .ref (q 7), .ref (q 8), .ref (q 9), .ref (q 10), .ref (q 11), .ref (q 12), .ref (q 13), .ref (q 14), .ref (q 15), .int (nI kd), .int (nI rt), .int (nI fl), .long (lN tt), .ref (q 16), .ref (q 17)], cq B (q 1) 8 (fun z9 => some (q (20 + z9))), cb B (q (20 + i)) 8192 f, cn B (q 2) 8 (fun z9 => nI (ln z9))]) := by
  refine ctr_z (by decide) (Nat.le_of_ble_eq_true rfl) ?_
  intro M Q hl hR hin X kret
  subst hl
  refine g_lv [(0, .ref a), (1, .int (nI i)), (2, .int (nI i))] rfl ?_
  refine g_aload_n (pc := 0) X (i := 0) d_O_same_0 rfl rfl ?_
  refine g_iload_n (pc := 1) X (i := 1) d_O_same_1 rfl rfl ?_
  refine g_iconst (pc := 2) X (v := nI 0) d_O_same_2 (by decide) ?_
  refine g_bipush (pc := 3) X (v := nI 7) d_O_same_3 (by decide) ?_
  refine g_callSi (pc := 5) X (c_O_in_t (m_l M) B (nI i) (nI 0) (nI 7) (inR_n (by omega) (by omega) (by omega))) wd_913 wd_914 wd_5 wd_915 hd_O_in [] rfl rfl [] (fun _ => rfl) rfl (by rw [hR]; decide) (by rw [hR]; decide) rfl (Nat.le_of_ble_eq_true rfl) d_O_same_5 (fun r9 _ hr9 => ?_)
  subst hr9
  refine g_wsq [co a 4 [.ref (q 0), .ref (q 1), .ref (q 2), .int (nI tp), .int cd, .ref (q 3), .ref (q 4), .ref (q 5), .ref (q 6), .ref (q 7), .ref (q 8), .ref (q 9), .ref (q 10), .ref (q 11), .ref (q 12), .ref (q 13), .ref (q 14), .ref (q 15), .int (nI kd), .int (nI rt), .int (nI fl), .long (lN tt), .ref (q 16), .ref (q 17)], cq B (q 1) 8 (fun z9 => some (q (20 + z9))), cb B (q (20 + i)) 8192 f, cn B (q 2) 8 (fun z9 => nI (ln z9))] rfl ?_
  refine g_if_eqN (pc := 8) X (tgt := 25) d_O_same_8 (by decide) (by omega) (fun h_8 => absurd h_8 (by omega)) (fun h_8 => ?_)
  refine g_iload_n (pc := 11) X (i := 2) d_O_same_11 rfl rfl ?_
  refine g_iconst (pc := 12) X (v := nI 0) d_O_same_12 (by decide) ?_
  refine g_bipush (pc := 13) X (v := nI 7) d_O_same_13 (by decide) ?_
  refine g_callSi (pc := 15) X (c_O_in_t (m_l M) B (nI i) (nI 0) (nI 7) (inR_n (by omega) (by omega) (by omega))) wd_913 wd_914 wd_5 wd_915 hd_O_in [] rfl rfl [] (fun _ => rfl) rfl (by rw [hR]; decide) (by rw [hR]; decide) rfl (Nat.le_of_ble_eq_true rfl) d_O_same_15 (fun r9 _ hr9 => ?_)
  subst hr9
  refine g_wsq [co a 4 [.ref (q 0), .ref (q 1), .ref (q 2), .int (nI tp), .int cd, .ref (q 3), .ref (q 4), .ref (q 5), .ref (q 6), .ref (q 7), .ref (q 8), .ref (q 9), .ref (q 10), .ref (q 11), .ref (q 12), .ref (q 13), .ref (q 14), .ref (q 15), .int (nI kd), .int (nI rt), .int (nI fl), .long (lN tt), .ref (q 16), .ref (q 17)], cq B (q 1) 8 (fun z9 => some (q (20 + z9))), cb B (q (20 + i)) 8192 f, cn B (q 2) 8 (fun z9 => nI (ln z9))] rfl ?_
  refine g_if_eqN (pc := 18) X (tgt := 25) d_O_same_18 (by decide) (by omega) (fun h_18 => absurd h_18 (by omega)) (fun h_18 => ?_)
  refine g_iconst (pc := 21) X (v := nI 1) d_O_same_21 (by decide) ?_
  refine g_goto (pc := 22) X (tgt := 26) d_O_same_22 (by decide) ?_
  refine g_iconst (pc := 26) X (v := nI 1) d_O_same_26 (by decide) ?_
  refine g_callVi (pc := 27) (q0 := 0) X (c_O_good_t (m_l M) B a q tp kd rt fl tt cd (nI 1) ) wd_901 wd_903 wp_O_good wd_5 wd_904 hd_O_good [0] rfl rfl [a] (fun _ => rfl) rfl rfl rfl (by rw [hR]; decide) (by rw [hR]; decide) rfl (Nat.le_of_ble_eq_true rfl) d_O_same_27 (fun r9 _ hr9 => ?_)
  subst hr9
  refine g_wsq [co a 4 [.ref (q 0), .ref (q 1), .ref (q 2), .int (nI tp), .int (nI 0), .ref (q 3), .ref (q 4), .ref (q 5), .ref (q 6), .ref (q 7), .ref (q 8), .ref (q 9), .ref (q 10), .ref (q 11), .ref (q 12), .ref (q 13), .ref (q 14), .ref (q 15), .int (nI kd), .int (nI rt), .int (nI fl), .long (lN tt), .ref (q 16), .ref (q 17)], cq B (q 1) 8 (fun z9 => some (q (20 + z9))), cb B (q (20 + i)) 8192 f, cn B (q 2) 8 (fun z9 => nI (ln z9))] rfl ?_
  refine g_if_neN (pc := 30) X (tgt := 35) d_O_same_30 (by decide) (by omega) (fun h_30 => ?_) (fun h_30 => absurd h_30 (by omega))
  refine g_aload_n (pc := 35) X (i := 0) d_O_same_35 rfl rfl ?_
  refine g_get (pc := 36) X in_O 0 rfl rfl 2 (by decide) wd_821 rfl d_O_same_36 ?_
  refine g_iload_n (pc := 39) X (i := 1) d_O_same_39 rfl rfl ?_
  refine g_iald (pc := 40) X 3 rfl i rfl (by omega) (by omega) d_O_same_40 ?_
  refine g_aload_n (pc := 41) X (i := 0) d_O_same_41 rfl rfl ?_
  refine g_get (pc := 42) X in_O 0 rfl rfl 2 (by decide) wd_821 rfl d_O_same_42 ?_
  refine g_iload_n (pc := 45) X (i := 2) d_O_same_45 rfl rfl ?_
  refine g_iald (pc := 46) X 3 rfl i rfl (by omega) (by omega) d_O_same_46 ?_
  refine g_icmp_eqN (pc := 47) X (tgt := 52) d_O_same_47 (by decide) (by omega) (by omega) (fun h_47 => ?_) (fun h_47 => absurd h_47 (by omega))
  refine g_iconst (pc := 52) X (v := nI 1) d_O_same_52 (by decide) ?_
  refine g_istore_n (pc := 53) X (i := 3) d_O_same_53 rfl (by decide) ?_
  refine g_lv [(0, .ref a), (1, .int (nI i)), (2, .int (nI i)), (3, .int (nI 1))] rfl ?_
  refine g_iconst (pc := 54) X (v := nI 0) d_O_same_54 (by decide) ?_
  refine g_istore (pc := 55) X d_O_same_55 (by decide) ?_
  refine g_lv [(0, .ref a), (1, .int (nI i)), (2, .int (nI i)), (3, .int (nI 1)), (4, .int (nI 0))] rfl ?_
  refine g_lv [(0, .ref a), (1, .int (nI i)), (2, .int (nI i)), (3, .int (nI 1)), (4, .int (nI 0))] rfl ?_
  refine loopF (σ := Int32) (smR f f) (fun k z => G B M 5 0 0 Q [co a 4 [.ref (q 0), .ref (q 1), .ref (q 2), .int (nI tp), .int (nI 0), .ref (q 3), .ref (q 4), .ref (q 5), .ref (q 6), .ref (q 7), .ref (q 8), .ref (q 9), .ref (q 10), .ref (q 11), .ref (q 12), .ref (q 13), .ref (q 14), .ref (q 15), .int (nI kd), .int (nI rt), .int (nI fl), .long (lN tt), .ref (q 16), .ref (q 17)], cq B (q 1) 8 (fun z9 => some (q (20 + z9))), cb B (q (20 + i)) 8192 f, cn B (q 2) 8 (fun z9 => nI (ln z9))] [(0, .ref a), (1, .int (nI i)), (2, .int (nI i)), (3, .int z), (4, .int (nI k))] 57 []) (ln i) (nI 1) ?_ ?_
  · intro k z hk57 kk57
    show G B M 5 0 0 Q [co a 4 [.ref (q 0), .ref (q 1), .ref (q 2), .int (nI tp), .int (nI 0), .ref (q 3), .ref (q 4), .ref (q 5), .ref (q 6), .ref (q 7), .ref (q 8), .ref (q 9), .ref (q 10), .ref (q 11), .ref (q 12), .ref (q 13), .ref (q 14), .ref (q 15), .int (nI kd), .int (nI rt), .int (nI fl), .long (lN tt), .ref (q 16), .ref (q 17)], cq B (q 1) 8 (fun z9 => some (q (20 + z9))), cb B (q (20 + i)) 8192 f, cn B (q 2) 8 (fun z9 => nI (ln z9))] [(0, .ref a), (1, .int (nI i)), (2, .int (nI i)), (3, .int z), (4, .int (nI k))] 57 []
    refine g_iload (pc := 57) X d_O_same_57 rfl ?_
    refine g_aload_n (pc := 59) X (i := 0) d_O_same_59 rfl rfl ?_
    refine g_get (pc := 60) X in_O 0 rfl rfl 2 (by decide) wd_821 rfl d_O_same_60 ?_
    refine g_iload_n (pc := 63) X (i := 1) d_O_same_63 rfl rfl ?_
    refine g_iald (pc := 64) X 3 rfl i rfl (by omega) (by omega) d_O_same_64 ?_
    refine g_icmp_geN (pc := 65) X (tgt := 97) d_O_same_65 (by decide) (by omega) (by omega) (fun h_65 => absurd h_65 (by omega)) (fun h_65 => ?_)
    refine g_aload_n (pc := 68) X (i := 0) d_O_same_68 rfl rfl ?_
    refine g_get (pc := 69) X in_O 0 rfl rfl 1 (by decide) wd_820 rfl d_O_same_69 ?_
    refine g_iload_n (pc := 72) X (i := 1) d_O_same_72 rfl rfl ?_
    refine g_qald (pc := 73) X 1 rfl i rfl (by omega) (by omega) (r := q (20 + i)) rfl d_O_same_73 ?_
    refine g_iload (pc := 74) X d_O_same_74 rfl ?_
    refine g_bald (pc := 76) X 2 rfl k rfl (by omega) (by omega) d_O_same_76 ?_
    refine g_aload_n (pc := 77) X (i := 0) d_O_same_77 rfl rfl ?_
    refine g_get (pc := 78) X in_O 0 rfl rfl 1 (by decide) wd_820 rfl d_O_same_78 ?_
    refine g_iload_n (pc := 81) X (i := 2) d_O_same_81 rfl rfl ?_
    refine g_qald (pc := 82) X 1 rfl i rfl (by omega) (by omega) (r := q (20 + i)) rfl d_O_same_82 ?_
    refine g_iload (pc := 83) X d_O_same_83 rfl ?_
    refine g_bald (pc := 85) X 2 rfl k rfl (by omega) (by omega) d_O_same_85 ?_
    refine g_icmp_eq (pc := 86) X (tgt := 91) d_O_same_86 (by decide) (fun h_86 => ?_) (fun h_86 => ?_)
    · refine g_iincN (pc := 91) X (a := k) (k + 1) d_O_same_91 rfl 1 rfl (by omega) (by decide) ?_
      refine g_lv [(0, .ref a), (1, .int (nI i)), (2, .int (nI i)), (3, .int z), (4, .int (nI (k + 1)))] rfl ?_
      refine g_goto (pc := 94) X (tgt := 57) d_O_same_94 (by decide) ?_
      refine g_lv [(0, .ref a), (1, .int (nI i)), (2, .int (nI i)), (3, .int z), (4, .int (nI (k + 1)))] rfl ?_
      exact kk57 _ (by unfold smR; first | rw [if_pos (by assumption)] | rw [if_neg (by assumption)])
    · refine g_iconst (pc := 89) X (v := nI 0) d_O_same_89 (by decide) ?_
      refine g_istore_n (pc := 90) X (i := 3) d_O_same_90 rfl (by decide) ?_
      refine g_lv [(0, .ref a), (1, .int (nI i)), (2, .int (nI i)), (3, .int (nI 0)), (4, .int (nI k))] rfl ?_
      refine g_iincN (pc := 91) X (a := k) (k + 1) d_O_same_91 rfl 1 rfl (by omega) (by decide) ?_
      refine g_lv [(0, .ref a), (1, .int (nI i)), (2, .int (nI i)), (3, .int (nI 0)), (4, .int (nI (k + 1)))] rfl ?_
      refine g_goto (pc := 94) X (tgt := 57) d_O_same_94 (by decide) ?_
      refine g_lv [(0, .ref a), (1, .int (nI i)), (2, .int (nI i)), (3, .int (nI 0)), (4, .int (nI (k + 1)))] rfl ?_
      exact kk57 _ (by unfold smR; first | rw [if_pos (by assumption)] | rw [if_neg (by assumption)])
  · show G B M 5 0 0 Q [co a 4 [.ref (q 0), .ref (q 1), .ref (q 2), .int (nI tp), .int (nI 0), .ref (q 3), .ref (q 4), .ref (q 5), .ref (q 6), .ref (q 7), .ref (q 8), .ref (q 9), .ref (q 10), .ref (q 11), .ref (q 12), .ref (q 13), .ref (q 14), .ref (q 15), .int (nI kd), .int (nI rt), .int (nI fl), .long (lN tt), .ref (q 16), .ref (q 17)], cq B (q 1) 8 (fun z9 => some (q (20 + z9))), cb B (q (20 + i)) 8192 f, cn B (q 2) 8 (fun z9 => nI (ln z9))] [(0, .ref a), (1, .int (nI i)), (2, .int (nI i)), (3, .int (it (smR f f) (ln i) (nI 1))), (4, .int (nI (ln i)))] 57 []
    refine g_iload (pc := 57) X d_O_same_57 rfl ?_
    refine g_aload_n (pc := 59) X (i := 0) d_O_same_59 rfl rfl ?_
    refine g_get (pc := 60) X in_O 0 rfl rfl 2 (by decide) wd_821 rfl d_O_same_60 ?_
    refine g_iload_n (pc := 63) X (i := 1) d_O_same_63 rfl rfl ?_
    refine g_iald (pc := 64) X 3 rfl i rfl (by omega) (by omega) d_O_same_64 ?_
    refine g_icmp_geN (pc := 65) X (tgt := 97) d_O_same_65 (by decide) (by omega) (by omega) (fun h_65 => ?_) (fun h_65 => absurd h_65 (by omega))
    refine g_iload_n (pc := 97) X (i := 3) d_O_same_97 rfl rfl ?_
    exact kret _ () _ 98 ⟨smR_nz _ _ _, rfl⟩ d_O_same_98

theorem c_O_same_ne (l : Launch) (B : Bx) (a : Nat) (q : Nat → Nat) (tp : Nat) (kd : Nat) (rt : Nat) (fl : Nat) (tt : Nat) (cd : Int32) (ln : Nat → Nat) (i : Nat) (j : Nat) (h1 : i < 8) (h2 : j < 8) (h3 : ln i ≤ 8192) (h5 : ln j ≤ 8192) (h4 : ln i ≠ ln j) : Ci (S := Unit) l B y_O_same b_O_same 5 .boolean (Rm 2 0 0) [.ref a, .int (nI i), .int (nI j)] [co a 4 [.ref (q 0), .ref (q 1), .ref (q 2), .int (nI tp), .int cd, .ref (q 3), .ref (q 4), .ref (q 5), .ref (q 6), .ref (q 7), .ref (q 8), .ref (q 9), .ref (q 10), .ref (q 11), .ref (q 12), .ref (q 13), .ref (q 14), .ref (q 15), .int (nI kd), .int (nI rt), .int (nI fl), .long (lN tt), .ref (q 16), .ref (q 17)], cn B (q 2) 8 (fun z9 => nI (ln z9))] (fun r _ => r = nI 0) (fun _ => [co a 4 [.ref (q 0), .ref (q 1), .ref (q 2), .int (nI tp), .int (nI 0), .ref (q 3), .ref (q 4), .ref (q 5), .ref (q 6), .ref (q 7), .ref (q 8), .ref (q 9), .ref (q 10), .ref (q 11), .ref (q 12), .ref (q 13), .ref (q 14), .ref (q 15), .int (nI kd), .int (nI rt), .int (nI fl), .long (lN tt), .ref (q 16), .ref (q 17)], cn B (q 2) 8 (fun z9 => nI (ln z9))]) := by
  refine ctr_z (by decide) (Nat.le_of_ble_eq_true rfl) ?_
  intro M Q hl hR hin X kret
  subst hl
  refine g_lv [(0, .ref a), (1, .int (nI i)), (2, .int (nI j))] rfl ?_
  refine g_aload_n (pc := 0) X (i := 0) d_O_same_0 rfl rfl ?_
  refine g_iload_n (pc := 1) X (i := 1) d_O_same_1 rfl rfl ?_
  refine g_iconst (pc := 2) X (v := nI 0) d_O_same_2 (by decide) ?_
  refine g_bipush (pc := 3) X (v := nI 7) d_O_same_3 (by decide) ?_
  refine g_callSi (pc := 5) X (c_O_in_t (m_l M) B (nI i) (nI 0) (nI 7) (inR_n (by omega) (by omega) (by omega))) wd_913 wd_914 wd_5 wd_915 hd_O_in [] rfl rfl [] (fun _ => rfl) rfl (by rw [hR]; decide) (by rw [hR]; decide) rfl (Nat.le_of_ble_eq_true rfl) d_O_same_5 (fun r9 _ hr9 => ?_)
  subst hr9
  refine g_wsq [co a 4 [.ref (q 0), .ref (q 1), .ref (q 2), .int (nI tp), .int cd, .ref (q 3), .ref (q 4), .ref (q 5), .ref (q 6), .ref (q 7), .ref (q 8), .ref (q 9), .ref (q 10), .ref (q 11), .ref (q 12), .ref (q 13), .ref (q 14), .ref (q 15), .int (nI kd), .int (nI rt), .int (nI fl), .long (lN tt), .ref (q 16), .ref (q 17)], cn B (q 2) 8 (fun z9 => nI (ln z9))] rfl ?_
  refine g_if_eqN (pc := 8) X (tgt := 25) d_O_same_8 (by decide) (by omega) (fun h_8 => absurd h_8 (by omega)) (fun h_8 => ?_)
  refine g_iload_n (pc := 11) X (i := 2) d_O_same_11 rfl rfl ?_
  refine g_iconst (pc := 12) X (v := nI 0) d_O_same_12 (by decide) ?_
  refine g_bipush (pc := 13) X (v := nI 7) d_O_same_13 (by decide) ?_
  refine g_callSi (pc := 15) X (c_O_in_t (m_l M) B (nI j) (nI 0) (nI 7) (inR_n (by omega) (by omega) (by omega))) wd_913 wd_914 wd_5 wd_915 hd_O_in [] rfl rfl [] (fun _ => rfl) rfl (by rw [hR]; decide) (by rw [hR]; decide) rfl (Nat.le_of_ble_eq_true rfl) d_O_same_15 (fun r9 _ hr9 => ?_)
  subst hr9
  refine g_wsq [co a 4 [.ref (q 0), .ref (q 1), .ref (q 2), .int (nI tp), .int cd, .ref (q 3), .ref (q 4), .ref (q 5), .ref (q 6), .ref (q 7), .ref (q 8), .ref (q 9), .ref (q 10), .ref (q 11), .ref (q 12), .ref (q 13), .ref (q 14), .ref (q 15), .int (nI kd), .int (nI rt), .int (nI fl), .long (lN tt), .ref (q 16), .ref (q 17)], cn B (q 2) 8 (fun z9 => nI (ln z9))] rfl ?_
  refine g_if_eqN (pc := 18) X (tgt := 25) d_O_same_18 (by decide) (by omega) (fun h_18 => absurd h_18 (by omega)) (fun h_18 => ?_)
  refine g_iconst (pc := 21) X (v := nI 1) d_O_same_21 (by decide) ?_
  refine g_goto (pc := 22) X (tgt := 26) d_O_same_22 (by decide) ?_
  refine g_iconst (pc := 26) X (v := nI 1) d_O_same_26 (by decide) ?_
  refine g_callVi (pc := 27) (q0 := 0) X (c_O_good_t (m_l M) B a q tp kd rt fl tt cd (nI 1) ) wd_901 wd_903 wp_O_good wd_5 wd_904 hd_O_good [0] rfl rfl [a] (fun _ => rfl) rfl rfl rfl (by rw [hR]; decide) (by rw [hR]; decide) rfl (Nat.le_of_ble_eq_true rfl) d_O_same_27 (fun r9 _ hr9 => ?_)
  subst hr9
  refine g_wsq [co a 4 [.ref (q 0), .ref (q 1), .ref (q 2), .int (nI tp), .int (nI 0), .ref (q 3), .ref (q 4), .ref (q 5), .ref (q 6), .ref (q 7), .ref (q 8), .ref (q 9), .ref (q 10), .ref (q 11), .ref (q 12), .ref (q 13), .ref (q 14), .ref (q 15), .int (nI kd), .int (nI rt), .int (nI fl), .long (lN tt), .ref (q 16), .ref (q 17)], cn B (q 2) 8 (fun z9 => nI (ln z9))] rfl ?_
  refine g_if_neN (pc := 30) X (tgt := 35) d_O_same_30 (by decide) (by omega) (fun h_30 => ?_) (fun h_30 => absurd h_30 (by omega))
  refine g_aload_n (pc := 35) X (i := 0) d_O_same_35 rfl rfl ?_
  refine g_get (pc := 36) X in_O 0 rfl rfl 2 (by decide) wd_821 rfl d_O_same_36 ?_
  refine g_iload_n (pc := 39) X (i := 1) d_O_same_39 rfl rfl ?_
  refine g_iald (pc := 40) X 1 rfl i rfl (by omega) (by omega) d_O_same_40 ?_
  refine g_aload_n (pc := 41) X (i := 0) d_O_same_41 rfl rfl ?_
  refine g_get (pc := 42) X in_O 0 rfl rfl 2 (by decide) wd_821 rfl d_O_same_42 ?_
  refine g_iload_n (pc := 45) X (i := 2) d_O_same_45 rfl rfl ?_
  refine g_iald (pc := 46) X 1 rfl j rfl (by omega) (by omega) d_O_same_46 ?_
  refine g_icmp_eqN (pc := 47) X (tgt := 52) d_O_same_47 (by decide) (by omega) (by omega) (fun h_47 => absurd h_47 (by omega)) (fun h_47 => ?_)
  refine g_iconst (pc := 50) X (v := nI 0) d_O_same_50 (by decide) ?_
  exact kret _ () _ 51 ⟨by rfl, rfl⟩ d_O_same_51
