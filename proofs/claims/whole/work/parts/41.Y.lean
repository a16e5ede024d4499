theorem c_Y_append (l : Launch) (B : Bx) (a : Nat) (d : Nat) (n : Nat) (f : Nat → Int8) (v : Int32) (h1 : n + 4 ≤ 8192) : Cv (S := Unit) l B y_Y_append b_Y_append 3 (Rm 1 0 0) [.ref a, .int v] [co a 1 [.ref d, .int (nI n)], cb B d 8192 f] (fun _ => True) (fun _ => [co a 1 [.ref d, .int (nI (n + 4))], cb B d 8192 (app4 f n v)]) := by
  refine ctr_v (by decide) (Nat.le_of_ble_eq_true rfl) ?_
  intro M Q hl hR hin X kret
  subst hl
  refine g_lv [(0, .ref a), (1, .int v)] rfl ?_
  refine g_bipush (pc := 0) X (v := nI 24) d_Y_append_0 (by decide) ?_
  refine g_istore_n (pc := 2) X (i := 2) d_Y_append_2 rfl (by decide) ?_
  refine g_lv [(0, .ref a), (1, .int v), (2, .int (nI 24))] rfl ?_
  refine g_iload_n (pc := 3) X (i := 2) d_Y_append_3 rfl rfl ?_
  refine g_if_ltN (pc := 4) X (tgt := 36) d_Y_append_4 (by decide) (by omega) ?_
  refine g_aload_n (pc := 7) X (i := 0) d_Y_append_7 rfl rfl ?_
  refine g_get (pc := 8) X in_Y 0 rfl rfl 0 (by decide) wd_38 rfl d_Y_append_8 ?_
  refine g_aload_n (pc := 11) X (i := 0) d_Y_append_11 rfl rfl ?_
  refine g_get (pc := 12) X in_Y 0 rfl rfl 1 (by decide) wd_41 rfl d_Y_append_12 ?_
  refine g_iload_n (pc := 15) X (i := 1) d_Y_append_15 rfl rfl ?_
  refine g_iload_n (pc := 16) X (i := 2) d_Y_append_16 rfl rfl ?_
  refine g_iushr (pc := 17) X (v := ush v (nI 24)) d_Y_append_17 rfl ?_
  refine g_i2b (pc := 18) X d_Y_append_18 rfl ?_
  refine g_bastB (pc := 19) X 1 rfl n rfl (by omega) (by omega) d_Y_append_19 ?_
  refine g_wsq [co a 1 [.ref d, .int (nI n)], cb B d 8192 (va_up f n ((ush v (nI 24)).toInt8))] rfl ?_
  refine g_aload_n (pc := 20) X (i := 0) d_Y_append_20 rfl rfl ?_
  refine g_dup (pc := 21) X d_Y_append_21 rfl ?_
  refine g_get (pc := 22) X in_Y 0 rfl rfl 1 (by decide) wd_41 rfl d_Y_append_22 ?_
  refine g_iconst (pc := 25) X (v := nI 1) d_Y_append_25 (by decide) ?_
  refine g_iaddN (pc := 26) X (n + 1) (by omega) d_Y_append_26 ?_
  refine g_put (pc := 27) X in_Y ty_Y ok_Y nm_Y 0 rfl rfl 1 (by decide) wd_41 rfl rfl rfl (Nat.le_of_ble_eq_true rfl) d_Y_append_27 ?_
  refine g_wsq [co a 1 [.ref d, .int (nI (n + 1))], cb B d 8192 (va_up f n ((ush v (nI 24)).toInt8))] rfl ?_
  refine g_iincD (pc := 30) X (a := 24) 16 d_Y_append_30 rfl 8 rfl (by omega) (by decide) ?_
  refine g_lv [(0, .ref a), (1, .int v), (2, .int (nI 16))] rfl ?_
  refine g_goto (pc := 33) X (tgt := 3) d_Y_append_33 (by decide) ?_
  refine g_iload_n (pc := 3) X (i := 2) d_Y_append_3 rfl rfl ?_
  refine g_if_ltN (pc := 4) X (tgt := 36) d_Y_append_4 (by decide) (by omega) ?_
  refine g_aload_n (pc := 7) X (i := 0) d_Y_append_7 rfl rfl ?_
  refine g_get (pc := 8) X in_Y 0 rfl rfl 0 (by decide) wd_38 rfl d_Y_append_8 ?_
  refine g_aload_n (pc := 11) X (i := 0) d_Y_append_11 rfl rfl ?_
  refine g_get (pc := 12) X in_Y 0 rfl rfl 1 (by decide) wd_41 rfl d_Y_append_12 ?_
  refine g_iload_n (pc := 15) X (i := 1) d_Y_append_15 rfl rfl ?_
  refine g_iload_n (pc := 16) X (i := 2) d_Y_append_16 rfl rfl ?_
  refine g_iushr (pc := 17) X (v := ush v (nI 16)) d_Y_append_17 rfl ?_
  refine g_i2b (pc := 18) X d_Y_append_18 rfl ?_
  refine g_bastB (pc := 19) X 1 rfl (n + 1) rfl (by omega) (by omega) d_Y_append_19 ?_
  refine g_wsq [co a 1 [.ref d, .int (nI (n + 1))], cb B d 8192 (va_up (va_up f n ((ush v (nI 24)).toInt8)) (n + 1) ((ush v (nI 16)).toInt8))] rfl ?_
  refine g_aload_n (pc := 20) X (i := 0) d_Y_append_20 rfl rfl ?_
  refine g_dup (pc := 21) X d_Y_append_21 rfl ?_
  refine g_get (pc := 22) X in_Y 0 rfl rfl 1 (by decide) wd_41 rfl d_Y_append_22 ?_
  refine g_iconst (pc := 25) X (v := nI 1) d_Y_append_25 (by decide) ?_
  refine g_iaddN (pc := 26) X (n + 2) (by omega) d_Y_append_26 ?_
  refine g_put (pc := 27) X in_Y ty_Y ok_Y nm_Y 0 rfl rfl 1 (by decide) wd_41 rfl rfl rfl (Nat.le_of_ble_eq_true rfl) d_Y_append_27 ?_
  refine g_wsq [co a 1 [.ref d, .int (nI (n + 2))], cb B d 8192 (va_up (va_up f n ((ush v (nI 24)).toInt8)) (n + 1) ((ush v (nI 16)).toInt8))] rfl ?_
  refine g_iincD (pc := 30) X (a := 16) 8 d_Y_append_30 rfl 8 rfl (by omega) (by decide) ?_
  refine g_lv [(0, .ref a), (1, .int v), (2, .int (nI 8))] rfl ?_
  refine g_goto (pc := 33) X (tgt := 3) d_Y_append_33 (by decide) ?_
  refine g_iload_n (pc := 3) X (i := 2) d_Y_append_3 rfl rfl ?_
  refine g_if_ltN (pc := 4) X (tgt := 36) d_Y_append_4 (by decide) (by omega) ?_
  refine g_aload_n (pc := 7) X (i := 0) d_Y_append_7 rfl rfl ?_
  refine g_get (pc := 8) X in_Y 0 rfl rfl 0 (by decide) wd_38 rfl d_Y_append_8 ?_
  refine g_aload_n (pc := 11) X (i := 0) d_Y_append_11 rfl rfl ?_
  refine g_get (pc := 12) X in_Y 0 rfl rfl 1 (by decide) wd_41 rfl d_Y_append_12 ?_
  refine g_iload_n (pc := 15) X (i := 1) d_Y_append_15 rfl rfl ?_
  refine g_iload_n (pc := 16) X (i := 2) d_Y_append_16 rfl rfl ?_
  refine g_iushr (pc := 17) X (v := ush v (nI 8)) d_Y_append_17 rfl ?_
  refine g_i2b (pc := 18) X d_Y_append_18 rfl ?_
  refine g_bastB (pc := 19) X 1 rfl (n + 2) rfl (by omega) (by omega) d_Y_append_19 ?_
  refine g_wsq [co a 1 [.ref d, .int (nI (n + 2))], cb B d 8192 (va_up (va_up (va_up f n ((ush v (nI 24)).toInt8)) (n + 1) ((ush v (nI 16)).toInt8)) (n + 2) ((ush v (nI 8)).toInt8))] rfl ?_
  refine g_aload_n (pc := 20) X (i := 0) d_Y_append_20 rfl rfl ?_
  refine g_dup (pc := 21) X d_Y_append_21 rfl ?_
  refine g_get (pc := 22) X in_Y 0 rfl rfl 1 (by decide) wd_41 rfl d_Y_append_22 ?_
  refine g_iconst (pc := 25) X (v := nI 1) d_Y_append_25 (by decide) ?_
  refine g_iaddN (pc := 26) X (n + 3) (by omega) d_Y_append_26 ?_
  refine g_put (pc := 27) X in_Y ty_Y ok_Y nm_Y 0 rfl rfl 1 (by decide) wd_41 rfl rfl rfl (Nat.le_of_ble_eq_true rfl) d_Y_append_27 ?_
  refine g_wsq [co a 1 [.ref d, .int (nI (n + 3))], cb B d 8192 (va_up (va_up (va_up f n ((ush v (nI 24)).toInt8)) (n + 1) ((ush v (nI 16)).toInt8)) (n + 2) ((ush v (nI 8)).toInt8))] rfl ?_
  refine g_iincD (pc := 30) X (a := 8) 0 d_Y_append_30 rfl 8 rfl (by omega) (by decide) ?_
  refine g_lv [(0, .ref a), (1, .int v), (2, .int (nI 0))] rfl ?_
  refine g_goto (pc := 33) X (tgt := 3) d_Y_append_33 (by decide) ?_
  refine g_iload_n (pc := 3) X (i := 2) d_Y_append_3 rfl rfl ?_
  refine g_if_ltN (pc := 4) X (tgt := 36) d_Y_append_4 (by decide) (by omega) ?_
  refine g_aload_n (pc := 7) X (i := 0) d_Y_append_7 rfl rfl ?_
  refine g_get (pc := 8) X in_Y 0 rfl rfl 0 (by decide) wd_38 rfl d_Y_append_8 ?_
  refine g_aload_n (pc := 11) X (i := 0) d_Y_append_11 rfl rfl ?_
  refine g_get (pc := 12) X in_Y 0 rfl rfl 1 (by decide) wd_41 rfl d_Y_append_12 ?_
  refine g_iload_n (pc := 15) X (i := 1) d_Y_append_15 rfl rfl ?_
  refine g_iload_n (pc := 16) X (i := 2) d_Y_append_16 rfl rfl ?_
  refine g_iushr (pc := 17) X (v := ush v (nI 0)) d_Y_append_17 rfl ?_
  refine g_i2b (pc := 18) X d_Y_append_18 rfl ?_
  refine g_bastB (pc := 19) X 1 rfl (n + 3) rfl (by omega) (by omega) d_Y_append_19 ?_
  refine g_wsq [co a 1 [.ref d, .int (nI (n + 3))], cb B d 8192 (va_up (va_up (va_up (va_up f n ((ush v (nI 24)).toInt8)) (n + 1) ((ush v (nI 16)).toInt8)) (n + 2) ((ush v (nI 8)).toInt8)) (n + 3) ((ush v (nI 0)).toInt8))] rfl ?_
  refine g_aload_n (pc := 20) X (i := 0) d_Y_append_20 rfl rfl ?_
  refine g_dup (pc := 21) X d_Y_append_21 rfl ?_
  refine g_get (pc := 22) X in_Y 0 rfl rfl 1 (by decide) wd_41 rfl d_Y_append_22 ?_
  refine g_iconst (pc := 25) X (v := nI 1) d_Y_append_25 (by decide) ?_
  refine g_iaddN (pc := 26) X (n + 4) (by omega) d_Y_append_26 ?_
  refine g_put (pc := 27) X in_Y ty_Y ok_Y nm_Y 0 rfl rfl 1 (by decide) wd_41 rfl rfl rfl (Nat.le_of_ble_eq_true rfl) d_Y_append_27 ?_
  refine g_wsq [co a 1 [.ref d, .int (nI (n + 4))], cb B d 8192 (va_up (va_up (va_up (va_up f n ((ush v (nI 24)).toInt8)) (n + 1) ((ush v (nI 16)).toInt8)) (n + 2) ((ush v (nI 8)).toInt8)) (n + 3) ((ush v (nI 0)).toInt8))] rfl ?_
  refine g_iinc (pc := 30) X (k9 := (-8)) d_Y_append_30 rfl (by decide) (by decide) ?_
  rw [show nI 0 + (-8) = (-8) from by decide]
  refine g_lv [(0, .ref a), (1, .int v), (2, .int (-8 : Int32))] rfl ?_
  refine g_goto (pc := 33) X (tgt := 3) d_Y_append_33 (by decide) ?_
  refine g_iload_n (pc := 3) X (i := 2) d_Y_append_3 rfl rfl ?_
  refine g_if_lt (pc := 4) X (tgt := 36) d_Y_append_4 (by decide) (fun h_4 => ?_) (fun h_4 => absurd h_4 (by decide))
  exact kret () _ 36 trivial d_Y_append_36

theorem c_Y_take (l : Launch) (B : Bx) (a : Nat) (d : Nat) (n : Nat) (b : Nat) (c : Nat) (m : Nat) (k : Nat) (f : Nat → Int8) (g : Nat → Int8) (h1 : k ≤ 8192) : Cv (S := Unit) l B y_Y_take b_Y_take 3 (Rm 2 0 0) [.ref a, .ref b, .int (nI k)] [co a 1 [.ref d, .int (nI n)], cb B d 8192 f, co b 1 [.ref c, .int (nI m)], cb B c 8192 g] (fun _ => True) (fun _ => [co a 1 [.ref d, .int (nI k)], cb B d 8192 (va_cpy g f 0 0 k), co b 1 [.ref c, .int (nI m)], cb B c 8192 g]) := by
  refine ctr_v (by decide) (Nat.le_of_ble_eq_true rfl) ?_
  intro M Q hl hR hin X kret
  subst hl
  refine g_lv [(0, .ref a), (1, .ref b), (2, .int (nI k))] rfl ?_
  refine g_aload_n (pc := 0) X (i := 1) d_Y_take_0 rfl rfl ?_
  refine g_get (pc := 1) X in_Y 2 rfl rfl 0 (by decide) wd_38 rfl d_Y_take_1 ?_
  refine g_iconst (pc := 4) X (v := nI 0) d_Y_take_4 (by decide) ?_
  refine g_aload_n (pc := 5) X (i := 0) d_Y_take_5 rfl rfl ?_
  refine g_get (pc := 6) X in_Y 0 rfl rfl 0 (by decide) wd_38 rfl d_Y_take_6 ?_
  refine g_iconst (pc := 9) X (v := nI 0) d_Y_take_9 (by decide) ?_
  refine g_iload_n (pc := 10) X (i := 2) d_Y_take_10 rfl rfl ?_
  refine g_copyb (pc := 11) X wd_264 wd_266 wd_265 wd_11 3 1 rfl rfl 0 0 k rfl rfl rfl (by omega) (by omega) (by omega) (by omega) (by rw [hR]; decide) (by rw [hR]; decide) d_Y_take_11 ?_
  refine g_wsq [co a 1 [.ref d, .int (nI n)], cb B d 8192 (va_cpy g f 0 0 k), co b 1 [.ref c, .int (nI m)], cb B c 8192 g] rfl ?_
  refine g_aload_n (pc := 14) X (i := 0) d_Y_take_14 rfl rfl ?_
  refine g_iload_n (pc := 15) X (i := 2) d_Y_take_15 rfl rfl ?_
  refine g_put (pc := 16) X in_Y ty_Y ok_Y nm_Y 0 rfl rfl 1 (by decide) wd_41 rfl rfl rfl (Nat.le_of_ble_eq_true rfl) d_Y_take_16 ?_
  refine g_wsq [co a 1 [.ref d, .int (nI k)], cb B d 8192 (va_cpy g f 0 0 k), co b 1 [.ref c, .int (nI m)], cb B c 8192 g] rfl ?_
  exact kret () _ 19 trivial d_Y_take_19

theorem c_Y_take_self (l : Launch) (B : Bx) (a : Nat) (d : Nat) (n : Nat) (k : Nat) (f : Nat → Int8) (h1 : k ≤ 8192) : Cv (S := Unit) l B y_Y_take b_Y_take 3 (Rm 2 0 0) [.ref a, .ref a, .int (nI k)] [co a 1 [.ref d, .int (nI n)], cb B d 8192 f] (fun _ => True) (fun _ => [co a 1 [.ref d, .int (nI k)], cb B d 8192 (va_cpy f f 0 0 k)]) := by
  refine ctr_v (by decide) (Nat.le_of_ble_eq_true rfl) ?_
  intro M Q hl hR hin X kret
  subst hl
  refine g_lv [(0, .ref a), (1, .ref a), (2, .int (nI k))] rfl ?_
  refine g_aload_n (pc := 0) X (i := 1) d_Y_take_0 rfl rfl ?_
  refine g_get (pc := 1) X in_Y 0 rfl rfl 0 (by decide) wd_38 rfl d_Y_take_1 ?_
  refine g_iconst (pc := 4) X (v := nI 0) d_Y_take_4 (by decide) ?_
  refine g_aload_n (pc := 5) X (i := 0) d_Y_take_5 rfl rfl ?_
  refine g_get (pc := 6) X in_Y 0 rfl rfl 0 (by decide) wd_38 rfl d_Y_take_6 ?_
  refine g_iconst (pc := 9) X (v := nI 0) d_Y_take_9 (by decide) ?_
  refine g_iload_n (pc := 10) X (i := 2) d_Y_take_10 rfl rfl ?_
  refine g_copyb (pc := 11) X wd_264 wd_266 wd_265 wd_11 1 1 rfl rfl 0 0 k rfl rfl rfl (by omega) (by omega) (by omega) (by omega) (by rw [hR]; decide) (by rw [hR]; decide) d_Y_take_11 ?_
  refine g_wsq [co a 1 [.ref d, .int (nI n)], cb B d 8192 (va_cpy f f 0 0 k)] rfl ?_
  refine g_aload_n (pc := 14) X (i := 0) d_Y_take_14 rfl rfl ?_
  refine g_iload_n (pc := 15) X (i := 2) d_Y_take_15 rfl rfl ?_
  refine g_put (pc := 16) X in_Y ty_Y ok_Y nm_Y 0 rfl rfl 1 (by decide) wd_41 rfl rfl rfl (Nat.le_of_ble_eq_true rfl) d_Y_take_16 ?_
  refine g_wsq [co a 1 [.ref d, .int (nI k)], cb B d 8192 (va_cpy f f 0 0 k)] rfl ?_
  exact kret () _ 19 trivial d_Y_take_19

theorem c_Y_cutOrFill (l : Launch) (B : Bx) (a : Nat) (d : Nat) (n : Nat) (k : Nat) (f : Nat → Int8) (h0 : n ≤ 8192) (h1 : k ≤ 8192) : Cv (S := Unit) l B y_Y_cutOrFill b_Y_cutOrFill 2 (Rm 3 0 0) [.ref a, .int (nI k)] [co a 1 [.ref d, .int (nI n)], cb B d 8192 f] (fun _ => True) (fun _ => [co a 1 [.ref d, .int (nI k)], cb B d 8192 (if n < k then fil f n k (nI 0).toInt8 else f)]) := by
  refine ctr_v (by decide) (Nat.le_of_ble_eq_true rfl) ?_
  intro M Q hl hR hin X kret
  subst hl
  refine g_lv [(0, .ref a), (1, .int (nI k))] rfl ?_
  refine g_iload_n (pc := 0) X (i := 1) d_Y_cutOrFill_0 rfl rfl ?_
  refine g_aload_n (pc := 1) X (i := 0) d_Y_cutOrFill_1 rfl rfl ?_
  refine g_get (pc := 2) X in_Y 0 rfl rfl 1 (by decide) wd_41 rfl d_Y_cutOrFill_2 ?_
  refine g_icmp_leN (pc := 5) X (tgt := 21) d_Y_cutOrFill_5 (by decide) (by omega) (by omega) (fun h_5 => ?_) (fun h_5 => ?_)
  · refine g_aload_n (pc := 21) X (i := 0) d_Y_cutOrFill_21 rfl rfl ?_
    refine g_iload_n (pc := 22) X (i := 1) d_Y_cutOrFill_22 rfl rfl ?_
    refine g_put (pc := 23) X in_Y ty_Y ok_Y nm_Y 0 rfl rfl 1 (by decide) wd_41 rfl rfl rfl (Nat.le_of_ble_eq_true rfl) d_Y_cutOrFill_23 ?_
    refine g_wsq [co a 1 [.ref d, .int (nI k)], cb B d 8192 f] rfl ?_
    refine g_wsq [co a 1 [.ref d, .int (nI k)], cb B d 8192 (if n < k then fil f n k (nI 0).toInt8 else f)] (by first | (rw [if_pos (by omega)] <;> rfl) | (rw [if_neg (by omega)] <;> rfl)) ?_
    exact kret () _ 26 trivial d_Y_cutOrFill_26
  · refine g_aload_n (pc := 8) X (i := 0) d_Y_cutOrFill_8 rfl rfl ?_
    refine g_get (pc := 9) X in_Y 0 rfl rfl 0 (by decide) wd_38 rfl d_Y_cutOrFill_9 ?_
    refine g_aload_n (pc := 12) X (i := 0) d_Y_cutOrFill_12 rfl rfl ?_
    refine g_get (pc := 13) X in_Y 0 rfl rfl 1 (by decide) wd_41 rfl d_Y_cutOrFill_13 ?_
    refine g_iload_n (pc := 16) X (i := 1) d_Y_cutOrFill_16 rfl rfl ?_
    refine g_iconst (pc := 17) X (v := nI 0) d_Y_cutOrFill_17 (by decide) ?_
    refine g_callSv (pc := 18) X (c_J_fill (m_l M) B d 8192 n k f (nI 0) (by omega) (by omega) (by omega)) wd_285 wd_286 wd_12 wd_287 hd_J_fill [1] rfl rfl [d] (fun _ => rfl) rfl (by rw [hR]; decide) (by rw [hR]; decide) rfl (Nat.le_of_ble_eq_true rfl) d_Y_cutOrFill_18 (fun _ _ => ?_)
    refine g_wsq [co a 1 [.ref d, .int (nI n)], cb B d 8192 (fil f n k (nI 0).toInt8)] rfl ?_
    refine g_aload_n (pc := 21) X (i := 0) d_Y_cutOrFill_21 rfl rfl ?_
    refine g_iload_n (pc := 22) X (i := 1) d_Y_cutOrFill_22 rfl rfl ?_
    refine g_put (pc := 23) X in_Y ty_Y ok_Y nm_Y 0 rfl rfl 1 (by decide) wd_41 rfl rfl rfl (Nat.le_of_ble_eq_true rfl) d_Y_cutOrFill_23 ?_
    refine g_wsq [co a 1 [.ref d, .int (nI k)], cb B d 8192 (fil f n k (nI 0).toInt8)] rfl ?_
    refine g_wsq [co a 1 [.ref d, .int (nI k)], cb B d 8192 (if n < k then fil f n k (nI 0).toInt8 else f)] (by first | (rw [if_pos (by omega)] <;> rfl) | (rw [if_neg (by omega)] <;> rfl)) ?_
    exact kret () _ 26 trivial d_Y_cutOrFill_26

theorem c_Y_eightFrom (l : Launch) (B : Bx) (a : Nat) (d : Nat) (n : Nat) (i : Nat) (f : Nat → Int8) (h0 : n ≤ 8192) (h1 : i ≤ 8192) : Cl (S := Unit) l B y_Y_eightFrom b_Y_eightFrom 6 (Rm 1 0 0) [.ref a, .int (nI i)] [co a 1 [.ref d, .int (nI n)], cb B d 8192 f] (fun r _ => r = it (eig f n i) 8 0) (fun _ => [co a 1 [.ref d, .int (nI n)], cb B d 8192 f]) := by
  refine ctr_l (by decide) (Nat.le_of_ble_eq_true rfl) ?_
  intro M Q hl hR hin X kret
  subst hl
  refine g_lv [(0, .ref a), (1, .int (nI i))] rfl ?_
  refine g_lconst (pc := 0) X (v := 0) d_Y_eightFrom_0 (by decide) ?_
  refine g_lstore_n (pc := 1) X (i := 2) d_Y_eightFrom_1 rfl (by decide) ?_
  refine g_lv [(0, .ref a), (1, .int (nI i)), (2, .long 0)] rfl ?_
  refine g_iconst (pc := 2) X (v := nI 0) d_Y_eightFrom_2 (by decide) ?_
  refine g_istore (pc := 3) X d_Y_eightFrom_3 (by decide) ?_
  refine g_lv [(0, .ref a), (1, .int (nI i)), (2, .long 0), (4, .int (nI 0))] rfl ?_
  refine g_lv [(0, .ref a), (1, .int (nI i)), (2, .long 0), (4, .int (nI 0))] rfl ?_
  refine loopF (σ := Int64) (eig f n i) (fun k s => G B M 6 0 0 Q [co a 1 [.ref d, .int (nI n)], cb B d 8192 f] [(0, .ref a), (1, .int (nI i)), (2, .long s), (4, .int (nI k))] 5 []) 8 0 ?_ ?_
  · intro k s hk5 kk5
    show G B M 6 0 0 Q [co a 1 [.ref d, .int (nI n)], cb B d 8192 f] [(0, .ref a), (1, .int (nI i)), (2, .long s), (4, .int (nI k))] 5 []
    refine g_iload (pc := 5) X d_Y_eightFrom_5 rfl ?_
    refine g_bipush (pc := 7) X (v := nI 8) d_Y_eightFrom_7 (by decide) ?_
    refine g_icmp_geN (pc := 9) X (tgt := 57) d_Y_eightFrom_9 (by decide) (by omega) (by omega) (fun h_9 => absurd h_9 (by omega)) (fun h_9 => ?_)
    refine g_iload_n (pc := 12) X (i := 1) d_Y_eightFrom_12 rfl rfl ?_
    refine g_iload (pc := 13) X d_Y_eightFrom_13 rfl ?_
    refine g_iaddN (pc := 15) X (i + k) (by omega) d_Y_eightFrom_15 ?_
    refine g_aload_n (pc := 16) X (i := 0) d_Y_eightFrom_16 rfl rfl ?_
    refine g_get (pc := 17) X in_Y 0 rfl rfl 1 (by decide) wd_41 rfl d_Y_eightFrom_17 ?_
    refine g_icmp_geN (pc := 20) X (tgt := 39) d_Y_eightFrom_20 (by decide) (by omega) (by omega) (fun h_20 => ?_) (fun h_20 => ?_)
    · refine g_iconst (pc := 39) X (v := nI 0) d_Y_eightFrom_39 (by decide) ?_
      refine g_istore (pc := 40) X d_Y_eightFrom_40 (by decide) ?_
      refine g_lv [(0, .ref a), (1, .int (nI i)), (2, .long s), (4, .int (nI k)), (5, .int (nI 0))] rfl ?_
      refine g_lload_n (pc := 42) X (i := 2) d_Y_eightFrom_42 rfl rfl ?_
      refine g_bipush (pc := 43) X (v := nI 8) d_Y_eightFrom_43 (by decide) ?_
      refine g_lshl (pc := 45) X (v := lshl s (nI 8)) d_Y_eightFrom_45 rfl ?_
      refine g_iload (pc := 46) X d_Y_eightFrom_46 rfl ?_
      refine g_i2l (pc := 48) X (v := lN 0) d_Y_eightFrom_48 (nI_l (by omega)) ?_
      refine g_lor (pc := 49) X d_Y_eightFrom_49 ?_
      refine g_lstore_n (pc := 50) X (i := 2) d_Y_eightFrom_50 rfl (by decide) ?_
      refine g_lv [(0, .ref a), (1, .int (nI i)), (2, .long ((lshl s (nI 8)) ||| (lN 0))), (4, .int (nI k)), (5, .int (nI 0))] rfl ?_
      refine g_iincN (pc := 51) X (a := k) (k + 1) d_Y_eightFrom_51 rfl 1 rfl (by omega) (by decide) ?_
      refine g_lv [(0, .ref a), (1, .int (nI i)), (2, .long ((lshl s (nI 8)) ||| (lN 0))), (4, .int (nI (k + 1))), (5, .int (nI 0))] rfl ?_
      refine g_goto (pc := 54) X (tgt := 5) d_Y_eightFrom_54 (by decide) ?_
      refine g_lv [(0, .ref a), (1, .int (nI i)), (2, .long ((lshl s (nI 8)) ||| (lN 0))), (4, .int (nI (k + 1)))] rfl ?_
      exact kk5 _ (by unfold eig ub; first | rw [if_pos (by omega)] | (rw [if_neg (by omega)]; rfl))
    · refine g_aload_n (pc := 23) X (i := 0) d_Y_eightFrom_23 rfl rfl ?_
      refine g_get (pc := 24) X in_Y 0 rfl rfl 0 (by decide) wd_38 rfl d_Y_eightFrom_24 ?_
      refine g_iload_n (pc := 27) X (i := 1) d_Y_eightFrom_27 rfl rfl ?_
      refine g_iload (pc := 28) X d_Y_eightFrom_28 rfl ?_
      refine g_iaddN (pc := 30) X (i + k) (by omega) d_Y_eightFrom_30 ?_
      refine g_bald (pc := 31) X 1 rfl (i + k) rfl (by omega) (by omega) d_Y_eightFrom_31 ?_
      refine g_sipush (pc := 32) X (v := nI 255) d_Y_eightFrom_32 (by decide) ?_
      refine g_iand (pc := 35) X d_Y_eightFrom_35 ?_
      refine g_goto (pc := 36) X (tgt := 40) d_Y_eightFrom_36 (by decide) ?_
      refine g_istore (pc := 40) X d_Y_eightFrom_40 (by decide) ?_
      refine g_lv [(0, .ref a), (1, .int (nI i)), (2, .long s), (4, .int (nI k)), (5, .int (((f (i + k)).toInt32) &&& (nI 255)))] rfl ?_
      refine g_lload_n (pc := 42) X (i := 2) d_Y_eightFrom_42 rfl rfl ?_
      refine g_bipush (pc := 43) X (v := nI 8) d_Y_eightFrom_43 (by decide) ?_
      refine g_lshl (pc := 45) X (v := lshl s (nI 8)) d_Y_eightFrom_45 rfl ?_
      refine g_iload (pc := 46) X d_Y_eightFrom_46 rfl ?_
      refine g_i2l (pc := 48) X d_Y_eightFrom_48 rfl ?_
      refine g_lor (pc := 49) X d_Y_eightFrom_49 ?_
      refine g_lstore_n (pc := 50) X (i := 2) d_Y_eightFrom_50 rfl (by decide) ?_
      refine g_lv [(0, .ref a), (1, .int (nI i)), (2, .long ((lshl s (nI 8)) ||| ((((f (i + k)).toInt32) &&& (nI 255)).toInt64))), (4, .int (nI k)), (5, .int (((f (i + k)).toInt32) &&& (nI 255)))] rfl ?_
      refine g_iincN (pc := 51) X (a := k) (k + 1) d_Y_eightFrom_51 rfl 1 rfl (by omega) (by decide) ?_
      refine g_lv [(0, .ref a), (1, .int (nI i)), (2, .long ((lshl s (nI 8)) ||| ((((f (i + k)).toInt32) &&& (nI 255)).toInt64))), (4, .int (nI (k + 1))), (5, .int (((f (i + k)).toInt32) &&& (nI 255)))] rfl ?_
      refine g_goto (pc := 54) X (tgt := 5) d_Y_eightFrom_54 (by decide) ?_
      refine g_lv [(0, .ref a), (1, .int (nI i)), (2, .long ((lshl s (nI 8)) ||| ((((f (i + k)).toInt32) &&& (nI 255)).toInt64))), (4, .int (nI (k + 1)))] rfl ?_
      exact kk5 _ (by unfold eig ub; first | rw [if_pos (by omega)] | (rw [if_neg (by omega)]; rfl))
  · show G B M 6 0 0 Q [co a 1 [.ref d, .int (nI n)], cb B d 8192 f] [(0, .ref a), (1, .int (nI i)), (2, .long (it (eig f n i) 8 0)), (4, .int (nI 8))] 5 []
    refine g_iload (pc := 5) X d_Y_eightFrom_5 rfl ?_
    refine g_bipush (pc := 7) X (v := nI 8) d_Y_eightFrom_7 (by decide) ?_
    refine g_icmp_geN (pc := 9) X (tgt := 57) d_Y_eightFrom_9 (by decide) (by omega) (by omega) (fun h_9 => ?_) (fun h_9 => absurd h_9 (by omega))
    refine g_lload_n (pc := 57) X (i := 2) d_Y_eightFrom_57 rfl rfl ?_
    exact kret _ () _ 58 rfl d_Y_eightFrom_58
