theorem c_D_digest_1 (l : Launch) (B : Bx) (da : Nat) (q : Nat → Nat) (v : Bool) (tt : Nat) (mt : Nat) (h : H4) (n : Nat) (m : Nat) (n9 : Nat) (x : Nat → Int8) (o : Nat → Int8) (h1 : n ≤ 8192) (h2 : 32 ≤ 8 * wbN v) (h9 : n9 ≤ 8192) : Ci (S := Unit) l B y_D_digest b_D_digest 3 .int (Rm 8 0 0) [.ref da, .int (nI 1), .int (nI n9)] [co da 3 [.ref (q 0), .ref (q 1), .ref (q 3), .ref (q 7), .ref (q 12), .ref (q 17), .ref (q 18), .ref (q 19), .ref (q 20)], cr B (q 0) 8 (fun z9 => some (q (21 + 2 * z9))), co (q 27) 1 [.ref (q 28), .int (nI n)], cb B (q 28) 8192 x, co (q 33) 1 [.ref (q 34), .int (nI m)], cb B (q 34) 8192 o, co (q 7) 0 [.int (nI (wbN v)), .int (nI (8 * wbN v)), .int (nI (rdN v)), .ref (b_t B (dk v)), .long (mk9 v), .int (nI (16 * wbN v)), .int (nI (8 * wbN v)), .ref (q 8), .ref (q 9), .ref (q 10), .ref (q 11), .int (nI h.2.1), .long (lN tt), .long (lN mt)], cb B (q 8) (16 * wbN v) h.1, cj B (q 9) 8 h.2.2.1, cj B (q 10) (rdN v) h.2.2.2] (fun r _ => r = nI 32) (fun _ => [co da 3 [.ref (q 0), .ref (q 1), .ref (q 3), .ref (q 7), .ref (q 12), .ref (q 17), .ref (q 18), .ref (q 19), .ref (q 20)], cr B (q 0) 8 (fun z9 => some (q (21 + 2 * z9))), co (q 27) 1 [.ref (q 28), .int (nI n)], cb B (q 28) 8192 x, co (q 33) 1 [.ref (q 34), .int (nI 32)], cb B (q 34) 8192 (wrS v (hsh v 2 x n h).2.2.1 o 0 32), co (q 7) 0 [.int (nI (wbN v)), .int (nI (8 * wbN v)), .int (nI (rdN v)), .ref (b_t B (dk v)), .long (mk9 v), .int (nI (16 * wbN v)), .int (nI (8 * wbN v)), .ref (q 8), .ref (q 9), .ref (q 10), .ref (q 11), .int (nI ((hsh v 2 x n h).2.1)), .long (lN (0 + n)), .long (lN mt)], cb B (q 8) (16 * wbN v) ((hsh v 2 x n h).1), cj B (q 9) 8 ((hsh v 2 x n h).2.2.1), cj B (q 10) (rdN v) ((hsh v 2 x n h).2.2.2)]) := by
  refine ctr_i (by decide) (Nat.le_of_ble_eq_true rfl) ?_
  intro M Q hl hR hin X kret
  subst hl
  refine g_lv [(0, .ref da), (1, .int (nI 1)), (2, .int (nI n9))] rfl ?_
  refine g_iload_n (pc := 0) X (i := 1) d_D_digest_0 rfl rfl ?_
  refine g_iconst (pc := 1) X (v := nI 1) d_D_digest_1 (by decide) ?_
  refine g_bipush (pc := 2) X (v := nI 16) d_D_digest_2 (by decide) ?_
  refine g_callSv (pc := 4) X (c_D_requireWithin (m_l M) B 1 1 16 (by omega) (by omega) (by omega)) wd_240 wd_241 wd_1 wd_242 hd_D_requireWithin [] rfl rfl [] (fun _ => rfl) rfl (by rw [hR]; decide) (by rw [hR]; decide) rfl (Nat.le_of_ble_eq_true rfl) d_D_digest_4 (fun _ _ => ?_)
  refine g_wsq [co da 3 [.ref (q 0), .ref (q 1), .ref (q 3), .ref (q 7), .ref (q 12), .ref (q 17), .ref (q 18), .ref (q 19), .ref (q 20)], cr B (q 0) 8 (fun z9 => some (q (21 + 2 * z9))), co (q 27) 1 [.ref (q 28), .int (nI n)], cb B (q 28) 8192 x, co (q 33) 1 [.ref (q 34), .int (nI m)], cb B (q 34) 8192 o, co (q 7) 0 [.int (nI (wbN v)), .int (nI (8 * wbN v)), .int (nI (rdN v)), .ref (b_t B (dk v)), .long (mk9 v), .int (nI (16 * wbN v)), .int (nI (8 * wbN v)), .ref (q 8), .ref (q 9), .ref (q 10), .ref (q 11), .int (nI h.2.1), .long (lN tt), .long (lN mt)], cb B (q 8) (16 * wbN v) h.1, cj B (q 9) 8 h.2.2.1, cj B (q 10) (rdN v) h.2.2.2] rfl ?_
  refine g_iload_n (pc := 7) X (i := 2) d_D_digest_7 rfl rfl ?_
  refine g_iconst (pc := 8) X (v := nI 0) d_D_digest_8 (by decide) ?_
  refine g_sipush (pc := 9) X (v := nI 8192) d_D_digest_9 (by decide) ?_
  refine g_callSv (pc := 12) X (c_D_requireWithin (m_l M) B n9 0 8192 (by omega) (by omega) (by omega)) wd_240 wd_241 wd_1 wd_242 hd_D_requireWithin [] rfl rfl [] (fun _ => rfl) rfl (by rw [hR]; decide) (by rw [hR]; decide) rfl (Nat.le_of_ble_eq_true rfl) d_D_digest_12 (fun _ _ => ?_)
  refine g_wsq [co da 3 [.ref (q 0), .ref (q 1), .ref (q 3), .ref (q 7), .ref (q 12), .ref (q 17), .ref (q 18), .ref (q 19), .ref (q 20)], cr B (q 0) 8 (fun z9 => some (q (21 + 2 * z9))), co (q 27) 1 [.ref (q 28), .int (nI n)], cb B (q 28) 8192 x, co (q 33) 1 [.ref (q 34), .int (nI m)], cb B (q 34) 8192 o, co (q 7) 0 [.int (nI (wbN v)), .int (nI (8 * wbN v)), .int (nI (rdN v)), .ref (b_t B (dk v)), .long (mk9 v), .int (nI (16 * wbN v)), .int (nI (8 * wbN v)), .ref (q 8), .ref (q 9), .ref (q 10), .ref (q 11), .int (nI h.2.1), .long (lN tt), .long (lN mt)], cb B (q 8) (16 * wbN v) h.1, cj B (q 9) 8 h.2.2.1, cj B (q 10) (rdN v) h.2.2.2] rfl ?_
  refine g_iload_n (pc := 15) X (i := 1) d_D_digest_15 rfl rfl ?_
  refine g_tableIn (pc := 16) X (tgt := 92) d_D_digest_16 (by decide) (by decide) rfl (by decide) ?_
  refine g_aload_n (pc := 92) X (i := 0) d_D_digest_92 rfl rfl ?_
  refine g_aload_n (pc := 93) X (i := 0) d_D_digest_93 rfl rfl ?_
  refine g_get (pc := 94) X in_D 0 rfl rfl 3 (by decide) wd_124 rfl d_D_digest_94 ?_
  refine g_gets (pc := 97) X 2 (by decide) wd_597 d_D_digest_97 ?_
  refine g_bipush (pc := 100) X (v := nI 32) d_D_digest_100 (by decide) ?_
  refine g_callVv (pc := 102) (q0 := 0) X (c_D_hashInBlocks (m_l M) B da q v (q 7) (q 8) (q 9) (q 10) (q 11) tt mt h 2 n m 32 x o (by decide) rfl rfl (by omega) (by omega)) wd_599 wd_601 wp_D_hashInBlocks wd_1 wd_602 hd_D_hashInBlocks [0, 1, 2, 3, 4, 5, 6, 7, 8, 9] rfl rfl [da, q 0, q 27, q 28, q 33, q 34, q 7, q 8, q 9, q 10] (fun _ => rfl) rfl rfl rfl (by rw [hR]; decide) (by rw [hR]; decide) rfl (Nat.le_of_ble_eq_true rfl) d_D_digest_102 (fun _ _ => ?_)
  refine g_wsq [co da 3 [.ref (q 0), .ref (q 1), .ref (q 3), .ref (q 7), .ref (q 12), .ref (q 17), .ref (q 18), .ref (q 19), .ref (q 20)], cr B (q 0) 8 (fun z9 => some (q (21 + 2 * z9))), co (q 27) 1 [.ref (q 28), .int (nI n)], cb B (q 28) 8192 x, co (q 33) 1 [.ref (q 34), .int (nI 32)], cb B (q 34) 8192 (wrS v (hsh v 2 x n h).2.2.1 o 0 32), co (q 7) 0 [.int (nI (wbN v)), .int (nI (8 * wbN v)), .int (nI (rdN v)), .ref (b_t B (dk v)), .long (mk9 v), .int (nI (16 * wbN v)), .int (nI (8 * wbN v)), .ref (q 8), .ref (q 9), .ref (q 10), .ref (q 11), .int (nI ((hsh v 2 x n h).2.1)), .long (lN (0 + n)), .long (lN mt)], cb B (q 8) (16 * wbN v) ((hsh v 2 x n h).1), cj B (q 9) 8 ((hsh v 2 x n h).2.2.1), cj B (q 10) (rdN v) ((hsh v 2 x n h).2.2.2)] rfl ?_
  refine g_goto (pc := 105) X (tgt := 323) d_D_digest_105 (by decide) ?_
  refine g_aload_n (pc := 323) X (i := 0) d_D_digest_323 rfl rfl ?_
  refine g_get (pc := 324) X in_D 0 rfl rfl 0 (by decide) wd_121 rfl d_D_digest_324 ?_
  refine g_bipush (pc := 327) X (v := nI 6) d_D_digest_327 (by decide) ?_
  refine g_rald (pc := 329) X 1 rfl 6 rfl (by omega) (by omega) (r := q 33) rfl d_D_digest_329 ?_
  refine g_getN (pc := 330) X in_Y 4 rfl rfl 1 (by decide) wn_2 rfl d_D_digest_330 ?_
  exact kret _ () _ 333 rfl d_D_digest_333

theorem c_D_digest_2 (l : Launch) (B : Bx) (da : Nat) (q : Nat → Nat) (v : Bool) (tt : Nat) (mt : Nat) (h : H4) (n : Nat) (m : Nat) (n9 : Nat) (x : Nat → Int8) (o : Nat → Int8) (h1 : n ≤ 8192) (h2 : 48 ≤ 8 * wbN v) (h9 : n9 ≤ 8192) : Ci (S := Unit) l B y_D_digest b_D_digest 3 .int (Rm 8 0 0) [.ref da, .int (nI 2), .int (nI n9)] [co da 3 [.ref (q 0), .ref (q 1), .ref (q 3), .ref (q 7), .ref (q 12), .ref (q 17), .ref (q 18), .ref (q 19), .ref (q 20)], cr B (q 0) 8 (fun z9 => some (q (21 + 2 * z9))), co (q 27) 1 [.ref (q 28), .int (nI n)], cb B (q 28) 8192 x, co (q 33) 1 [.ref (q 34), .int (nI m)], cb B (q 34) 8192 o, co (q 12) 0 [.int (nI (wbN v)), .int (nI (8 * wbN v)), .int (nI (rdN v)), .ref (b_t B (dk v)), .long (mk9 v), .int (nI (16 * wbN v)), .int (nI (8 * wbN v)), .ref (q 13), .ref (q 14), .ref (q 15), .ref (q 16), .int (nI h.2.1), .long (lN tt), .long (lN mt)], cb B (q 13) (16 * wbN v) h.1, cj B (q 14) 8 h.2.2.1, cj B (q 15) (rdN v) h.2.2.2] (fun r _ => r = nI 48) (fun _ => [co da 3 [.ref (q 0), .ref (q 1), .ref (q 3), .ref (q 7), .ref (q 12), .ref (q 17), .ref (q 18), .ref (q 19), .ref (q 20)], cr B (q 0) 8 (fun z9 => some (q (21 + 2 * z9))), co (q 27) 1 [.ref (q 28), .int (nI n)], cb B (q 28) 8192 x, co (q 33) 1 [.ref (q 34), .int (nI 48)], cb B (q 34) 8192 (wrS v (hsh v 5 x n h).2.2.1 o 0 48), co (q 12) 0 [.int (nI (wbN v)), .int (nI (8 * wbN v)), .int (nI (rdN v)), .ref (b_t B (dk v)), .long (mk9 v), .int (nI (16 * wbN v)), .int (nI (8 * wbN v)), .ref (q 13), .ref (q 14), .ref (q 15), .ref (q 16), .int (nI ((hsh v 5 x n h).2.1)), .long (lN (0 + n)), .long (lN mt)], cb B (q 13) (16 * wbN v) ((hsh v 5 x n h).1), cj B (q 14) 8 ((hsh v 5 x n h).2.2.1), cj B (q 15) (rdN v) ((hsh v 5 x n h).2.2.2)]) := by
  refine ctr_i (by decide) (Nat.le_of_ble_eq_true rfl) ?_
  intro M Q hl hR hin X kret
  subst hl
  refine g_lv [(0, .ref da), (1, .int (nI 2)), (2, .int (nI n9))] rfl ?_
  refine g_iload_n (pc := 0) X (i := 1) d_D_digest_0 rfl rfl ?_
  refine g_iconst (pc := 1) X (v := nI 1) d_D_digest_1 (by decide) ?_
  refine g_bipush (pc := 2) X (v := nI 16) d_D_digest_2 (by decide) ?_
  refine g_callSv (pc := 4) X (c_D_requireWithin (m_l M) B 2 1 16 (by omega) (by omega) (by omega)) wd_240 wd_241 wd_1 wd_242 hd_D_requireWithin [] rfl rfl [] (fun _ => rfl) rfl (by rw [hR]; decide) (by rw [hR]; decide) rfl (Nat.le_of_ble_eq_true rfl) d_D_digest_4 (fun _ _ => ?_)
  refine g_wsq [co da 3 [.ref (q 0), .ref (q 1), .ref (q 3), .ref (q 7), .ref (q 12), .ref (q 17), .ref (q 18), .ref (q 19), .ref (q 20)], cr B (q 0) 8 (fun z9 => some (q (21 + 2 * z9))), co (q 27) 1 [.ref (q 28), .int (nI n)], cb B (q 28) 8192 x, co (q 33) 1 [.ref (q 34), .int (nI m)], cb B (q 34) 8192 o, co (q 12) 0 [.int (nI (wbN v)), .int (nI (8 * wbN v)), .int (nI (rdN v)), .ref (b_t B (dk v)), .long (mk9 v), .int (nI (16 * wbN v)), .int (nI (8 * wbN v)), .ref (q 13), .ref (q 14), .ref (q 15), .ref (q 16), .int (nI h.2.1), .long (lN tt), .long (lN mt)], cb B (q 13) (16 * wbN v) h.1, cj B (q 14) 8 h.2.2.1, cj B (q 15) (rdN v) h.2.2.2] rfl ?_
  refine g_iload_n (pc := 7) X (i := 2) d_D_digest_7 rfl rfl ?_
  refine g_iconst (pc := 8) X (v := nI 0) d_D_digest_8 (by decide) ?_
  refine g_sipush (pc := 9) X (v := nI 8192) d_D_digest_9 (by decide) ?_
  refine g_callSv (pc := 12) X (c_D_requireWithin (m_l M) B n9 0 8192 (by omega) (by omega) (by omega)) wd_240 wd_241 wd_1 wd_242 hd_D_requireWithin [] rfl rfl [] (fun _ => rfl) rfl (by rw [hR]; decide) (by rw [hR]; decide) rfl (Nat.le_of_ble_eq_true rfl) d_D_digest_12 (fun _ _ => ?_)
  refine g_wsq [co da 3 [.ref (q 0), .ref (q 1), .ref (q 3), .ref (q 7), .ref (q 12), .ref (q 17), .ref (q 18), .ref (q 19), .ref (q 20)], cr B (q 0) 8 (fun z9 => some (q (21 + 2 * z9))), co (q 27) 1 [.ref (q 28), .int (nI n)], cb B (q 28) 8192 x, co (q 33) 1 [.ref (q 34), .int (nI m)], cb B (q 34) 8192 o, co (q 12) 0 [.int (nI (wbN v)), .int (nI (8 * wbN v)), .int (nI (rdN v)), .ref (b_t B (dk v)), .long (mk9 v), .int (nI (16 * wbN v)), .int (nI (8 * wbN v)), .ref (q 13), .ref (q 14), .ref (q 15), .ref (q 16), .int (nI h.2.1), .long (lN tt), .long (lN mt)], cb B (q 13) (16 * wbN v) h.1, cj B (q 14) 8 h.2.2.1, cj B (q 15) (rdN v) h.2.2.2] rfl ?_
  refine g_iload_n (pc := 15) X (i := 1) d_D_digest_15 rfl rfl ?_
  refine g_tableIn (pc := 16) X (tgt := 108) d_D_digest_16 (by decide) (by decide) rfl (by decide) ?_
  refine g_aload_n (pc := 108) X (i := 0) d_D_digest_108 rfl rfl ?_
  refine g_aload_n (pc := 109) X (i := 0) d_D_digest_109 rfl rfl ?_
  refine g_get (pc := 110) X in_D 0 rfl rfl 4 (by decide) wd_125 rfl d_D_digest_110 ?_
  refine g_gets (pc := 113) X 5 (by decide) wd_648 d_D_digest_113 ?_
  refine g_bipush (pc := 116) X (v := nI 48) d_D_digest_116 (by decide) ?_
  refine g_callVv (pc := 118) (q0 := 0) X (c_D_hashInBlocks (m_l M) B da q v (q 12) (q 13) (q 14) (q 15) (q 16) tt mt h 5 n m 48 x o (by decide) rfl rfl (by omega) (by omega)) wd_599 wd_601 wp_D_hashInBlocks wd_1 wd_602 hd_D_hashInBlocks [0, 1, 2, 3, 4, 5, 6, 7, 8, 9] rfl rfl [da, q 0, q 27, q 28, q 33, q 34, q 12, q 13, q 14, q 15] (fun _ => rfl) rfl rfl rfl (by rw [hR]; decide) (by rw [hR]; decide) rfl (Nat.le_of_ble_eq_true rfl) d_D_digest_118 (fun _ _ => ?_)
  refine g_wsq [co da 3 [.ref (q 0), .ref (q 1), .ref (q 3), .ref (q 7), .ref (q 12), .ref (q 17), .ref (q 18), .ref (q 19), .ref (q 20)], cr B (q 0) 8 (fun z9 => some (q (21 + 2 * z9))), co (q 27) 1 [.ref (q 28), .int (nI n)], cb B (q 28) 8192 x, co (q 33) 1 [.ref (q 34), .int (nI 48)], cb B (q 34) 8192 (wrS v (hsh v 5 x n h).2.2.1 o 0 48), co (q 12) 0 [.int (nI (wbN v)), .int (nI (8 * wbN v)), .int (nI (rdN v)), .ref (b_t B (dk v)), .long (mk9 v), .int (nI (16 * wbN v)), .int (nI (8 * wbN v)), .ref (q 13), .ref (q 14), .ref (q 15), .ref (q 16), .int (nI ((hsh v 5 x n h).2.1)), .long (lN (0 + n)), .long (lN mt)], cb B (q 13) (16 * wbN v) ((hsh v 5 x n h).1), cj B (q 14) 8 ((hsh v 5 x n h).2.2.1), cj B (q 15) (rdN v) ((hsh v 5 x n h).2.2.2)] rfl ?_
  refine g_goto (pc := 121) X (tgt := 323) d_D_digest_121 (by decide) ?_
  refine g_aload_n (pc := 323) X (i := 0) d_D_digest_323 rfl rfl ?_
  refine g_get (pc := 324) X in_D 0 rfl rfl 0 (by decide) wd_121 rfl d_D_digest_324 ?_
  refine g_bipush (pc := 327) X (v := nI 6) d_D_digest_327 (by decide) ?_
  refine g_rald (pc := 329) X 1 rfl 6 rfl (by omega) (by omega) (r := q 33) rfl d_D_digest_329 ?_
  refine g_getN (pc := 330) X in_Y 4 rfl rfl 1 (by decide) wn_2 rfl d_D_digest_330 ?_
  exact kret _ () _ 333 rfl d_D_digest_333

theorem c_D_digest_3 (l : Launch) (B : Bx) (da : Nat) (q : Nat → Nat) (v : Bool) (tt : Nat) (mt : Nat) (h : H4) (n : Nat) (m : Nat) (n9 : Nat) (x : Nat → Int8) (o : Nat → Int8) (h1 : n ≤ 8192) (h2 : 64 ≤ 8 * wbN v) (h9 : n9 ≤ 8192) : Ci (S := Unit) l B y_D_digest b_D_digest 3 .int (Rm 8 0 0) [.ref da, .int (nI 3), .int (nI n9)] [co da 3 [.ref (q 0), .ref (q 1), .ref (q 3), .ref (q 7), .ref (q 12), .ref (q 17), .ref (q 18), .ref (q 19), .ref (q 20)], cr B (q 0) 8 (fun z9 => some (q (21 + 2 * z9))), co (q 27) 1 [.ref (q 28), .int (nI n)], cb B (q 28) 8192 x, co (q 33) 1 [.ref (q 34), .int (nI m)], cb B (q 34) 8192 o, co (q 12) 0 [.int (nI (wbN v)), .int (nI (8 * wbN v)), .int (nI (rdN v)), .ref (b_t B (dk v)), .long (mk9 v), .int (nI (16 * wbN v)), .int (nI (8 * wbN v)), .ref (q 13), .ref (q 14), .ref (q 15), .ref (q 16), .int (nI h.2.1), .long (lN tt), .long (lN mt)], cb B (q 13) (16 * wbN v) h.1, cj B (q 14) 8 h.2.2.1, cj B (q 15) (rdN v) h.2.2.2] (fun r _ => r = nI 64) (fun _ => [co da 3 [.ref (q 0), .ref (q 1), .ref (q 3), .ref (q 7), .ref (q 12), .ref (q 17), .ref (q 18), .ref (q 19), .ref (q 20)], cr B (q 0) 8 (fun z9 => some (q (21 + 2 * z9))), co (q 27) 1 [.ref (q 28), .int (nI n)], cb B (q 28) 8192 x, co (q 33) 1 [.ref (q 34), .int (nI 64)], cb B (q 34) 8192 (wrS v (hsh v 4 x n h).2.2.1 o 0 64), co (q 12) 0 [.int (nI (wbN v)), .int (nI (8 * wbN v)), .int (nI (rdN v)), .ref (b_t B (dk v)), .long (mk9 v), .int (nI (16 * wbN v)), .int (nI (8 * wbN v)), .ref (q 13), .ref (q 14), .ref (q 15), .ref (q 16), .int (nI ((hsh v 4 x n h).2.1)), .long (lN (0 + n)), .long (lN mt)], cb B (q 13) (16 * wbN v) ((hsh v 4 x n h).1), cj B (q 14) 8 ((hsh v 4 x n h).2.2.1), cj B (q 15) (rdN v) ((hsh v 4 x n h).2.2.2)]) := by
  refine ctr_i (by decide) (Nat.le_of_ble_eq_true rfl) ?_
  intro M Q hl hR hin X kret
  subst hl
  refine g_lv [(0, .ref da), (1, .int (nI 3)), (2, .int (nI n9))] rfl ?_
  refine g_iload_n (pc := 0) X (i := 1) d_D_digest_0 rfl rfl ?_
  refine g_iconst (pc := 1) X (v := nI 1) d_D_digest_1 (by decide) ?_
  refine g_bipush (pc := 2) X (v := nI 16) d_D_digest_2 (by decide) ?_
  refine g_callSv (pc := 4) X (c_D_requireWithin (m_l M) B 3 1 16 (by omega) (by omega) (by omega)) wd_240 wd_241 wd_1 wd_242 hd_D_requireWithin [] rfl rfl [] (fun _ => rfl) rfl (by rw [hR]; decide) (by rw [hR]; decide) rfl (Nat.le_of_ble_eq_true rfl) d_D_digest_4 (fun _ _ => ?_)
  refine g_wsq [co da 3 [.ref (q 0), .ref (q 1), .ref (q 3), .ref (q 7), .ref (q 12), .ref (q 17), .ref (q 18), .ref (q 19), .ref (q 20)], cr B (q 0) 8 (fun z9 => some (q (21 + 2 * z9))), co (q 27) 1 [.ref (q 28), .int (nI n)], cb B (q 28) 8192 x, co (q 33) 1 [.ref (q 34), .int (nI m)], cb B (q 34) 8192 o, co (q 12) 0 [.int (nI (wbN v)), .int (nI (8 * wbN v)), .int (nI (rdN v)), .ref (b_t B (dk v)), .long (mk9 v), .int (nI (16 * wbN v)), .int (nI (8 * wbN v)), .ref (q 13), .ref (q 14), .ref (q 15), .ref (q 16), .int (nI h.2.1), .long (lN tt), .long (lN mt)], cb B (q 13) (16 * wbN v) h.1, cj B (q 14) 8 h.2.2.1, cj B (q 15) (rdN v) h.2.2.2] rfl ?_
  refine g_iload_n (pc := 7) X (i := 2) d_D_digest_7 rfl rfl ?_
  refine g_iconst (pc := 8) X (v := nI 0) d_D_digest_8 (by decide) ?_
  refine g_sipush (pc := 9) X (v := nI 8192) d_D_digest_9 (by decide) ?_
  refine g_callSv (pc := 12) X (c_D_requireWithin (m_l M) B n9 0 8192 (by omega) (by omega) (by omega)) wd_240 wd_241 wd_1 wd_242 hd_D_requireWithin [] rfl rfl [] (fun _ => rfl) rfl (by rw [hR]; decide) (by rw [hR]; decide) rfl (Nat.le_of_ble_eq_true rfl) d_D_digest_12 (fun _ _ => ?_)
  refine g_wsq [co da 3 [.ref (q 0), .ref (q 1), .ref (q 3), .ref (q 7), .ref (q 12), .ref (q 17), .ref (q 18), .ref (q 19), .ref (q 20)], cr B (q 0) 8 (fun z9 => some (q (21 + 2 * z9))), co (q 27) 1 [.ref (q 28), .int (nI n)], cb B (q 28) 8192 x, co (q 33) 1 [.ref (q 34), .int (nI m)], cb B (q 34) 8192 o, co (q 12) 0 [.int (nI (wbN v)), .int (nI (8 * wbN v)), .int (nI (rdN v)), .ref (b_t B (dk v)), .long (mk9 v), .int (nI (16 * wbN v)), .int (nI (8 * wbN v)), .ref (q 13), .ref (q 14), .ref (q 15), .ref (q 16), .int (nI h.2.1), .long (lN tt), .long (lN mt)], cb B (q 13) (16 * wbN v) h.1, cj B (q 14) 8 h.2.2.1, cj B (q 15) (rdN v) h.2.2.2] rfl ?_
  refine g_iload_n (pc := 15) X (i := 1) d_D_digest_15 rfl rfl ?_
  refine g_tableIn (pc := 16) X (tgt := 124) d_D_digest_16 (by decide) (by decide) rfl (by decide) ?_
  refine g_aload_n (pc := 124) X (i := 0) d_D_digest_124 rfl rfl ?_
  refine g_aload_n (pc := 125) X (i := 0) d_D_digest_125 rfl rfl ?_
  refine g_get (pc := 126) X in_D 0 rfl rfl 4 (by decide) wd_125 rfl d_D_digest_126 ?_
  refine g_gets (pc := 129) X 4 (by decide) wd_650 d_D_digest_129 ?_
  refine g_bipush (pc := 132) X (v := nI 64) d_D_digest_132 (by decide) ?_
  refine g_callVv (pc := 134) (q0 := 0) X (c_D_hashInBlocks (m_l M) B da q v (q 12) (q 13) (q 14) (q 15) (q 16) tt mt h 4 n m 64 x o (by decide) rfl rfl (by omega) (by omega)) wd_599 wd_601 wp_D_hashInBlocks wd_1 wd_602 hd_D_hashInBlocks [0, 1, 2, 3, 4, 5, 6, 7, 8, 9] rfl rfl [da, q 0, q 27, q 28, q 33, q 34, q 12, q 13, q 14, q 15] (fun _ => rfl) rfl rfl rfl (by rw [hR]; decide) (by rw [hR]; decide) rfl (Nat.le_of_ble_eq_true rfl) d_D_digest_134 (fun _ _ => ?_)
  refine g_wsq [co da 3 [.ref (q 0), .ref (q 1), .ref (q 3), .ref (q 7), .ref (q 12), .ref (q 17), .ref (q 18), .ref (q 19), .ref (q 20)], cr B (q 0) 8 (fun z9 => some (q (21 + 2 * z9))), co (q 27) 1 [.ref (q 28), .int (nI n)], cb B (q 28) 8192 x, co (q 33) 1 [.ref (q 34), .int (nI 64)], cb B (q 34) 8192 (wrS v (hsh v 4 x n h).2.2.1 o 0 64), co (q 12) 0 [.int (nI (wbN v)), .int (nI (8 * wbN v)), .int (nI (rdN v)), .ref (b_t B (dk v)), .long (mk9 v), .int (nI (16 * wbN v)), .int (nI (8 * wbN v)), .ref (q 13), .ref (q 14), .ref (q 15), .ref (q 16), .int (nI ((hsh v 4 x n h).2.1)), .long (lN (0 + n)), .long (lN mt)], cb B (q 13) (16 * wbN v) ((hsh v 4 x n h).1), cj B (q 14) 8 ((hsh v 4 x n h).2.2.1), cj B (q 15) (rdN v) ((hsh v 4 x n h).2.2.2)] rfl ?_
  refine g_goto (pc := 137) X (tgt := 323) d_D_digest_137 (by decide) ?_
  refine g_aload_n (pc := 323) X (i := 0) d_D_digest_323 rfl rfl ?_
  refine g_get (pc := 324) X in_D 0 rfl rfl 0 (by decide) wd_121 rfl d_D_digest_324 ?_
  refine g_bipush (pc := 327) X (v := nI 6) d_D_digest_327 (by decide) ?_
  refine g_rald (pc := 329) X 1 rfl 6 rfl (by omega) (by omega) (r := q 33) rfl d_D_digest_329 ?_
  refine g_getN (pc := 330) X in_Y 4 rfl rfl 1 (by decide) wn_2 rfl d_D_digest_330 ?_
  exact kret _ () _ 333 rfl d_D_digest_333

theorem c_D_digest_4 (l : Launch) (B : Bx) (da : Nat) (q : Nat → Nat) (v : Bool) (tt : Nat) (mt : Nat) (h : H4) (n : Nat) (m : Nat) (n9 : Nat) (x : Nat → Int8) (o : Nat → Int8) (h1 : n ≤ 8192) (h2 : 28 ≤ 8 * wbN v) (h9 : n9 ≤ 8192) : Ci (S := Unit) l B y_D_digest b_D_digest 3 .int (Rm 8 0 0) [.ref da, .int (nI 4), .int (nI n9)] [co da 3 [.ref (q 0), .ref (q 1), .ref (q 3), .ref (q 7), .ref (q 12), .ref (q 17), .ref (q 18), .ref (q 19), .ref (q 20)], cr B (q 0) 8 (fun z9 => some (q (21 + 2 * z9))), co (q 27) 1 [.ref (q 28), .int (nI n)], cb B (q 28) 8192 x, co (q 33) 1 [.ref (q 34), .int (nI m)], cb B (q 34) 8192 o, co (q 7) 0 [.int (nI (wbN v)), .int (nI (8 * wbN v)), .int (nI (rdN v)), .ref (b_t B (dk v)), .long (mk9 v), .int (nI (16 * wbN v)), .int (nI (8 * wbN v)), .ref (q 8), .ref (q 9), .ref (q 10), .ref (q 11), .int (nI h.2.1), .long (lN tt), .long (lN mt)], cb B (q 8) (16 * wbN v) h.1, cj B (q 9) 8 h.2.2.1, cj B (q 10) (rdN v) h.2.2.2] (fun r _ => r = nI 28) (fun _ => [co da 3 [.ref (q 0), .ref (q 1), .ref (q 3), .ref (q 7), .ref (q 12), .ref (q 17), .ref (q 18), .ref (q 19), .ref (q 20)], cr B (q 0) 8 (fun z9 => some (q (21 + 2 * z9))), co (q 27) 1 [.ref (q 28), .int (nI n)], cb B (q 28) 8192 x, co (q 33) 1 [.ref (q 34), .int (nI 28)], cb B (q 34) 8192 (wrS v (hsh v 3 x n h).2.2.1 o 0 28), co (q 7) 0 [.int (nI (wbN v)), .int (nI (8 * wbN v)), .int (nI (rdN v)), .ref (b_t B (dk v)), .long (mk9 v), .int (nI (16 * wbN v)), .int (nI (8 * wbN v)), .ref (q 8), .ref (q 9), .ref (q 10), .ref (q 11), .int (nI ((hsh v 3 x n h).2.1)), .long (lN (0 + n)), .long (lN mt)], cb B (q 8) (16 * wbN v) ((hsh v 3 x n h).1), cj B (q 9) 8 ((hsh v 3 x n h).2.2.1), cj B (q 10) (rdN v) ((hsh v 3 x n h).2.2.2)]) := by
  refine ctr_i (by decide) (Nat.le_of_ble_eq_true rfl) ?_
  intro M Q hl hR hin X kret
  subst hl
  refine g_lv [(0, .ref da), (1, .int (nI 4)), (2, .int (nI n9))] rfl ?_
  refine g_iload_n (pc := 0) X (i := 1) d_D_digest_0 rfl rfl ?_
  refine g_iconst (pc := 1) X (v := nI 1) d_D_digest_1 (by decide) ?_
  refine g_bipush (pc := 2) X (v := nI 16) d_D_digest_2 (by decide) ?_
  refine g_callSv (pc := 4) X (c_D_requireWithin (m_l M) B 4 1 16 (by omega) (by omega) (by omega)) wd_240 wd_241 wd_1 wd_242 hd_D_requireWithin [] rfl rfl [] (fun _ => rfl) rfl (by rw [hR]; decide) (by rw [hR]; decide) rfl (Nat.le_of_ble_eq_true rfl) d_D_digest_4 (fun _ _ => ?_)
  refine g_wsq [co da 3 [.ref (q 0), .ref (q 1), .ref (q 3), .ref (q 7), .ref (q 12), .ref (q 17), .ref (q 18), .ref (q 19), .ref (q 20)], cr B (q 0) 8 (fun z9 => some (q (21 + 2 * z9))), co (q 27) 1 [.ref (q 28), .int (nI n)], cb B (q 28) 8192 x, co (q 33) 1 [.ref (q 34), .int (nI m)], cb B (q 34) 8192 o, co (q 7) 0 [.int (nI (wbN v)), .int (nI (8 * wbN v)), .int (nI (rdN v)), .ref (b_t B (dk v)), .long (mk9 v), .int (nI (16 * wbN v)), .int (nI (8 * wbN v)), .ref (q 8), .ref (q 9), .ref (q 10), .ref (q 11), .int (nI h.2.1), .long (lN tt), .long (lN mt)], cb B (q 8) (16 * wbN v) h.1, cj B (q 9) 8 h.2.2.1, cj B (q 10) (rdN v) h.2.2.2] rfl ?_
  refine g_iload_n (pc := 7) X (i := 2) d_D_digest_7 rfl rfl ?_
  refine g_iconst (pc := 8) X (v := nI 0) d_D_digest_8 (by decide) ?_
  refine g_sipush (pc := 9) X (v := nI 8192) d_D_digest_9 (by decide) ?_
  refine g_callSv (pc := 12) X (c_D_requireWithin (m_l M) B n9 0 8192 (by omega) (by omega) (by omega)) wd_240 wd_241 wd_1 wd_242 hd_D_requireWithin [] rfl rfl [] (fun _ => rfl) rfl (by rw [hR]; decide) (by rw [hR]; decide) rfl (Nat.le_of_ble_eq_true rfl) d_D_digest_12 (fun _ _ => ?_)
  refine g_wsq [co da 3 [.ref (q 0), .ref (q 1), .ref (q 3), .ref (q 7), .ref (q 12), .ref (q 17), .ref (q 18), .ref (q 19), .ref (q 20)], cr B (q 0) 8 (fun z9 => some (q (21 + 2 * z9))), co (q 27) 1 [.ref (q 28), .int (nI n)], cb B (q 28) 8192 x, co (q 33) 1 [.ref (q 34), .int (nI m)], cb B (q 34) 8192 o, co (q 7) 0 [.int (nI (wbN v)), .int (nI (8 * wbN v)), .int (nI (rdN v)), .ref (b_t B (dk v)), .long (mk9 v), .int (nI (16 * wbN v)), .int (nI (8 * wbN v)), .ref (q 8), .ref (q 9), .ref (q 10), .ref (q 11), .int (nI h.2.1), .long (lN tt), .long (lN mt)], cb B (q 8) (16 * wbN v) h.1, cj B (q 9) 8 h.2.2.1, cj B (q 10) (rdN v) h.2.2.2] rfl ?_
  refine g_iload_n (pc := 15) X (i := 1) d_D_digest_15 rfl rfl ?_
  refine g_tableIn (pc := 16) X (tgt := 140) d_D_digest_16 (by decide) (by decide) rfl (by decide) ?_
  refine g_aload_n (pc := 140) X (i := 0) d_D_digest_140 rfl rfl ?_
  refine g_aload_n (pc := 141) X (i := 0) d_D_digest_141 rfl rfl ?_
  refine g_get (pc := 142) X in_D 0 rfl rfl 3 (by decide) wd_124 rfl d_D_digest_142 ?_
  refine g_gets (pc := 145) X 3 (by decide) wd_652 d_D_digest_145 ?_
  refine g_bipush (pc := 148) X (v := nI 28) d_D_digest_148 (by decide) ?_
  refine g_callVv (pc := 150) (q0 := 0) X (c_D_hashInBlocks (m_l M) B da q v (q 7) (q 8) (q 9) (q 10) (q 11) tt mt h 3 n m 28 x o (by decide) rfl rfl (by omega) (by omega)) wd_599 wd_601 wp_D_hashInBlocks wd_1 wd_602 hd_D_hashInBlocks [0, 1, 2, 3, 4, 5, 6, 7, 8, 9] rfl rfl [da, q 0, q 27, q 28, q 33, q 34, q 7, q 8, q 9, q 10] (fun _ => rfl) rfl rfl rfl (by rw [hR]; decide) (by rw [hR]; decide) rfl (Nat.le_of_ble_eq_true rfl) d_D_digest_150 (fun _ _ => ?_)
  refine g_wsq [co da 3 [.ref (q 0), .ref (q 1), .ref (q 3), .ref (q 7), .ref (q 12), .ref (q 17), .ref (q 18), .ref (q 19), .ref (q 20)], cr B (q 0) 8 (fun z9 => some (q (21 + 2 * z9))), co (q 27) 1 [.ref (q 28), .int (nI n)], cb B (q 28) 8192 x, co (q 33) 1 [.ref (q 34), .int (nI 28)], cb B (q 34) 8192 (wrS v (hsh v 3 x n h).2.2.1 o 0 28), co (q 7) 0 [.int (nI (wbN v)), .int (nI (8 * wbN v)), .int (nI (rdN v)), .ref (b_t B (dk v)), .long (mk9 v), .int (nI (16 * wbN v)), .int (nI (8 * wbN v)), .ref (q 8), .ref (q 9), .ref (q 10), .ref (q 11), .int (nI ((hsh v 3 x n h).2.1)), .long (lN (0 + n)), .long (lN mt)], cb B (q 8) (16 * wbN v) ((hsh v 3 x n h).1), cj B (q 9) 8 ((hsh v 3 x n h).2.2.1), cj B (q 10) (rdN v) ((hsh v 3 x n h).2.2.2)] rfl ?_
  refine g_goto (pc := 153) X (tgt := 323) d_D_digest_153 (by decide) ?_
  refine g_aload_n (pc := 323) X (i := 0) d_D_digest_323 rfl rfl ?_
  refine g_get (pc := 324) X in_D 0 rfl rfl 0 (by decide) wd_121 rfl d_D_digest_324 ?_
  refine g_bipush (pc := 327) X (v := nI 6) d_D_digest_327 (by decide) ?_
  refine g_rald (pc := 329) X 1 rfl 6 rfl (by omega) (by omega) (r := q 33) rfl d_D_digest_329 ?_
  refine g_getN (pc := 330) X in_Y 4 rfl rfl 1 (by decide) wn_2 rfl d_D_digest_330 ?_
  exact kret _ () _ 333 rfl d_D_digest_333

theorem c_D_digest_5 (l : Launch) (B : Bx) (da : Nat) (q : Nat → Nat) (v : Bool) (tt : Nat) (mt : Nat) (h : H4) (n : Nat) (m : Nat) (n9 : Nat) (x : Nat → Int8) (o : Nat → Int8) (h1 : n ≤ 8192) (h2 : 28 ≤ 8 * wbN v) (h9 : n9 ≤ 8192) : Ci (S := Unit) l B y_D_digest b_D_digest 3 .int (Rm 8 0 0) [.ref da, .int (nI 5), .int (nI n9)] [co da 3 [.ref (q 0), .ref (q 1), .ref (q 3), .ref (q 7), .ref (q 12), .ref (q 17), .ref (q 18), .ref (q 19), .ref (q 20)], cr B (q 0) 8 (fun z9 => some (q (21 + 2 * z9))), co (q 27) 1 [.ref (q 28), .int (nI n)], cb B (q 28) 8192 x, co (q 33) 1 [.ref (q 34), .int (nI m)], cb B (q 34) 8192 o, co (q 12) 0 [.int (nI (wbN v)), .int (nI (8 * wbN v)), .int (nI (rdN v)), .ref (b_t B (dk v)), .long (mk9 v), .int (nI (16 * wbN v)), .int (nI (8 * wbN v)), .ref (q 13), .ref (q 14), .ref (q 15), .ref (q 16), .int (nI h.2.1), .long (lN tt), .long (lN mt)], cb B (q 13) (16 * wbN v) h.1, cj B (q 14) 8 h.2.2.1, cj B (q 15) (rdN v) h.2.2.2] (fun r _ => r = nI 28) (fun _ => [co da 3 [.ref (q 0), .ref (q 1), .ref (q 3), .ref (q 7), .ref (q 12), .ref (q 17), .ref (q 18), .ref (q 19), .ref (q 20)], cr B (q 0) 8 (fun z9 => some (q (21 + 2 * z9))), co (q 27) 1 [.ref (q 28), .int (nI n)], cb B (q 28) 8192 x, co (q 33) 1 [.ref (q 34), .int (nI 28)], cb B (q 34) 8192 (wrS v (hsh v 6 x n h).2.2.1 o 0 28), co (q 12) 0 [.int (nI (wbN v)), .int (nI (8 * wbN v)), .int (nI (rdN v)), .ref (b_t B (dk v)), .long (mk9 v), .int (nI (16 * wbN v)), .int (nI (8 * wbN v)), .ref (q 13), .ref (q 14), .ref (q 15), .ref (q 16), .int (nI ((hsh v 6 x n h).2.1)), .long (lN (0 + n)), .long (lN mt)], cb B (q 13) (16 * wbN v) ((hsh v 6 x n h).1), cj B (q 14) 8 ((hsh v 6 x n h).2.2.1), cj B (q 15) (rdN v) ((hsh v 6 x n h).2.2.2)]) := by
  refine ctr_i (by decide) (Nat.le_of_ble_eq_true rfl) ?_
  intro M Q hl hR hin X kret
  subst hl
  refine g_lv [(0, .ref da), (1, .int (nI 5)), (2, .int (nI n9))] rfl ?_
  refine g_iload_n (pc := 0) X (i := 1) d_D_digest_0 rfl rfl ?_
  refine g_iconst (pc := 1) X (v := nI 1) d_D_digest_1 (by decide) ?_
  refine g_bipush (pc := 2) X (v := nI 16) d_D_digest_2 (by decide) ?_
  refine g_callSv (pc := 4) X (c_D_requireWithin (m_l M) B 5 1 16 (by omega) (by omega) (by omega)) wd_240 wd_241 wd_1 wd_242 hd_D_requireWithin [] rfl rfl [] (fun _ => rfl) rfl (by rw [hR]; decide) (by rw [hR]; decide) rfl (Nat.le_of_ble_eq_true rfl) d_D_digest_4 (fun _ _ => ?_)
  refine g_wsq [co da 3 [.ref (q 0), .ref (q 1), .ref (q 3), .ref (q 7), .ref (q 12), .ref (q 17), .ref (q 18), .ref (q 19), .ref (q 20)], cr B (q 0) 8 (fun z9 => some (q (21 + 2 * z9))), co (q 27) 1 [.ref (q 28), .int (nI n)], cb B (q 28) 8192 x, co (q 33) 1 [.ref (q 34), .int (nI m)], cb B (q 34) 8192 o, co (q 12) 0 [.int (nI (wbN v)), .int (nI (8 * wbN v)), .int (nI (rdN v)), .ref (b_t B (dk v)), .long (mk9 v), .int (nI (16 * wbN v)), .int (nI (8 * wbN v)), .ref (q 13), .ref (q 14), .ref (q 15), .ref (q 16), .int (nI h.2.1), .long (lN tt), .long (lN mt)], cb B (q 13) (16 * wbN v) h.1, cj B (q 14) 8 h.2.2.1, cj B (q 15) (rdN v) h.2.2.2] rfl ?_
  refine g_iload_n (pc := 7) X (i := 2) d_D_digest_7 rfl rfl ?_
  refine g_iconst (pc := 8) X (v := nI 0) d_D_digest_8 (by decide) ?_
  refine g_sipush (pc := 9) X (v := nI 8192) d_D_digest_9 (by decide) ?_
  refine g_callSv (pc := 12) X (c_D_requireWithin (m_l M) B n9 0 8192 (by omega) (by omega) (by omega)) wd_240 wd_241 wd_1 wd_242 hd_D_requireWithin [] rfl rfl [] (fun _ => rfl) rfl (by rw [hR]; decide) (by rw [hR]; decide) rfl (Nat.le_of_ble_eq_true rfl) d_D_digest_12 (fun _ _ => ?_)
  refine g_wsq [co da 3 [.ref (q 0), .ref (q 1), .ref (q 3), .ref (q 7), .ref (q 12), .ref (q 17), .ref (q 18), .ref (q 19), .ref (q 20)], cr B (q 0) 8 (fun z9 => some (q (21 + 2 * z9))), co (q 27) 1 [.ref (q 28), .int (nI n)], cb B (q 28) 8192 x, co (q 33) 1 [.ref (q 34), .int (nI m)], cb B (q 34) 8192 o, co (q 12) 0 [.int (nI (wbN v)), .int (nI (8 * wbN v)), .int (nI (rdN v)), .ref (b_t B (dk v)), .long (mk9 v), .int (nI (16 * wbN v)), .int (nI (8 * wbN v)), .ref (q 13), .ref (q 14), .ref (q 15), .ref (q 16), .int (nI h.2.1), .long (lN tt), .long (lN mt)], cb B (q 13) (16 * wbN v) h.1, cj B (q 14) 8 h.2.2.1, cj B (q 15) (rdN v) h.2.2.2] rfl ?_
  refine g_iload_n (pc := 15) X (i := 1) d_D_digest_15 rfl rfl ?_
  refine g_tableIn (pc := 16) X (tgt := 156) d_D_digest_16 (by decide) (by decide) rfl (by decide) ?_
  refine g_aload_n (pc := 156) X (i := 0) d_D_digest_156 rfl rfl ?_
  refine g_aload_n (pc := 157) X (i := 0) d_D_digest_157 rfl rfl ?_
  refine g_get (pc := 158) X in_D 0 rfl rfl 4 (by decide) wd_125 rfl d_D_digest_158 ?_
  refine g_gets (pc := 161) X 6 (by decide) wd_654 d_D_digest_161 ?_
  refine g_bipush (pc := 164) X (v := nI 28) d_D_digest_164 (by decide) ?_
  refine g_callVv (pc := 166) (q0 := 0) X (c_D_hashInBlocks (m_l M) B da q v (q 12) (q 13) (q 14) (q 15) (q 16) tt mt h 6 n m 28 x o (by decide) rfl rfl (by omega) (by omega)) wd_599 wd_601 wp_D_hashInBlocks wd_1 wd_602 hd_D_hashInBlocks [0, 1, 2, 3, 4, 5, 6, 7, 8, 9] rfl rfl [da, q 0, q 27, q 28, q 33, q 34, q 12, q 13, q 14, q 15] (fun _ => rfl) rfl rfl rfl (by rw [hR]; decide) (by rw [hR]; decide) rfl (Nat.le_of_ble_eq_true rfl) d_D_digest_166 (fun _ _ => ?_)
  refine g_wsq [co da 3 [.ref (q 0), .ref (q 1), .ref (q 3), .ref (q 7), .ref (q 12), .ref (q 17), .ref (q 18), .ref (q 19), .ref (q 20)], cr B (q 0) 8 (fun z9 => some (q (21 + 2 * z9))), co (q 27) 1 [.ref (q 28), .int (nI n)], cb B (q 28) 8192 x, co (q 33) 1 [.ref (q 34), .int (nI 28)], cb B (q 34) 8192 (wrS v (hsh v 6 x n h).2.2.1 o 0 28), co (q 12) 0 [.int (nI (wbN v)), .int (nI (8 * wbN v)), .int (nI (rdN v)), .ref (b_t B (dk v)), .long (mk9 v), .int (nI (16 * wbN v)), .int (nI (8 * wbN v)), .ref (q 13), .ref (q 14), .ref (q 15), .ref (q 16), .int (nI ((hsh v 6 x n h).2.1)), .long (lN (0 + n)), .long (lN mt)], cb B (q 13) (16 * wbN v) ((hsh v 6 x n h).1), cj B (q 14) 8 ((hsh v 6 x n h).2.2.1), cj B (q 15) (rdN v) ((hsh v 6 x n h).2.2.2)] rfl ?_
  refine g_goto (pc := 169) X (tgt := 323) d_D_digest_169 (by decide) ?_
  refine g_aload_n (pc := 323) X (i := 0) d_D_digest_323 rfl rfl ?_
  refine g_get (pc := 324) X in_D 0 rfl rfl 0 (by decide) wd_121 rfl d_D_digest_324 ?_
  refine g_bipush (pc := 327) X (v := nI 6) d_D_digest_327 (by decide) ?_
  refine g_rald (pc := 329) X 1 rfl 6 rfl (by omega) (by omega) (r := q 33) rfl d_D_digest_329 ?_
  refine g_getN (pc := 330) X in_Y 4 rfl rfl 1 (by decide) wn_2 rfl d_D_digest_330 ?_
  exact kret _ () _ 333 rfl d_D_digest_333

theorem c_D_digest_6 (l : Launch) (B : Bx) (da : Nat) (q : Nat → Nat) (v : Bool) (tt : Nat) (mt : Nat) (h : H4) (n : Nat) (m : Nat) (n9 : Nat) (x : Nat → Int8) (o : Nat → Int8) (h1 : n ≤ 8192) (h2 : 32 ≤ 8 * wbN v) (h9 : n9 ≤ 8192) : Ci (S := Unit) l B y_D_digest b_D_digest 3 .int (Rm 8 0 0) [.ref da, .int (nI 6), .int (nI n9)] [co da 3 [.ref (q 0), .ref (q 1), .ref (q 3), .ref (q 7), .ref (q 12), .ref (q 17), .ref (q 18), .ref (q 19), .ref (q 20)], cr B (q 0) 8 (fun z9 => some (q (21 + 2 * z9))), co (q 27) 1 [.ref (q 28), .int (nI n)], cb B (q 28) 8192 x, co (q 33) 1 [.ref (q 34), .int (nI m)], cb B (q 34) 8192 o, co (q 12) 0 [.int (nI (wbN v)), .int (nI (8 * wbN v)), .int (nI (rdN v)), .ref (b_t B (dk v)), .long (mk9 v), .int (nI (16 * wbN v)), .int (nI (8 * wbN v)), .ref (q 13), .ref (q 14), .ref (q 15), .ref (q 16), .int (nI h.2.1), .long (lN tt), .long (lN mt)], cb B (q 13) (16 * wbN v) h.1, cj B (q 14) 8 h.2.2.1, cj B (q 15) (rdN v) h.2.2.2] (fun r _ => r = nI 32) (fun _ => [co da 3 [.ref (q 0), .ref (q 1), .ref (q 3), .ref (q 7), .ref (q 12), .ref (q 17), .ref (q 18), .ref (q 19), .ref (q 20)], cr B (q 0) 8 (fun z9 => some (q (21 + 2 * z9))), co (q 27) 1 [.ref (q 28), .int (nI n)], cb B (q 28) 8192 x, co (q 33) 1 [.ref (q 34), .int (nI 32)], cb B (q 34) 8192 (wrS v (hsh v 7 x n h).2.2.1 o 0 32), co (q 12) 0 [.int (nI (wbN v)), .int (nI (8 * wbN v)), .int (nI (rdN v)), .ref (b_t B (dk v)), .long (mk9 v), .int (nI (16 * wbN v)), .int (nI (8 * wbN v)), .ref (q 13), .ref (q 14), .ref (q 15), .ref (q 16), .int (nI ((hsh v 7 x n h).2.1)), .long (lN (0 + n)), .long (lN mt)], cb B (q 13) (16 * wbN v) ((hsh v 7 x n h).1), cj B (q 14) 8 ((hsh v 7 x n h).2.2.1), cj B (q 15) (rdN v) ((hsh v 7 x n h).2.2.2)]) := by
  refine ctr_i (by decide) (Nat.le_of_ble_eq_true rfl) ?_
  intro M Q hl hR hin X kret
  subst hl
  refine g_lv [(0, .ref da), (1, .int (nI 6)), (2, .int (nI n9))] rfl ?_
  refine g_iload_n (pc := 0) X (i := 1) d_D_digest_0 rfl rfl ?_
  refine g_iconst (pc := 1) X (v := nI 1) d_D_digest_1 (by decide) ?_
  refine g_bipush (pc := 2) X (v := nI 16) d_D_digest_2 (by decide) ?_
  refine g_callSv (pc := 4) X (c_D_requireWithin (m_l M) B 6 1 16 (by omega) (by omega) (by omega)) wd_240 wd_241 wd_1 wd_242 hd_D_requireWithin [] rfl rfl [] (fun _ => rfl) rfl (by rw [hR]; decide) (by rw [hR]; decide) rfl (Nat.le_of_ble_eq_true rfl) d_D_digest_4 (fun _ _ => ?_)
  refine g_wsq [co da 3 [.ref (q 0), .ref (q 1), .ref (q 3), .ref (q 7), .ref (q 12), .ref (q 17), .ref (q 18), .ref (q 19), .ref (q 20)], cr B (q 0) 8 (fun z9 => some (q (21 + 2 * z9))), co (q 27) 1 [.ref (q 28), .int (nI n)], cb B (q 28) 8192 x, co (q 33) 1 [.ref (q 34), .int (nI m)], cb B (q 34) 8192 o, co (q 12) 0 [.int (nI (wbN v)), .int (nI (8 * wbN v)), .int (nI (rdN v)), .ref (b_t B (dk v)), .long (mk9 v), .int (nI (16 * wbN v)), .int (nI (8 * wbN v)), .ref (q 13), .ref (q 14), .ref (q 15), .ref (q 16), .int (nI h.2.1), .long (lN tt), .long (lN mt)], cb B (q 13) (16 * wbN v) h.1, cj B (q 14) 8 h.2.2.1, cj B (q 15) (rdN v) h.2.2.2] rfl ?_
  refine g_iload_n (pc := 7) X (i := 2) d_D_digest_7 rfl rfl ?_
  refine g_iconst (pc := 8) X (v := nI 0) d_D_digest_8 (by decide) ?_
  refine g_sipush (pc := 9) X (v := nI 8192) d_D_digest_9 (by decide) ?_
  refine g_callSv (pc := 12) X (c_D_requireWithin (m_l M) B n9 0 8192 (by omega) (by omega) (by omega)) wd_240 wd_241 wd_1 wd_242 hd_D_requireWithin [] rfl rfl [] (fun _ => rfl) rfl (by rw [hR]; decide) (by rw [hR]; decide) rfl (Nat.le_of_ble_eq_true rfl) d_D_digest_12 (fun _ _ => ?_)
  refine g_wsq [co da 3 [.ref (q 0), .ref (q 1), .ref (q 3), .ref (q 7), .ref (q 12), .ref (q 17), .ref (q 18), .ref (q 19), .ref (q 20)], cr B (q 0) 8 (fun z9 => some (q (21 + 2 * z9))), co (q 27) 1 [.ref (q 28), .int (nI n)], cb B (q 28) 8192 x, co (q 33) 1 [.ref (q 34), .int (nI m)], cb B (q 34) 8192 o, co (q 12) 0 [.int (nI (wbN v)), .int (nI (8 * wbN v)), .int (nI (rdN v)), .ref (b_t B (dk v)), .long (mk9 v), .int (nI (16 * wbN v)), .int (nI (8 * wbN v)), .ref (q 13), .ref (q 14), .ref (q 15), .ref (q 16), .int (nI h.2.1), .long (lN tt), .long (lN mt)], cb B (q 13) (16 * wbN v) h.1, cj B (q 14) 8 h.2.2.1, cj B (q 15) (rdN v) h.2.2.2] rfl ?_
  refine g_iload_n (pc := 15) X (i := 1) d_D_digest_15 rfl rfl ?_
  refine g_tableIn (pc := 16) X (tgt := 172) d_D_digest_16 (by decide) (by decide) rfl (by decide) ?_
  refine g_aload_n (pc := 172) X (i := 0) d_D_digest_172 rfl rfl ?_
  refine g_aload_n (pc := 173) X (i := 0) d_D_digest_173 rfl rfl ?_
  refine g_get (pc := 174) X in_D 0 rfl rfl 4 (by decide) wd_125 rfl d_D_digest_174 ?_
  refine g_gets (pc := 177) X 7 (by decide) wd_656 d_D_digest_177 ?_
  refine g_bipush (pc := 180) X (v := nI 32) d_D_digest_180 (by decide) ?_
  refine g_callVv (pc := 182) (q0 := 0) X (c_D_hashInBlocks (m_l M) B da q v (q 12) (q 13) (q 14) (q 15) (q 16) tt mt h 7 n m 32 x o (by decide) rfl rfl (by omega) (by omega)) wd_599 wd_601 wp_D_hashInBlocks wd_1 wd_602 hd_D_hashInBlocks [0, 1, 2, 3, 4, 5, 6, 7, 8, 9] rfl rfl [da, q 0, q 27, q 28, q 33, q 34, q 12, q 13, q 14, q 15] (fun _ => rfl) rfl rfl rfl (by rw [hR]; decide) (by rw [hR]; decide) rfl (Nat.le_of_ble_eq_true rfl) d_D_digest_182 (fun _ _ => ?_)
  refine g_wsq [co da 3 [.ref (q 0), .ref (q 1), .ref (q 3), .ref (q 7), .ref (q 12), .ref (q 17), .ref (q 18), .ref (q 19), .ref (q 20)], cr B (q 0) 8 (fun z9 => some (q (21 + 2 * z9))), co (q 27) 1 [.ref (q 28), .int (nI n)], cb B (q 28) 8192 x, co (q 33) 1 [.ref (q 34), .int (nI 32)], cb B (q 34) 8192 (wrS v (hsh v 7 x n h).2.2.1 o 0 32), co (q 12) 0 [.int (nI (wbN v)), .int (nI (8 * wbN v)), .int (nI (rdN v)), .ref (b_t B (dk v)), .long (mk9 v), .int (nI (16 * wbN v)), .int (nI (8 * wbN v)), .ref (q 13), .ref (q 14), .ref (q 15), .ref (q 16), .int (nI ((hsh v 7 x n h).2.1)), .long (lN (0 + n)), .long (lN mt)], cb B (q 13) (16 * wbN v) ((hsh v 7 x n h).1), cj B (q 14) 8 ((hsh v 7 x n h).2.2.1), cj B (q 15) (rdN v) ((hsh v 7 x n h).2.2.2)] rfl ?_
  refine g_goto (pc := 185) X (tgt := 323) d_D_digest_185 (by decide) ?_
  refine g_aload_n (pc := 323) X (i := 0) d_D_digest_323 rfl rfl ?_
  refine g_get (pc := 324) X in_D 0 rfl rfl 0 (by decide) wd_121 rfl d_D_digest_324 ?_
  refine g_bipush (pc := 327) X (v := nI 6) d_D_digest_327 (by decide) ?_
  refine g_rald (pc := 329) X 1 rfl 6 rfl (by omega) (by omega) (r := q 33) rfl d_D_digest_329 ?_
  refine g_getN (pc := 330) X in_Y 4 rfl rfl 1 (by decide) wn_2 rfl d_D_digest_330 ?_
  exact kret _ () _ 333 rfl d_D_digest_333

theorem c_D_digest_7 (l : Launch) (B : Bx) (da : Nat) (q : Nat → Nat) (n : Nat) (m : Nat) (n9 : Nat) (s : S3) (x : Nat → Int8) (o : Nat → Int8) (h1 : n ≤ 8192) (h9 : n9 ≤ 8192) : Ci (S := Unit) l B y_D_digest b_D_digest 3 .int (Rm 8 0 0) [.ref da, .int (nI 7), .int (nI n9)] [co da 3 [.ref (q 0), .ref (q 1), .ref (q 3), .ref (q 7), .ref (q 12), .ref (q 17), .ref (q 18), .ref (q 19), .ref (q 20)], cr B (q 0) 8 (fun z9 => some (q (21 + 2 * z9))), co (q 27) 1 [.ref (q 28), .int (nI n)], cb B (q 28) 8192 x, co (q 33) 1 [.ref (q 34), .int (nI m)], cb B (q 34) 8192 o, co (q 3) 2 [.ref (q 4), .ref (q 5), .ref (q 6)], cj B (q 4) 25 s.1, cj B (q 5) 25 s.2.1, cj B (q 6) 5 s.2.2] (fun r _ => r = nI 28) (fun _ => [co da 3 [.ref (q 0), .ref (q 1), .ref (q 3), .ref (q 7), .ref (q 12), .ref (q 17), .ref (q 18), .ref (q 19), .ref (q 20)], cr B (q 0) 8 (fun z9 => some (q (21 + 2 * z9))), co (q 27) 1 [.ref (q 28), .int (nI n)], cb B (q 28) 8192 x, co (q 33) 1 [.ref (q 34), .int (nI 28)], cb B (q 34) 8192 ((sqS 144 28 (abE 144 (nI 6) x n s) o).2.2.2.2), co (q 3) 2 [.ref (q 4), .ref (q 5), .ref (q 6)], cj B (q 4) 25 ((sqS 144 28 (abE 144 (nI 6) x n s) o).1), cj B (q 5) 25 ((sqS 144 28 (abE 144 (nI 6) x n s) o).2.1), cj B (q 6) 5 ((sqS 144 28 (abE 144 (nI 6) x n s) o).2.2.1)]) := by
  refine ctr_i (by decide) (Nat.le_of_ble_eq_true rfl) ?_
  intro M Q hl hR hin X kret
  subst hl
  refine g_lv [(0, .ref da), (1, .int (nI 7)), (2, .int (nI n9))] rfl ?_
  refine g_iload_n (pc := 0) X (i := 1) d_D_digest_0 rfl rfl ?_
  refine g_iconst (pc := 1) X (v := nI 1) d_D_digest_1 (by decide) ?_
  refine g_bipush (pc := 2) X (v := nI 16) d_D_digest_2 (by decide) ?_
  refine g_callSv (pc := 4) X (c_D_requireWithin (m_l M) B 7 1 16 (by omega) (by omega) (by omega)) wd_240 wd_241 wd_1 wd_242 hd_D_requireWithin [] rfl rfl [] (fun _ => rfl) rfl (by rw [hR]; decide) (by rw [hR]; decide) rfl (Nat.le_of_ble_eq_true rfl) d_D_digest_4 (fun _ _ => ?_)
  refine g_wsq [co da 3 [.ref (q 0), .ref (q 1), .ref (q 3), .ref (q 7), .ref (q 12), .ref (q 17), .ref (q 18), .ref (q 19), .ref (q 20)], cr B (q 0) 8 (fun z9 => some (q (21 + 2 * z9))), co (q 27) 1 [.ref (q 28), .int (nI n)], cb B (q 28) 8192 x, co (q 33) 1 [.ref (q 34), .int (nI m)], cb B (q 34) 8192 o, co (q 3) 2 [.ref (q 4), .ref (q 5), .ref (q 6)], cj B (q 4) 25 s.1, cj B (q 5) 25 s.2.1, cj B (q 6) 5 s.2.2] rfl ?_
  refine g_iload_n (pc := 7) X (i := 2) d_D_digest_7 rfl rfl ?_
  refine g_iconst (pc := 8) X (v := nI 0) d_D_digest_8 (by decide) ?_
  refine g_sipush (pc := 9) X (v := nI 8192) d_D_digest_9 (by decide) ?_
  refine g_callSv (pc := 12) X (c_D_requireWithin (m_l M) B n9 0 8192 (by omega) (by omega) (by omega)) wd_240 wd_241 wd_1 wd_242 hd_D_requireWithin [] rfl rfl [] (fun _ => rfl) rfl (by rw [hR]; decide) (by rw [hR]; decide) rfl (Nat.le_of_ble_eq_true rfl) d_D_digest_12 (fun _ _ => ?_)
  refine g_wsq [co da 3 [.ref (q 0), .ref (q 1), .ref (q 3), .ref (q 7), .ref (q 12), .ref (q 17), .ref (q 18), .ref (q 19), .ref (q 20)], cr B (q 0) 8 (fun z9 => some (q (21 + 2 * z9))), co (q 27) 1 [.ref (q 28), .int (nI n)], cb B (q 28) 8192 x, co (q 33) 1 [.ref (q 34), .int (nI m)], cb B (q 34) 8192 o, co (q 3) 2 [.ref (q 4), .ref (q 5), .ref (q 6)], cj B (q 4) 25 s.1, cj B (q 5) 25 s.2.1, cj B (q 6) 5 s.2.2] rfl ?_
  refine g_iload_n (pc := 15) X (i := 1) d_D_digest_15 rfl rfl ?_
  refine g_tableIn (pc := 16) X (tgt := 188) d_D_digest_16 (by decide) (by decide) rfl (by decide) ?_
  refine g_aload_n (pc := 188) X (i := 0) d_D_digest_188 rfl rfl ?_
  refine g_sipush (pc := 189) X (v := nI 144) d_D_digest_189 (by decide) ?_
  refine g_bipush (pc := 192) X (v := nI 6) d_D_digest_192 (by decide) ?_
  refine g_bipush (pc := 194) X (v := nI 28) d_D_digest_194 (by decide) ?_
  refine g_callVv (pc := 196) (q0 := 0) X (c_D_hashInSponge (m_l M) B da q 144 n m 28 s x o (nI 6) (by omega) (by omega) (by omega) (by omega)) wd_658 wd_660 wp_D_hashInSponge wd_1 wd_661 hd_D_hashInSponge [0, 1, 2, 3, 4, 5, 6, 7, 8, 9] rfl rfl [da, q 0, q 27, q 28, q 33, q 34, q 3, q 4, q 5, q 6] (fun _ => rfl) rfl rfl rfl (by rw [hR]; decide) (by rw [hR]; decide) rfl (Nat.le_of_ble_eq_true rfl) d_D_digest_196 (fun _ _ => ?_)
  refine g_wsq [co da 3 [.ref (q 0), .ref (q 1), .ref (q 3), .ref (q 7), .ref (q 12), .ref (q 17), .ref (q 18), .ref (q 19), .ref (q 20)], cr B (q 0) 8 (fun z9 => some (q (21 + 2 * z9))), co (q 27) 1 [.ref (q 28), .int (nI n)], cb B (q 28) 8192 x, co (q 33) 1 [.ref (q 34), .int (nI 28)], cb B (q 34) 8192 ((sqS 144 28 (abE 144 (nI 6) x n s) o).2.2.2.2), co (q 3) 2 [.ref (q 4), .ref (q 5), .ref (q 6)], cj B (q 4) 25 ((sqS 144 28 (abE 144 (nI 6) x n s) o).1), cj B (q 5) 25 ((sqS 144 28 (abE 144 (nI 6) x n s) o).2.1), cj B (q 6) 5 ((sqS 144 28 (abE 144 (nI 6) x n s) o).2.2.1)] rfl ?_
  refine g_goto (pc := 199) X (tgt := 323) d_D_digest_199 (by decide) ?_
  refine g_aload_n (pc := 323) X (i := 0) d_D_digest_323 rfl rfl ?_
  refine g_get (pc := 324) X in_D 0 rfl rfl 0 (by decide) wd_121 rfl d_D_digest_324 ?_
  refine g_bipush (pc := 327) X (v := nI 6) d_D_digest_327 (by decide) ?_
  refine g_rald (pc := 329) X 1 rfl 6 rfl (by omega) (by omega) (r := q 33) rfl d_D_digest_329 ?_
  refine g_getN (pc := 330) X in_Y 4 rfl rfl 1 (by decide) wn_2 rfl d_D_digest_330 ?_
  exact kret _ () _ 333 rfl d_D_digest_333

theorem c_D_digest_8 (l : Launch) (B : Bx) (da : Nat) (q : Nat → Nat) (n : Nat) (m : Nat) (n9 : Nat) (s : S3) (x : Nat → Int8) (o : Nat → Int8) (h1 : n ≤ 8192) (h9 : n9 ≤ 8192) : Ci (S := Unit) l B y_D_digest b_D_digest 3 .int (Rm 8 0 0) [.ref da, .int (nI 8), .int (nI n9)] [co da 3 [.ref (q 0), .ref (q 1), .ref (q 3), .ref (q 7), .ref (q 12), .ref (q 17), .ref (q 18), .ref (q 19), .ref (q 20)], cr B (q 0) 8 (fun z9 => some (q (21 + 2 * z9))), co (q 27) 1 [.ref (q 28), .int (nI n)], cb B (q 28) 8192 x, co (q 33) 1 [.ref (q 34), .int (nI m)], cb B (q 34) 8192 o, co (q 3) 2 [.ref (q 4), .ref (q 5), .ref (q 6)], cj B (q 4) 25 s.1, cj B (q 5) 25 s.2.1, cj B (q 6) 5 s.2.2] (fun r _ => r = nI 32) (fun _ => [co da 3 [.ref (q 0), .ref (q 1), .ref (q 3), .ref (q 7), .ref (q 12), .ref (q 17), .ref (q 18), .ref (q 19), .ref (q 20)], cr B (q 0) 8 (fun z9 => some (q (21 + 2 * z9))), co (q 27) 1 [.ref (q 28), .int (nI n)], cb B (q 28) 8192 x, co (q 33) 1 [.ref (q 34), .int (nI 32)], cb B (q 34) 8192 ((sqS 136 32 (abE 136 (nI 6) x n s) o).2.2.2.2), co (q 3) 2 [.ref (q 4), .ref (q 5), .ref (q 6)], cj B (q 4) 25 ((sqS 136 32 (abE 136 (nI 6) x n s) o).1), cj B (q 5) 25 ((sqS 136 32 (abE 136 (nI 6) x n s) o).2.1), cj B (q 6) 5 ((sqS 136 32 (abE 136 (nI 6) x n s) o).2.2.1)]) := by
  refine ctr_i (by decide) (Nat.le_of_ble_eq_true rfl) ?_
  intro M Q hl hR hin X kret
  subst hl
  refine g_lv [(0, .ref da), (1, .int (nI 8)), (2, .int (nI n9))] rfl ?_
  refine g_iload_n (pc := 0) X (i := 1) d_D_digest_0 rfl rfl ?_
  refine g_iconst (pc := 1) X (v := nI 1) d_D_digest_1 (by decide) ?_
  refine g_bipush (pc := 2) X (v := nI 16) d_D_digest_2 (by decide) ?_
  refine g_callSv (pc := 4) X (c_D_requireWithin (m_l M) B 8 1 16 (by omega) (by omega) (by omega)) wd_240 wd_241 wd_1 wd_242 hd_D_requireWithin [] rfl rfl [] (fun _ => rfl) rfl (by rw [hR]; decide) (by rw [hR]; decide) rfl (Nat.le_of_ble_eq_true rfl) d_D_digest_4 (fun _ _ => ?_)
  refine g_wsq [co da 3 [.ref (q 0), .ref (q 1), .ref (q 3), .ref (q 7), .ref (q 12), .ref (q 17), .ref (q 18), .ref (q 19), .ref (q 20)], cr B (q 0) 8 (fun z9 => some (q (21 + 2 * z9))), co (q 27) 1 [.ref (q 28), .int (nI n)], cb B (q 28) 8192 x, co (q 33) 1 [.ref (q 34), .int (nI m)], cb B (q 34) 8192 o, co (q 3) 2 [.ref (q 4), .ref (q 5), .ref (q 6)], cj B (q 4) 25 s.1, cj B (q 5) 25 s.2.1, cj B (q 6) 5 s.2.2] rfl ?_
  refine g_iload_n (pc := 7) X (i := 2) d_D_digest_7 rfl rfl ?_
  refine g_iconst (pc := 8) X (v := nI 0) d_D_digest_8 (by decide) ?_
  refine g_sipush (pc := 9) X (v := nI 8192) d_D_digest_9 (by decide) ?_
  refine g_callSv (pc := 12) X (c_D_requireWithin (m_l M) B n9 0 8192 (by omega) (by omega) (by omega)) wd_240 wd_241 wd_1 wd_242 hd_D_requireWithin [] rfl rfl [] (fun _ => rfl) rfl (by rw [hR]; decide) (by rw [hR]; decide) rfl (Nat.le_of_ble_eq_true rfl) d_D_digest_12 (fun _ _ => ?_)
  refine g_wsq [co da 3 [.ref (q 0), .ref (q 1), .ref (q 3), .ref (q 7), .ref (q 12), .ref (q 17), .ref (q 18), .ref (q 19), .ref (q 20)], cr B (q 0) 8 (fun z9 => some (q (21 + 2 * z9))), co (q 27) 1 [.ref (q 28), .int (nI n)], cb B (q 28) 8192 x, co (q 33) 1 [.ref (q 34), .int (nI m)], cb B (q 34) 8192 o, co (q 3) 2 [.ref (q 4), .ref (q 5), .ref (q 6)], cj B (q 4) 25 s.1, cj B (q 5) 25 s.2.1, cj B (q 6) 5 s.2.2] rfl ?_
  refine g_iload_n (pc := 15) X (i := 1) d_D_digest_15 rfl rfl ?_
  refine g_tableIn (pc := 16) X (tgt := 202) d_D_digest_16 (by decide) (by decide) rfl (by decide) ?_
  refine g_aload_n (pc := 202) X (i := 0) d_D_digest_202 rfl rfl ?_
  refine g_sipush (pc := 203) X (v := nI 136) d_D_digest_203 (by decide) ?_
  refine g_bipush (pc := 206) X (v := nI 6) d_D_digest_206 (by decide) ?_
  refine g_bipush (pc := 208) X (v := nI 32) d_D_digest_208 (by decide) ?_
  refine g_callVv (pc := 210) (q0 := 0) X (c_D_hashInSponge (m_l M) B da q 136 n m 32 s x o (nI 6) (by omega) (by omega) (by omega) (by omega)) wd_658 wd_660 wp_D_hashInSponge wd_1 wd_661 hd_D_hashInSponge [0, 1, 2, 3, 4, 5, 6, 7, 8, 9] rfl rfl [da, q 0, q 27, q 28, q 33, q 34, q 3, q 4, q 5, q 6] (fun _ => rfl) rfl rfl rfl (by rw [hR]; decide) (by rw [hR]; decide) rfl (Nat.le_of_ble_eq_true rfl) d_D_digest_210 (fun _ _ => ?_)
  refine g_wsq [co da 3 [.ref (q 0), .ref (q 1), .ref (q 3), .ref (q 7), .ref (q 12), .ref (q 17), .ref (q 18), .ref (q 19), .ref (q 20)], cr B (q 0) 8 (fun z9 => some (q (21 + 2 * z9))), co (q 27) 1 [.ref (q 28), .int (nI n)], cb B (q 28) 8192 x, co (q 33) 1 [.ref (q 34), .int (nI 32)], cb B (q 34) 8192 ((sqS 136 32 (abE 136 (nI 6) x n s) o).2.2.2.2), co (q 3) 2 [.ref (q 4), .ref (q 5), .ref (q 6)], cj B (q 4) 25 ((sqS 136 32 (abE 136 (nI 6) x n s) o).1), cj B (q 5) 25 ((sqS 136 32 (abE 136 (nI 6) x n s) o).2.1), cj B (q 6) 5 ((sqS 136 32 (abE 136 (nI 6) x n s) o).2.2.1)] rfl ?_
  refine g_goto (pc := 213) X (tgt := 323) d_D_digest_213 (by decide) ?_
  refine g_aload_n (pc := 323) X (i := 0) d_D_digest_323 rfl rfl ?_
  refine g_get (pc := 324) X in_D 0 rfl rfl 0 (by decide) wd_121 rfl d_D_digest_324 ?_
  refine g_bipush (pc := 327) X (v := nI 6) d_D_digest_327 (by decide) ?_
  refine g_rald (pc := 329) X 1 rfl 6 rfl (by omega) (by omega) (r := q 33) rfl d_D_digest_329 ?_
  refine g_getN (pc := 330) X in_Y 4 rfl rfl 1 (by decide) wn_2 rfl d_D_digest_330 ?_
  exact kret _ () _ 333 rfl d_D_digest_333

theorem c_D_digest_9 (l : Launch) (B : Bx) (da : Nat) (q : Nat → Nat) (n : Nat) (m : Nat) (n9 : Nat) (s : S3) (x : Nat → Int8) (o : Nat → Int8) (h1 : n ≤ 8192) (h9 : n9 ≤ 8192) : Ci (S := Unit) l B y_D_digest b_D_digest 3 .int (Rm 8 0 0) [.ref da, .int (nI 9), .int (nI n9)] [co da 3 [.ref (q 0), .ref (q 1), .ref (q 3), .ref (q 7), .ref (q 12), .ref (q 17), .ref (q 18), .ref (q 19), .ref (q 20)], cr B (q 0) 8 (fun z9 => some (q (21 + 2 * z9))), co (q 27) 1 [.ref (q 28), .int (nI n)], cb B (q 28) 8192 x, co (q 33) 1 [.ref (q 34), .int (nI m)], cb B (q 34) 8192 o, co (q 3) 2 [.ref (q 4), .ref (q 5), .ref (q 6)], cj B (q 4) 25 s.1, cj B (q 5) 25 s.2.1, cj B (q 6) 5 s.2.2] (fun r _ => r = nI 48) (fun _ => [co da 3 [.ref (q 0), .ref (q 1), .ref (q 3), .ref (q 7), .ref (q 12), .ref (q 17), .ref (q 18), .ref (q 19), .ref (q 20)], cr B (q 0) 8 (fun z9 => some (q (21 + 2 * z9))), co (q 27) 1 [.ref (q 28), .int (nI n)], cb B (q 28) 8192 x, co (q 33) 1 [.ref (q 34), .int (nI 48)], cb B (q 34) 8192 ((sqS 104 48 (abE 104 (nI 6) x n s) o).2.2.2.2), co (q 3) 2 [.ref (q 4), .ref (q 5), .ref (q 6)], cj B (q 4) 25 ((sqS 104 48 (abE 104 (nI 6) x n s) o).1), cj B (q 5) 25 ((sqS 104 48 (abE 104 (nI 6) x n s) o).2.1), cj B (q 6) 5 ((sqS 104 48 (abE 104 (nI 6) x n s) o).2.2.1)]) := by
  refine ctr_i (by decide) (Nat.le_of_ble_eq_true rfl) ?_
  intro M Q hl hR hin X kret
  subst hl
  refine g_lv [(0, .ref da), (1, .int (nI 9)), (2, .int (nI n9))] rfl ?_
  refine g_iload_n (pc := 0) X (i := 1) d_D_digest_0 rfl rfl ?_
  refine g_iconst (pc := 1) X (v := nI 1) d_D_digest_1 (by decide) ?_
  refine g_bipush (pc := 2) X (v := nI 16) d_D_digest_2 (by decide) ?_
  refine g_callSv (pc := 4) X (c_D_requireWithin (m_l M) B 9 1 16 (by omega) (by omega) (by omega)) wd_240 wd_241 wd_1 wd_242 hd_D_requireWithin [] rfl rfl [] (fun _ => rfl) rfl (by rw [hR]; decide) (by rw [hR]; decide) rfl (Nat.le_of_ble_eq_true rfl) d_D_digest_4 (fun _ _ => ?_)
  refine g_wsq [co da 3 [.ref (q 0), .ref (q 1), .ref (q 3), .ref (q 7), .ref (q 12), .ref (q 17), .ref (q 18), .ref (q 19), .ref (q 20)], cr B (q 0) 8 (fun z9 => some (q (21 + 2 * z9))), co (q 27) 1 [.ref (q 28), .int (nI n)], cb B (q 28) 8192 x, co (q 33) 1 [.ref (q 34), .int (nI m)], cb B (q 34) 8192 o, co (q 3) 2 [.ref (q 4), .ref (q 5), .ref (q 6)], cj B (q 4) 25 s.1, cj B (q 5) 25 s.2.1, cj B (q 6) 5 s.2.2] rfl ?_
  refine g_iload_n (pc := 7) X (i := 2) d_D_digest_7 rfl rfl ?_
  refine g_iconst (pc := 8) X (v := nI 0) d_D_digest_8 (by decide) ?_
  refine g_sipush (pc := 9) X (v := nI 8192) d_D_digest_9 (by decide) ?_
  refine g_callSv (pc := 12) X (c_D_requireWithin (m_l M) B n9 0 8192 (by omega) (by omega) (by omega)) wd_240 wd_241 wd_1 wd_242 hd_D_requireWithin [] rfl rfl [] (fun _ => rfl) rfl (by rw [hR]; decide) (by rw [hR]; decide) rfl (Nat.le_of_ble_eq_true rfl) d_D_digest_12 (fun _ _ => ?_)
  refine g_wsq [co da 3 [.ref (q 0), .ref (q 1), .ref (q 3), .ref (q 7), .ref (q 12), .ref (q 17), .ref (q 18), .ref (q 19), .ref (q 20)], cr B (q 0) 8 (fun z9 => some (q (21 + 2 * z9))), co (q 27) 1 [.ref (q 28), .int (nI n)], cb B (q 28) 8192 x, co (q 33) 1 [.ref (q 34), .int (nI m)], cb B (q 34) 8192 o, co (q 3) 2 [.ref (q 4), .ref (q 5), .ref (q 6)], cj B (q 4) 25 s.1, cj B (q 5) 25 s.2.1, cj B (q 6) 5 s.2.2] rfl ?_
  refine g_iload_n (pc := 15) X (i := 1) d_D_digest_15 rfl rfl ?_
  refine g_tableIn (pc := 16) X (tgt := 216) d_D_digest_16 (by decide) (by decide) rfl (by decide) ?_
  refine g_aload_n (pc := 216) X (i := 0) d_D_digest_216 rfl rfl ?_
  refine g_bipush (pc := 217) X (v := nI 104) d_D_digest_217 (by decide) ?_
  refine g_bipush (pc := 219) X (v := nI 6) d_D_digest_219 (by decide) ?_
  refine g_bipush (pc := 221) X (v := nI 48) d_D_digest_221 (by decide) ?_
  refine g_callVv (pc := 223) (q0 := 0) X (c_D_hashInSponge (m_l M) B da q 104 n m 48 s x o (nI 6) (by omega) (by omega) (by omega) (by omega)) wd_658 wd_660 wp_D_hashInSponge wd_1 wd_661 hd_D_hashInSponge [0, 1, 2, 3, 4, 5, 6, 7, 8, 9] rfl rfl [da, q 0, q 27, q 28, q 33, q 34, q 3, q 4, q 5, q 6] (fun _ => rfl) rfl rfl rfl (by rw [hR]; decide) (by rw [hR]; decide) rfl (Nat.le_of_ble_eq_true rfl) d_D_digest_223 (fun _ _ => ?_)
  refine g_wsq [co da 3 [.ref (q 0), .ref (q 1), .ref (q 3), .ref (q 7), .ref (q 12), .ref (q 17), .ref (q 18), .ref (q 19), .ref (q 20)], cr B (q 0) 8 (fun z9 => some (q (21 + 2 * z9))), co (q 27) 1 [.ref (q 28), .int (nI n)], cb B (q 28) 8192 x, co (q 33) 1 [.ref (q 34), .int (nI 48)], cb B (q 34) 8192 ((sqS 104 48 (abE 104 (nI 6) x n s) o).2.2.2.2), co (q 3) 2 [.ref (q 4), .ref (q 5), .ref (q 6)], cj B (q 4) 25 ((sqS 104 48 (abE 104 (nI 6) x n s) o).1), cj B (q 5) 25 ((sqS 104 48 (abE 104 (nI 6) x n s) o).2.1), cj B (q 6) 5 ((sqS 104 48 (abE 104 (nI 6) x n s) o).2.2.1)] rfl ?_
  refine g_goto (pc := 226) X (tgt := 323) d_D_digest_226 (by decide) ?_
  refine g_aload_n (pc := 323) X (i := 0) d_D_digest_323 rfl rfl ?_
  refine g_get (pc := 324) X in_D 0 rfl rfl 0 (by decide) wd_121 rfl d_D_digest_324 ?_
  refine g_bipush (pc := 327) X (v := nI 6) d_D_digest_327 (by decide) ?_
  refine g_rald (pc := 329) X 1 rfl 6 rfl (by omega) (by omega) (r := q 33) rfl d_D_digest_329 ?_
  refine g_getN (pc := 330) X in_Y 4 rfl rfl 1 (by decide) wn_2 rfl d_D_digest_330 ?_
  exact kret _ () _ 333 rfl d_D_digest_333

theorem c_D_digest_10 (l : Launch) (B : Bx) (da : Nat) (q : Nat → Nat) (n : Nat) (m : Nat) (n9 : Nat) (s : S3) (x : Nat → Int8) (o : Nat → Int8) (h1 : n ≤ 8192) (h9 : n9 ≤ 8192) : Ci (S := Unit) l B y_D_digest b_D_digest 3 .int (Rm 8 0 0) [.ref da, .int (nI 10), .int (nI n9)] [co da 3 [.ref (q 0), .ref (q 1), .ref (q 3), .ref (q 7), .ref (q 12), .ref (q 17), .ref (q 18), .ref (q 19), .ref (q 20)], cr B (q 0) 8 (fun z9 => some (q (21 + 2 * z9))), co (q 27) 1 [.ref (q 28), .int (nI n)], cb B (q 28) 8192 x, co (q 33) 1 [.ref (q 34), .int (nI m)], cb B (q 34) 8192 o, co (q 3) 2 [.ref (q 4), .ref (q 5), .ref (q 6)], cj B (q 4) 25 s.1, cj B (q 5) 25 s.2.1, cj B (q 6) 5 s.2.2] (fun r _ => r = nI 64) (fun _ => [co da 3 [.ref (q 0), .ref (q 1), .ref (q 3), .ref (q 7), .ref (q 12), .ref (q 17), .ref (q 18), .ref (q 19), .ref (q 20)], cr B (q 0) 8 (fun z9 => some (q (21 + 2 * z9))), co (q 27) 1 [.ref (q 28), .int (nI n)], cb B (q 28) 8192 x, co (q 33) 1 [.ref (q 34), .int (nI 64)], cb B (q 34) 8192 ((sqS 72 64 (abE 72 (nI 6) x n s) o).2.2.2.2), co (q 3) 2 [.ref (q 4), .ref (q 5), .ref (q 6)], cj B (q 4) 25 ((sqS 72 64 (abE 72 (nI 6) x n s) o).1), cj B (q 5) 25 ((sqS 72 64 (abE 72 (nI 6) x n s) o).2.1), cj B (q 6) 5 ((sqS 72 64 (abE 72 (nI 6) x n s) o).2.2.1)]) := by
  refine ctr_i (by decide) (Nat.le_of_ble_eq_true rfl) ?_
  intro M Q hl hR hin X kret
  subst hl
  refine g_lv [(0, .ref da), (1, .int (nI 10)), (2, .int (nI n9))] rfl ?_
  refine g_iload_n (pc := 0) X (i := 1) d_D_digest_0 rfl rfl ?_
  refine g_iconst (pc := 1) X (v := nI 1) d_D_digest_1 (by decide) ?_
  refine g_bipush (pc := 2) X (v := nI 16) d_D_digest_2 (by decide) ?_
  refine g_callSv (pc := 4) X (c_D_requireWithin (m_l M) B 10 1 16 (by omega) (by omega) (by omega)) wd_240 wd_241 wd_1 wd_242 hd_D_requireWithin [] rfl rfl [] (fun _ => rfl) rfl (by rw [hR]; decide) (by rw [hR]; decide) rfl (Nat.le_of_ble_eq_true rfl) d_D_digest_4 (fun _ _ => ?_)
  refine g_wsq [co da 3 [.ref (q 0), .ref (q 1), .ref (q 3), .ref (q 7), .ref (q 12), .ref (q 17), .ref (q 18), .ref (q 19), .ref (q 20)], cr B (q 0) 8 (fun z9 => some (q (21 + 2 * z9))), co (q 27) 1 [.ref (q 28), .int (nI n)], cb B (q 28) 8192 x, co (q 33) 1 [.ref (q 34), .int (nI m)], cb B (q 34) 8192 o, co (q 3) 2 [.ref (q 4), .ref (q 5), .ref (q 6)], cj B (q 4) 25 s.1, cj B (q 5) 25 s.2.1, cj B (q 6) 5 s.2.2] rfl ?_
  refine g_iload_n (pc := 7) X (i := 2) d_D_digest_7 rfl rfl ?_
  refine g_iconst (pc := 8) X (v := nI 0) d_D_digest_8 (by decide) ?_
  refine g_sipush (pc := 9) X (v := nI 8192) d_D_digest_9 (by decide) ?_
  refine g_callSv (pc := 12) X (c_D_requireWithin (m_l M) B n9 0 8192 (by omega) (by omega) (by omega)) wd_240 wd_241 wd_1 wd_242 hd_D_requireWithin [] rfl rfl [] (fun _ => rfl) rfl (by rw [hR]; decide) (by rw [hR]; decide) rfl (Nat.le_of_ble_eq_true rfl) d_D_digest_12 (fun _ _ => ?_)
  refine g_wsq [co da 3 [.ref (q 0), .ref (q 1), .ref (q 3), .ref (q 7), .ref (q 12), .ref (q 17), .ref (q 18), .ref (q 19), .ref (q 20)], cr B (q 0) 8 (fun z9 => some (q (21 + 2 * z9))), co (q 27) 1 [.ref (q 28), .int (nI n)], cb B (q 28) 8192 x, co (q 33) 1 [.ref (q 34), .int (nI m)], cb B (q 34) 8192 o, co (q 3) 2 [.ref (q 4), .ref (q 5), .ref (q 6)], cj B (q 4) 25 s.1, cj B (q 5) 25 s.2.1, cj B (q 6) 5 s.2.2] rfl ?_
  refine g_iload_n (pc := 15) X (i := 1) d_D_digest_15 rfl rfl ?_
  refine g_tableIn (pc := 16) X (tgt := 229) d_D_digest_16 (by decide) (by decide) rfl (by decide) ?_
  refine g_aload_n (pc := 229) X (i := 0) d_D_digest_229 rfl rfl ?_
  refine g_bipush (pc := 230) X (v := nI 72) d_D_digest_230 (by decide) ?_
  refine g_bipush (pc := 232) X (v := nI 6) d_D_digest_232 (by decide) ?_
  refine g_bipush (pc := 234) X (v := nI 64) d_D_digest_234 (by decide) ?_
  refine g_callVv (pc := 236) (q0 := 0) X (c_D_hashInSponge (m_l M) B da q 72 n m 64 s x o (nI 6) (by omega) (by omega) (by omega) (by omega)) wd_658 wd_660 wp_D_hashInSponge wd_1 wd_661 hd_D_hashInSponge [0, 1, 2, 3, 4, 5, 6, 7, 8, 9] rfl rfl [da, q 0, q 27, q 28, q 33, q 34, q 3, q 4, q 5, q 6] (fun _ => rfl) rfl rfl rfl (by rw [hR]; decide) (by rw [hR]; decide) rfl (Nat.le_of_ble_eq_true rfl) d_D_digest_236 (fun _ _ => ?_)
  refine g_wsq [co da 3 [.ref (q 0), .ref (q 1), .ref (q 3), .ref (q 7), .ref (q 12), .ref (q 17), .ref (q 18), .ref (q 19), .ref (q 20)], cr B (q 0) 8 (fun z9 => some (q (21 + 2 * z9))), co (q 27) 1 [.ref (q 28), .int (nI n)], cb B (q 28) 8192 x, co (q 33) 1 [.ref (q 34), .int (nI 64)], cb B (q 34) 8192 ((sqS 72 64 (abE 72 (nI 6) x n s) o).2.2.2.2), co (q 3) 2 [.ref (q 4), .ref (q 5), .ref (q 6)], cj B (q 4) 25 ((sqS 72 64 (abE 72 (nI 6) x n s) o).1), cj B (q 5) 25 ((sqS 72 64 (abE 72 (nI 6) x n s) o).2.1), cj B (q 6) 5 ((sqS 72 64 (abE 72 (nI 6) x n s) o).2.2.1)] rfl ?_
  refine g_goto (pc := 239) X (tgt := 323) d_D_digest_239 (by decide) ?_
  refine g_aload_n (pc := 323) X (i := 0) d_D_digest_323 rfl rfl ?_
  refine g_get (pc := 324) X in_D 0 rfl rfl 0 (by decide) wd_121 rfl d_D_digest_324 ?_
  refine g_bipush (pc := 327) X (v := nI 6) d_D_digest_327 (by decide) ?_
  refine g_rald (pc := 329) X 1 rfl 6 rfl (by omega) (by omega) (r := q 33) rfl d_D_digest_329 ?_
  refine g_getN (pc := 330) X in_Y 4 rfl rfl 1 (by decide) wn_2 rfl d_D_digest_330 ?_
  exact kret _ () _ 333 rfl d_D_digest_333

theorem c_D_digest_11 (l : Launch) (B : Bx) (da : Nat) (q : Nat → Nat) (n : Nat) (m : Nat) (n9 : Nat) (s : S3) (x : Nat → Int8) (o : Nat → Int8) (h1 : n ≤ 8192) (h9 : n9 ≤ 8192) : Ci (S := Unit) l B y_D_digest b_D_digest 3 .int (Rm 8 0 0) [.ref da, .int (nI 11), .int (nI n9)] [co da 3 [.ref (q 0), .ref (q 1), .ref (q 3), .ref (q 7), .ref (q 12), .ref (q 17), .ref (q 18), .ref (q 19), .ref (q 20)], cr B (q 0) 8 (fun z9 => some (q (21 + 2 * z9))), co (q 27) 1 [.ref (q 28), .int (nI n)], cb B (q 28) 8192 x, co (q 33) 1 [.ref (q 34), .int (nI m)], cb B (q 34) 8192 o, co (q 3) 2 [.ref (q 4), .ref (q 5), .ref (q 6)], cj B (q 4) 25 s.1, cj B (q 5) 25 s.2.1, cj B (q 6) 5 s.2.2] (fun r _ => r = nI n9) (fun _ => [co da 3 [.ref (q 0), .ref (q 1), .ref (q 3), .ref (q 7), .ref (q 12), .ref (q 17), .ref (q 18), .ref (q 19), .ref (q 20)], cr B (q 0) 8 (fun z9 => some (q (21 + 2 * z9))), co (q 27) 1 [.ref (q 28), .int (nI n)], cb B (q 28) 8192 x, co (q 33) 1 [.ref (q 34), .int (nI n9)], cb B (q 34) 8192 ((sqS 168 n9 (abE 168 (nI 31) x n s) o).2.2.2.2), co (q 3) 2 [.ref (q 4), .ref (q 5), .ref (q 6)], cj B (q 4) 25 ((sqS 168 n9 (abE 168 (nI 31) x n s) o).1), cj B (q 5) 25 ((sqS 168 n9 (abE 168 (nI 31) x n s) o).2.1), cj B (q 6) 5 ((sqS 168 n9 (abE 168 (nI 31) x n s) o).2.2.1)]) := by
  refine ctr_i (by decide) (Nat.le_of_ble_eq_true rfl) ?_
  intro M Q hl hR hin X kret
  subst hl
  refine g_lv [(0, .ref da), (1, .int (nI 11)), (2, .int (nI n9))] rfl ?_
  refine g_iload_n (pc := 0) X (i := 1) d_D_digest_0 rfl rfl ?_
  refine g_iconst (pc := 1) X (v := nI 1) d_D_digest_1 (by decide) ?_
  refine g_bipush (pc := 2) X (v := nI 16) d_D_digest_2 (by decide) ?_
  refine g_callSv (pc := 4) X (c_D_requireWithin (m_l M) B 11 1 16 (by omega) (by omega) (by omega)) wd_240 wd_241 wd_1 wd_242 hd_D_requireWithin [] rfl rfl [] (fun _ => rfl) rfl (by rw [hR]; decide) (by rw [hR]; decide) rfl (Nat.le_of_ble_eq_true rfl) d_D_digest_4 (fun _ _ => ?_)
  refine g_wsq [co da 3 [.ref (q 0), .ref (q 1), .ref (q 3), .ref (q 7), .ref (q 12), .ref (q 17), .ref (q 18), .ref (q 19), .ref (q 20)], cr B (q 0) 8 (fun z9 => some (q (21 + 2 * z9))), co (q 27) 1 [.ref (q 28), .int (nI n)], cb B (q 28) 8192 x, co (q 33) 1 [.ref (q 34), .int (nI m)], cb B (q 34) 8192 o, co (q 3) 2 [.ref (q 4), .ref (q 5), .ref (q 6)], cj B (q 4) 25 s.1, cj B (q 5) 25 s.2.1, cj B (q 6) 5 s.2.2] rfl ?_
  refine g_iload_n (pc := 7) X (i := 2) d_D_digest_7 rfl rfl ?_
  refine g_iconst (pc := 8) X (v := nI 0) d_D_digest_8 (by decide) ?_
  refine g_sipush (pc := 9) X (v := nI 8192) d_D_digest_9 (by decide) ?_
  refine g_callSv (pc := 12) X (c_D_requireWithin (m_l M) B n9 0 8192 (by omega) (by omega) (by omega)) wd_240 wd_241 wd_1 wd_242 hd_D_requireWithin [] rfl rfl [] (fun _ => rfl) rfl (by rw [hR]; decide) (by rw [hR]; decide) rfl (Nat.le_of_ble_eq_true rfl) d_D_digest_12 (fun _ _ => ?_)
  refine g_wsq [co da 3 [.ref (q 0), .ref (q 1), .ref (q 3), .ref (q 7), .ref (q 12), .ref (q 17), .ref (q 18), .ref (q 19), .ref (q 20)], cr B (q 0) 8 (fun z9 => some (q (21 + 2 * z9))), co (q 27) 1 [.ref (q 28), .int (nI n)], cb B (q 28) 8192 x, co (q 33) 1 [.ref (q 34), .int (nI m)], cb B (q 34) 8192 o, co (q 3) 2 [.ref (q 4), .ref (q 5), .ref (q 6)], cj B (q 4) 25 s.1, cj B (q 5) 25 s.2.1, cj B (q 6) 5 s.2.2] rfl ?_
  refine g_iload_n (pc := 15) X (i := 1) d_D_digest_15 rfl rfl ?_
  refine g_tableIn (pc := 16) X (tgt := 242) d_D_digest_16 (by decide) (by decide) rfl (by decide) ?_
  refine g_aload_n (pc := 242) X (i := 0) d_D_digest_242 rfl rfl ?_
  refine g_sipush (pc := 243) X (v := nI 168) d_D_digest_243 (by decide) ?_
  refine g_bipush (pc := 246) X (v := nI 31) d_D_digest_246 (by decide) ?_
  refine g_iload_n (pc := 248) X (i := 2) d_D_digest_248 rfl rfl ?_
  refine g_callVv (pc := 249) (q0 := 0) X (c_D_hashInSponge (m_l M) B da q 168 n m n9 s x o (nI 31) (by omega) (by omega) (by omega) (by omega)) wd_658 wd_660 wp_D_hashInSponge wd_1 wd_661 hd_D_hashInSponge [0, 1, 2, 3, 4, 5, 6, 7, 8, 9] rfl rfl [da, q 0, q 27, q 28, q 33, q 34, q 3, q 4, q 5, q 6] (fun _ => rfl) rfl rfl rfl (by rw [hR]; decide) (by rw [hR]; decide) rfl (Nat.le_of_ble_eq_true rfl) d_D_digest_249 (fun _ _ => ?_)
  refine g_wsq [co da 3 [.ref (q 0), .ref (q 1), .ref (q 3), .ref (q 7), .ref (q 12), .ref (q 17), .ref (q 18), .ref (q 19), .ref (q 20)], cr B (q 0) 8 (fun z9 => some (q (21 + 2 * z9))), co (q 27) 1 [.ref (q 28), .int (nI n)], cb B (q 28) 8192 x, co (q 33) 1 [.ref (q 34), .int (nI n9)], cb B (q 34) 8192 ((sqS 168 n9 (abE 168 (nI 31) x n s) o).2.2.2.2), co (q 3) 2 [.ref (q 4), .ref (q 5), .ref (q 6)], cj B (q 4) 25 ((sqS 168 n9 (abE 168 (nI 31) x n s) o).1), cj B (q 5) 25 ((sqS 168 n9 (abE 168 (nI 31) x n s) o).2.1), cj B (q 6) 5 ((sqS 168 n9 (abE 168 (nI 31) x n s) o).2.2.1)] rfl ?_
  refine g_goto (pc := 252) X (tgt := 323) d_D_digest_252 (by decide) ?_
  refine g_aload_n (pc := 323) X (i := 0) d_D_digest_323 rfl rfl ?_
  refine g_get (pc := 324) X in_D 0 rfl rfl 0 (by decide) wd_121 rfl d_D_digest_324 ?_
  refine g_bipush (pc := 327) X (v := nI 6) d_D_digest_327 (by decide) ?_
  refine g_rald (pc := 329) X 1 rfl 6 rfl (by omega) (by omega) (r := q 33) rfl d_D_digest_329 ?_
  refine g_getN (pc := 330) X in_Y 4 rfl rfl 1 (by decide) wn_2 rfl d_D_digest_330 ?_
  exact kret _ () _ 333 rfl d_D_digest_333

theorem c_D_digest_12 (l : Launch) (B : Bx) (da : Nat) (q : Nat → Nat) (n : Nat) (m : Nat) (n9 : Nat) (s : S3) (x : Nat → Int8) (o : Nat → Int8) (h1 : n ≤ 8192) (h9 : n9 ≤ 8192) : Ci (S := Unit) l B y_D_digest b_D_digest 3 .int (Rm 8 0 0) [.ref da, .int (nI 12), .int (nI n9)] [co da 3 [.ref (q 0), .ref (q 1), .ref (q 3), .ref (q 7), .ref (q 12), .ref (q 17), .ref (q 18), .ref (q 19), .ref (q 20)], cr B (q 0) 8 (fun z9 => some (q (21 + 2 * z9))), co (q 27) 1 [.ref (q 28), .int (nI n)], cb B (q 28) 8192 x, co (q 33) 1 [.ref (q 34), .int (nI m)], cb B (q 34) 8192 o, co (q 3) 2 [.ref (q 4), .ref (q 5), .ref (q 6)], cj B (q 4) 25 s.1, cj B (q 5) 25 s.2.1, cj B (q 6) 5 s.2.2] (fun r _ => r = nI n9) (fun _ => [co da 3 [.ref (q 0), .ref (q 1), .ref (q 3), .ref (q 7), .ref (q 12), .ref (q 17), .ref (q 18), .ref (q 19), .ref (q 20)], cr B (q 0) 8 (fun z9 => some (q (21 + 2 * z9))), co (q 27) 1 [.ref (q 28), .int (nI n)], cb B (q 28) 8192 x, co (q 33) 1 [.ref (q 34), .int (nI n9)], cb B (q 34) 8192 ((sqS 136 n9 (abE 136 (nI 31) x n s) o).2.2.2.2), co (q 3) 2 [.ref (q 4), .ref (q 5), .ref (q 6)], cj B (q 4) 25 ((sqS 136 n9 (abE 136 (nI 31) x n s) o).1), cj B (q 5) 25 ((sqS 136 n9 (abE 136 (nI 31) x n s) o).2.1), cj B (q 6) 5 ((sqS 136 n9 (abE 136 (nI 31) x n s) o).2.2.1)]) := by
  refine ctr_i (by decide) (Nat.le_of_ble_eq_true rfl) ?_
  intro M Q hl hR hin X kret
  subst hl
  refine g_lv [(0, .ref da), (1, .int (nI 12)), (2, .int (nI n9))] rfl ?_
  refine g_iload_n (pc := 0) X (i := 1) d_D_digest_0 rfl rfl ?_
  refine g_iconst (pc := 1) X (v := nI 1) d_D_digest_1 (by decide) ?_
  refine g_bipush (pc := 2) X (v := nI 16) d_D_digest_2 (by decide) ?_
  refine g_callSv (pc := 4) X (c_D_requireWithin (m_l M) B 12 1 16 (by omega) (by omega) (by omega)) wd_240 wd_241 wd_1 wd_242 hd_D_requireWithin [] rfl rfl [] (fun _ => rfl) rfl (by rw [hR]; decide) (by rw [hR]; decide) rfl (Nat.le_of_ble_eq_true rfl) d_D_digest_4 (fun _ _ => ?_)
  refine g_wsq [co da 3 [.ref (q 0), .ref (q 1), .ref (q 3), .ref (q 7), .ref (q 12), .ref (q 17), .ref (q 18), .ref (q 19), .ref (q 20)], cr B (q 0) 8 (fun z9 => some (q (21 + 2 * z9))), co (q 27) 1 [.ref (q 28), .int (nI n)], cb B (q 28) 8192 x, co (q 33) 1 [.ref (q 34), .int (nI m)], cb B (q 34) 8192 o, co (q 3) 2 [.ref (q 4), .ref (q 5), .ref (q 6)], cj B (q 4) 25 s.1, cj B (q 5) 25 s.2.1, cj B (q 6) 5 s.2.2] rfl ?_
  refine g_iload_n (pc := 7) X (i := 2) d_D_digest_7 rfl rfl ?_
  refine g_iconst (pc := 8) X (v := nI 0) d_D_digest_8 (by decide) ?_
  refine g_sipush (pc := 9) X (v := nI 8192) d_D_digest_9 (by decide) ?_
  refine g_callSv (pc := 12) X (c_D_requireWithin (m_l M) B n9 0 8192 (by omega) (by omega) (by omega)) wd_240 wd_241 wd_1 wd_242 hd_D_requireWithin [] rfl rfl [] (fun _ => rfl) rfl (by rw [hR]; decide) (by rw [hR]; decide) rfl (Nat.le_of_ble_eq_true rfl) d_D_digest_12 (fun _ _ => ?_)
  refine g_wsq [co da 3 [.ref (q 0), .ref (q 1), .ref (q 3), .ref (q 7), .ref (q 12), .ref (q 17), .ref (q 18), .ref (q 19), .ref (q 20)], cr B (q 0) 8 (fun z9 => some (q (21 + 2 * z9))), co (q 27) 1 [.ref (q 28), .int (nI n)], cb B (q 28) 8192 x, co (q 33) 1 [.ref (q 34), .int (nI m)], cb B (q 34) 8192 o, co (q 3) 2 [.ref (q 4), .ref (q 5), .ref (q 6)], cj B (q 4) 25 s.1, cj B (q 5) 25 s.2.1, cj B (q 6) 5 s.2.2] rfl ?_
  refine g_iload_n (pc := 15) X (i := 1) d_D_digest_15 rfl rfl ?_
  refine g_tableIn (pc := 16) X (tgt := 255) d_D_digest_16 (by decide) (by decide) rfl (by decide) ?_
  refine g_aload_n (pc := 255) X (i := 0) d_D_digest_255 rfl rfl ?_
  refine g_sipush (pc := 256) X (v := nI 136) d_D_digest_256 (by decide) ?_
  refine g_bipush (pc := 259) X (v := nI 31) d_D_digest_259 (by decide) ?_
  refine g_iload_n (pc := 261) X (i := 2) d_D_digest_261 rfl rfl ?_
  refine g_callVv (pc := 262) (q0 := 0) X (c_D_hashInSponge (m_l M) B da q 136 n m n9 s x o (nI 31) (by omega) (by omega) (by omega) (by omega)) wd_658 wd_660 wp_D_hashInSponge wd_1 wd_661 hd_D_hashInSponge [0, 1, 2, 3, 4, 5, 6, 7, 8, 9] rfl rfl [da, q 0, q 27, q 28, q 33, q 34, q 3, q 4, q 5, q 6] (fun _ => rfl) rfl rfl rfl (by rw [hR]; decide) (by rw [hR]; decide) rfl (Nat.le_of_ble_eq_true rfl) d_D_digest_262 (fun _ _ => ?_)
  refine g_wsq [co da 3 [.ref (q 0), .ref (q 1), .ref (q 3), .ref (q 7), .ref (q 12), .ref (q 17), .ref (q 18), .ref (q 19), .ref (q 20)], cr B (q 0) 8 (fun z9 => some (q (21 + 2 * z9))), co (q 27) 1 [.ref (q 28), .int (nI n)], cb B (q 28) 8192 x, co (q 33) 1 [.ref (q 34), .int (nI n9)], cb B (q 34) 8192 ((sqS 136 n9 (abE 136 (nI 31) x n s) o).2.2.2.2), co (q 3) 2 [.ref (q 4), .ref (q 5), .ref (q 6)], cj B (q 4) 25 ((sqS 136 n9 (abE 136 (nI 31) x n s) o).1), cj B (q 5) 25 ((sqS 136 n9 (abE 136 (nI 31) x n s) o).2.1), cj B (q 6) 5 ((sqS 136 n9 (abE 136 (nI 31) x n s) o).2.2.1)] rfl ?_
  refine g_goto (pc := 265) X (tgt := 323) d_D_digest_265 (by decide) ?_
  refine g_aload_n (pc := 323) X (i := 0) d_D_digest_323 rfl rfl ?_
  refine g_get (pc := 324) X in_D 0 rfl rfl 0 (by decide) wd_121 rfl d_D_digest_324 ?_
  refine g_bipush (pc := 327) X (v := nI 6) d_D_digest_327 (by decide) ?_
  refine g_rald (pc := 329) X 1 rfl 6 rfl (by omega) (by omega) (r := q 33) rfl d_D_digest_329 ?_
  refine g_getN (pc := 330) X in_Y 4 rfl rfl 1 (by decide) wn_2 rfl d_D_digest_330 ?_
  exact kret _ () _ 333 rfl d_D_digest_333

theorem c_D_digest_13 (l : Launch) (B : Bx) (da : Nat) (q : Nat → Nat) (v : Bool) (tt : Nat) (mt : Nat) (h : H4) (n : Nat) (m : Nat) (rl : Nat) (n9 : Nat) (x : Nat → Int8) (o : Nat → Int8) (r : Nat → Int8) (kf : Nat → Int8) (p : Nat → Int8) (inn : Nat → Int8) (h1 : n ≤ 8192) (h2 : rl ≤ 8192) (h9 : n9 ≤ 8192) : Ci (S := Unit) l B y_D_digest b_D_digest 3 .int (Rm 8 0 0) [.ref da, .int (nI 13), .int (nI n9)] [co da 3 [.ref (q 0), .ref (q 1), .ref (q 3), .ref (q 7), .ref (q 12), .ref (q 17), .ref (q 18), .ref (q 19), .ref (q 20)], cr B (q 0) 8 (fun z9 => some (q (21 + 2 * z9))), co (q 21) 1 [.ref (q 22), .int (nI rl)], cb B (q 22) 8192 r, co (q 27) 1 [.ref (q 28), .int (nI n)], cb B (q 28) 8192 x, co (q 33) 1 [.ref (q 34), .int (nI m)], cb B (q 34) 8192 o, cb B (q 17) 128 kf, cb B (q 18) 128 p, cb B (q 19) 64 inn, co (q 7) 0 [.int (nI (wbN v)), .int (nI (8 * wbN v)), .int (nI (rdN v)), .ref (b_t B (dk v)), .long (mk9 v), .int (nI (16 * wbN v)), .int (nI (8 * wbN v)), .ref (q 8), .ref (q 9), .ref (q 10), .ref (q 11), .int (nI h.2.1), .long (lN tt), .long (lN mt)], cb B (q 8) (16 * wbN v) h.1, cj B (q 9) 8 h.2.2.1, cj B (q 10) (rdN v) h.2.2.2] (fun r _ => r = nI (8 * wbN v)) (fun _ => [co da 3 [.ref (q 0), .ref (q 1), .ref (q 3), .ref (q 7), .ref (q 12), .ref (q 17), .ref (q 18), .ref (q 19), .ref (q 20)], cr B (q 0) 8 (fun z9 => some (q (21 + 2 * z9))), co (q 21) 1 [.ref (q 22), .int (nI rl)], cb B (q 22) 8192 r, co (q 27) 1 [.ref (q 28), .int (nI n)], cb B (q 28) 8192 x, co (q 33) 1 [.ref (q 34), .int (nI (8 * wbN v))], cb B (q 34) 8192 (wrS v (hk4 v 2 r rl x n h kf p inn).2.2.1 o 0 (8 * wbN v)), cb B (q 17) 128 (keyB v 2 r rl h kf), cb B (q 18) 128 (hkP v 2 r rl h kf p), cb B (q 19) 64 (hkI v 2 r rl x n h kf p inn), co (q 7) 0 [.int (nI (wbN v)), .int (nI (8 * wbN v)), .int (nI (rdN v)), .ref (b_t B (dk v)), .long (mk9 v), .int (nI (16 * wbN v)), .int (nI (8 * wbN v)), .ref (q 8), .ref (q 9), .ref (q 10), .ref (q 11), .int (nI ((hk4 v 2 r rl x n h kf p inn).2.1)), .long (lN (0 + 16 * wbN v + 8 * wbN v)), .long (lN mt)], cb B (q 8) (16 * wbN v) ((hk4 v 2 r rl x n h kf p inn).1), cj B (q 9) 8 ((hk4 v 2 r rl x n h kf p inn).2.2.1), cj B (q 10) (rdN v) ((hk4 v 2 r rl x n h kf p inn).2.2.2)]) := by
  refine ctr_i (by decide) (Nat.le_of_ble_eq_true rfl) ?_
  intro M Q hl hR hin X kret
  subst hl
  refine g_lv [(0, .ref da), (1, .int (nI 13)), (2, .int (nI n9))] rfl ?_
  refine g_iload_n (pc := 0) X (i := 1) d_D_digest_0 rfl rfl ?_
  refine g_iconst (pc := 1) X (v := nI 1) d_D_digest_1 (by decide) ?_
  refine g_bipush (pc := 2) X (v := nI 16) d_D_digest_2 (by decide) ?_
  refine g_callSv (pc := 4) X (c_D_requireWithin (m_l M) B 13 1 16 (by omega) (by omega) (by omega)) wd_240 wd_241 wd_1 wd_242 hd_D_requireWithin [] rfl rfl [] (fun _ => rfl) rfl (by rw [hR]; decide) (by rw [hR]; decide) rfl (Nat.le_of_ble_eq_true rfl) d_D_digest_4 (fun _ _ => ?_)
  refine g_wsq [co da 3 [.ref (q 0), .ref (q 1), .ref (q 3), .ref (q 7), .ref (q 12), .ref (q 17), .ref (q 18), .ref (q 19), .ref (q 20)], cr B (q 0) 8 (fun z9 => some (q (21 + 2 * z9))), co (q 21) 1 [.ref (q 22), .int (nI rl)], cb B (q 22) 8192 r, co (q 27) 1 [.ref (q 28), .int (nI n)], cb B (q 28) 8192 x, co (q 33) 1 [.ref (q 34), .int (nI m)], cb B (q 34) 8192 o, cb B (q 17) 128 kf, cb B (q 18) 128 p, cb B (q 19) 64 inn, co (q 7) 0 [.int (nI (wbN v)), .int (nI (8 * wbN v)), .int (nI (rdN v)), .ref (b_t B (dk v)), .long (mk9 v), .int (nI (16 * wbN v)), .int (nI (8 * wbN v)), .ref (q 8), .ref (q 9), .ref (q 10), .ref (q 11), .int (nI h.2.1), .long (lN tt), .long (lN mt)], cb B (q 8) (16 * wbN v) h.1, cj B (q 9) 8 h.2.2.1, cj B (q 10) (rdN v) h.2.2.2] rfl ?_
  refine g_iload_n (pc := 7) X (i := 2) d_D_digest_7 rfl rfl ?_
  refine g_iconst (pc := 8) X (v := nI 0) d_D_digest_8 (by decide) ?_
  refine g_sipush (pc := 9) X (v := nI 8192) d_D_digest_9 (by decide) ?_
  refine g_callSv (pc := 12) X (c_D_requireWithin (m_l M) B n9 0 8192 (by omega) (by omega) (by omega)) wd_240 wd_241 wd_1 wd_242 hd_D_requireWithin [] rfl rfl [] (fun _ => rfl) rfl (by rw [hR]; decide) (by rw [hR]; decide) rfl (Nat.le_of_ble_eq_true rfl) d_D_digest_12 (fun _ _ => ?_)
  refine g_wsq [co da 3 [.ref (q 0), .ref (q 1), .ref (q 3), .ref (q 7), .ref (q 12), .ref (q 17), .ref (q 18), .ref (q 19), .ref (q 20)], cr B (q 0) 8 (fun z9 => some (q (21 + 2 * z9))), co (q 21) 1 [.ref (q 22), .int (nI rl)], cb B (q 22) 8192 r, co (q 27) 1 [.ref (q 28), .int (nI n)], cb B (q 28) 8192 x, co (q 33) 1 [.ref (q 34), .int (nI m)], cb B (q 34) 8192 o, cb B (q 17) 128 kf, cb B (q 18) 128 p, cb B (q 19) 64 inn, co (q 7) 0 [.int (nI (wbN v)), .int (nI (8 * wbN v)), .int (nI (rdN v)), .ref (b_t B (dk v)), .long (mk9 v), .int (nI (16 * wbN v)), .int (nI (8 * wbN v)), .ref (q 8), .ref (q 9), .ref (q 10), .ref (q 11), .int (nI h.2.1), .long (lN tt), .long (lN mt)], cb B (q 8) (16 * wbN v) h.1, cj B (q 9) 8 h.2.2.1, cj B (q 10) (rdN v) h.2.2.2] rfl ?_
  refine g_iload_n (pc := 15) X (i := 1) d_D_digest_15 rfl rfl ?_
  refine g_tableIn (pc := 16) X (tgt := 268) d_D_digest_16 (by decide) (by decide) rfl (by decide) ?_
  refine g_aload_n (pc := 268) X (i := 0) d_D_digest_268 rfl rfl ?_
  refine g_aload_n (pc := 269) X (i := 0) d_D_digest_269 rfl rfl ?_
  refine g_get (pc := 270) X in_D 0 rfl rfl 3 (by decide) wd_124 rfl d_D_digest_270 ?_
  refine g_gets (pc := 273) X 2 (by decide) wd_597 d_D_digest_273 ?_
  refine g_callVv (pc := 276) (q0 := 0) X (c_D_hashWithKey (m_l M) B da q v (q 7) (q 8) (q 9) (q 10) (q 11) tt mt h 2 n m rl x o r kf p inn (by decide) rfl rfl (by omega) (by omega)) wd_703 wd_705 wp_D_hashWithKey wd_1 wd_706 hd_D_hashWithKey [0, 1, 2, 3, 4, 5, 6, 7, 8, 9, 10, 11, 12, 13, 14] rfl rfl [da, q 0, q 21, q 22, q 27, q 28, q 33, q 34, q 17, q 18, q 19, q 7, q 8, q 9, q 10] (fun _ => rfl) rfl rfl rfl (by rw [hR]; decide) (by rw [hR]; decide) rfl (Nat.le_of_ble_eq_true rfl) d_D_digest_276 (fun _ _ => ?_)
  refine g_wsq [co da 3 [.ref (q 0), .ref (q 1), .ref (q 3), .ref (q 7), .ref (q 12), .ref (q 17), .ref (q 18), .ref (q 19), .ref (q 20)], cr B (q 0) 8 (fun z9 => some (q (21 + 2 * z9))), co (q 21) 1 [.ref (q 22), .int (nI rl)], cb B (q 22) 8192 r, co (q 27) 1 [.ref (q 28), .int (nI n)], cb B (q 28) 8192 x, co (q 33) 1 [.ref (q 34), .int (nI (8 * wbN v))], cb B (q 34) 8192 (wrS v (hk4 v 2 r rl x n h kf p inn).2.2.1 o 0 (8 * wbN v)), cb B (q 17) 128 (keyB v 2 r rl h kf), cb B (q 18) 128 (hkP v 2 r rl h kf p), cb B (q 19) 64 (hkI v 2 r rl x n h kf p inn), co (q 7) 0 [.int (nI (wbN v)), .int (nI (8 * wbN v)), .int (nI (rdN v)), .ref (b_t B (dk v)), .long (mk9 v), .int (nI (16 * wbN v)), .int (nI (8 * wbN v)), .ref (q 8), .ref (q 9), .ref (q 10), .ref (q 11), .int (nI ((hk4 v 2 r rl x n h kf p inn).2.1)), .long (lN (0 + 16 * wbN v + 8 * wbN v)), .long (lN mt)], cb B (q 8) (16 * wbN v) ((hk4 v 2 r rl x n h kf p inn).1), cj B (q 9) 8 ((hk4 v 2 r rl x n h kf p inn).2.2.1), cj B (q 10) (rdN v) ((hk4 v 2 r rl x n h kf p inn).2.2.2)] rfl ?_
  refine g_goto (pc := 279) X (tgt := 323) d_D_digest_279 (by decide) ?_
  refine g_aload_n (pc := 323) X (i := 0) d_D_digest_323 rfl rfl ?_
  refine g_get (pc := 324) X in_D 0 rfl rfl 0 (by decide) wd_121 rfl d_D_digest_324 ?_
  refine g_bipush (pc := 327) X (v := nI 6) d_D_digest_327 (by decide) ?_
  refine g_rald (pc := 329) X 1 rfl 6 rfl (by omega) (by omega) (r := q 33) rfl d_D_digest_329 ?_
  refine g_getN (pc := 330) X in_Y 6 rfl rfl 1 (by decide) wn_2 rfl d_D_digest_330 ?_
  exact kret _ () _ 333 rfl d_D_digest_333

theorem c_D_digest_14 (l : Launch) (B : Bx) (da : Nat) (q : Nat → Nat) (v : Bool) (tt : Nat) (mt : Nat) (h : H4) (n : Nat) (m : Nat) (rl : Nat) (n9 : Nat) (x : Nat → Int8) (o : Nat → Int8) (r : Nat → Int8) (kf : Nat → Int8) (p : Nat → Int8) (inn : Nat → Int8) (h1 : n ≤ 8192) (h2 : rl ≤ 8192) (h9 : n9 ≤ 8192) : Ci (S := Unit) l B y_D_digest b_D_digest 3 .int (Rm 8 0 0) [.ref da, .int (nI 14), .int (nI n9)] [co da 3 [.ref (q 0), .ref (q 1), .ref (q 3), .ref (q 7), .ref (q 12), .ref (q 17), .ref (q 18), .ref (q 19), .ref (q 20)], cr B (q 0) 8 (fun z9 => some (q (21 + 2 * z9))), co (q 21) 1 [.ref (q 22), .int (nI rl)], cb B (q 22) 8192 r, co (q 27) 1 [.ref (q 28), .int (nI n)], cb B (q 28) 8192 x, co (q 33) 1 [.ref (q 34), .int (nI m)], cb B (q 34) 8192 o, cb B (q 17) 128 kf, cb B (q 18) 128 p, cb B (q 19) 64 inn, co (q 12) 0 [.int (nI (wbN v)), .int (nI (8 * wbN v)), .int (nI (rdN v)), .ref (b_t B (dk v)), .long (mk9 v), .int (nI (16 * wbN v)), .int (nI (8 * wbN v)), .ref (q 13), .ref (q 14), .ref (q 15), .ref (q 16), .int (nI h.2.1), .long (lN tt), .long (lN mt)], cb B (q 13) (16 * wbN v) h.1, cj B (q 14) 8 h.2.2.1, cj B (q 15) (rdN v) h.2.2.2] (fun r _ => r = nI (8 * wbN v)) (fun _ => [co da 3 [.ref (q 0), .ref (q 1), .ref (q 3), .ref (q 7), .ref (q 12), .ref (q 17), .ref (q 18), .ref (q 19), .ref (q 20)], cr B (q 0) 8 (fun z9 => some (q (21 + 2 * z9))), co (q 21) 1 [.ref (q 22), .int (nI rl)], cb B (q 22) 8192 r, co (q 27) 1 [.ref (q 28), .int (nI n)], cb B (q 28) 8192 x, co (q 33) 1 [.ref (q 34), .int (nI (8 * wbN v))], cb B (q 34) 8192 (wrS v (hk4 v 4 r rl x n h kf p inn).2.2.1 o 0 (8 * wbN v)), cb B (q 17) 128 (keyB v 4 r rl h kf), cb B (q 18) 128 (hkP v 4 r rl h kf p), cb B (q 19) 64 (hkI v 4 r rl x n h kf p inn), co (q 12) 0 [.int (nI (wbN v)), .int (nI (8 * wbN v)), .int (nI (rdN v)), .ref (b_t B (dk v)), .long (mk9 v), .int (nI (16 * wbN v)), .int (nI (8 * wbN v)), .ref (q 13), .ref (q 14), .ref (q 15), .ref (q 16), .int (nI ((hk4 v 4 r rl x n h kf p inn).2.1)), .long (lN (0 + 16 * wbN v + 8 * wbN v)), .long (lN mt)], cb B (q 13) (16 * wbN v) ((hk4 v 4 r rl x n h kf p inn).1), cj B (q 14) 8 ((hk4 v 4 r rl x n h kf p inn).2.2.1), cj B (q 15) (rdN v) ((hk4 v 4 r rl x n h kf p inn).2.2.2)]) := by
  refine ctr_i (by decide) (Nat.le_of_ble_eq_true rfl) ?_
  intro M Q hl hR hin X kret
  subst hl
  refine g_lv [(0, .ref da), (1, .int (nI 14)), (2, .int (nI n9))] rfl ?_
  refine g_iload_n (pc := 0) X (i := 1) d_D_digest_0 rfl rfl ?_
  refine g_iconst (pc := 1) X (v := nI 1) d_D_digest_1 (by decide) ?_
  refine g_bipush (pc := 2) X (v := nI 16) d_D_digest_2 (by decide) ?_
  refine g_callSv (pc := 4) X (c_D_requireWithin (m_l M) B 14 1 16 (by omega) (by omega) (by omega)) wd_240 wd_241 wd_1 wd_242 hd_D_requireWithin [] rfl rfl [] (fun _ => rfl) rfl (by rw [hR]; decide) (by rw [hR]; decide) rfl (Nat.le_of_ble_eq_true rfl) d_D_digest_4 (fun _ _ => ?_)
  refine g_wsq [co da 3 [.ref (q 0), .ref (q 1), .ref (q 3), .ref (q 7), .ref (q 12), .ref (q 17), .ref (q 18), .ref (q 19), .ref (q 20)], cr B (q 0) 8 (fun z9 => some (q (21 + 2 * z9))), co (q 21) 1 [.ref (q 22), .int (nI rl)], cb B (q 22) 8192 r, co (q 27) 1 [.ref (q 28), .int (nI n)], cb B (q 28) 8192 x, co (q 33) 1 [.ref (q 34), .int (nI m)], cb B (q 34) 8192 o, cb B (q 17) 128 kf, cb B (q 18) 128 p, cb B (q 19) 64 inn, co (q 12) 0 [.int (nI (wbN v)), .int (nI (8 * wbN v)), .int (nI (rdN v)), .ref (b_t B (dk v)), .long (mk9 v), .int (nI (16 * wbN v)), .int (nI (8 * wbN v)), .ref (q 13), .ref (q 14), .ref (q 15), .ref (q 16), .int (nI h.2.1), .long (lN tt), .long (lN mt)], cb B (q 13) (16 * wbN v) h.1, cj B (q 14) 8 h.2.2.1, cj B (q 15) (rdN v) h.2.2.2] rfl ?_
  refine g_iload_n (pc := 7) X (i := 2) d_D_digest_7 rfl rfl ?_
  refine g_iconst (pc := 8) X (v := nI 0) d_D_digest_8 (by decide) ?_
  refine g_sipush (pc := 9) X (v := nI 8192) d_D_digest_9 (by decide) ?_
  refine g_callSv (pc := 12) X (c_D_requireWithin (m_l M) B n9 0 8192 (by omega) (by omega) (by omega)) wd_240 wd_241 wd_1 wd_242 hd_D_requireWithin [] rfl rfl [] (fun _ => rfl) rfl (by rw [hR]; decide) (by rw [hR]; decide) rfl (Nat.le_of_ble_eq_true rfl) d_D_digest_12 (fun _ _ => ?_)
  refine g_wsq [co da 3 [.ref (q 0), .ref (q 1), .ref (q 3), .ref (q 7), .ref (q 12), .ref (q 17), .ref (q 18), .ref (q 19), .ref (q 20)], cr B (q 0) 8 (fun z9 => some (q (21 + 2 * z9))), co (q 21) 1 [.ref (q 22), .int (nI rl)], cb B (q 22) 8192 r, co (q 27) 1 [.ref (q 28), .int (nI n)], cb B (q 28) 8192 x, co (q 33) 1 [.ref (q 34), .int (nI m)], cb B (q 34) 8192 o, cb B (q 17) 128 kf, cb B (q 18) 128 p, cb B (q 19) 64 inn, co (q 12) 0 [.int (nI (wbN v)), .int (nI (8 * wbN v)), .int (nI (rdN v)), .ref (b_t B (dk v)), .long (mk9 v), .int (nI (16 * wbN v)), .int (nI (8 * wbN v)), .ref (q 13), .ref (q 14), .ref (q 15), .ref (q 16), .int (nI h.2.1), .long (lN tt), .long (lN mt)], cb B (q 13) (16 * wbN v) h.1, cj B (q 14) 8 h.2.2.1, cj B (q 15) (rdN v) h.2.2.2] rfl ?_
  refine g_iload_n (pc := 15) X (i := 1) d_D_digest_15 rfl rfl ?_
  refine g_tableIn (pc := 16) X (tgt := 282) d_D_digest_16 (by decide) (by decide) rfl (by decide) ?_
  refine g_aload_n (pc := 282) X (i := 0) d_D_digest_282 rfl rfl ?_
  refine g_aload_n (pc := 283) X (i := 0) d_D_digest_283 rfl rfl ?_
  refine g_get (pc := 284) X in_D 0 rfl rfl 4 (by decide) wd_125 rfl d_D_digest_284 ?_
  refine g_gets (pc := 287) X 4 (by decide) wd_650 d_D_digest_287 ?_
  refine g_callVv (pc := 290) (q0 := 0) X (c_D_hashWithKey (m_l M) B da q v (q 12) (q 13) (q 14) (q 15) (q 16) tt mt h 4 n m rl x o r kf p inn (by decide) rfl rfl (by omega) (by omega)) wd_703 wd_705 wp_D_hashWithKey wd_1 wd_706 hd_D_hashWithKey [0, 1, 2, 3, 4, 5, 6, 7, 8, 9, 10, 11, 12, 13, 14] rfl rfl [da, q 0, q 21, q 22, q 27, q 28, q 33, q 34, q 17, q 18, q 19, q 12, q 13, q 14, q 15] (fun _ => rfl) rfl rfl rfl (by rw [hR]; decide) (by rw [hR]; decide) rfl (Nat.le_of_ble_eq_true rfl) d_D_digest_290 (fun _ _ => ?_)
  refine g_wsq [co da 3 [.ref (q 0), .ref (q 1), .ref (q 3), .ref (q 7), .ref (q 12), .ref (q 17), .ref (q 18), .ref (q 19), .ref (q 20)], cr B (q 0) 8 (fun z9 => some (q (21 + 2 * z9))), co (q 21) 1 [.ref (q 22), .int (nI rl)], cb B (q 22) 8192 r, co (q 27) 1 [.ref (q 28), .int (nI n)], cb B (q 28) 8192 x, co (q 33) 1 [.ref (q 34), .int (nI (8 * wbN v))], cb B (q 34) 8192 (wrS v (hk4 v 4 r rl x n h kf p inn).2.2.1 o 0 (8 * wbN v)), cb B (q 17) 128 (keyB v 4 r rl h kf), cb B (q 18) 128 (hkP v 4 r rl h kf p), cb B (q 19) 64 (hkI v 4 r rl x n h kf p inn), co (q 12) 0 [.int (nI (wbN v)), .int (nI (8 * wbN v)), .int (nI (rdN v)), .ref (b_t B (dk v)), .long (mk9 v), .int (nI (16 * wbN v)), .int (nI (8 * wbN v)), .ref (q 13), .ref (q 14), .ref (q 15), .ref (q 16), .int (nI ((hk4 v 4 r rl x n h kf p inn).2.1)), .long (lN (0 + 16 * wbN v + 8 * wbN v)), .long (lN mt)], cb B (q 13) (16 * wbN v) ((hk4 v 4 r rl x n h kf p inn).1), cj B (q 14) 8 ((hk4 v 4 r rl x n h kf p inn).2.2.1), cj B (q 15) (rdN v) ((hk4 v 4 r rl x n h kf p inn).2.2.2)] rfl ?_
  refine g_goto (pc := 293) X (tgt := 323) d_D_digest_293 (by decide) ?_
  refine g_aload_n (pc := 323) X (i := 0) d_D_digest_323 rfl rfl ?_
  refine g_get (pc := 324) X in_D 0 rfl rfl 0 (by decide) wd_121 rfl d_D_digest_324 ?_
  refine g_bipush (pc := 327) X (v := nI 6) d_D_digest_327 (by decide) ?_
  refine g_rald (pc := 329) X 1 rfl 6 rfl (by omega) (by omega) (r := q 33) rfl d_D_digest_329 ?_
  refine g_getN (pc := 330) X in_Y 6 rfl rfl 1 (by decide) wn_2 rfl d_D_digest_330 ?_
  exact kret _ () _ 333 rfl d_D_digest_333

theorem c_D_digest_15 (l : Launch) (B : Bx) (da : Nat) (q : Nat → Nat) (v : Bool) (tt : Nat) (mt : Nat) (h : H4) (n : Nat) (m : Nat) (n9 : Nat) (ms : Nat → Int64) (x : Nat → Int8) (o : Nat → Int8) (c : Nat → Int8) (h1 : n ≤ 8192) (h9 : n9 ≤ 8192) : Ci (S := Unit) l B y_D_digest b_D_digest 3 .int (Rm 8 0 0) [.ref da, .int (nI 15), .int (nI n9)] [co da 3 [.ref (q 0), .ref (q 1), .ref (q 3), .ref (q 7), .ref (q 12), .ref (q 17), .ref (q 18), .ref (q 19), .ref (q 20)], cr B (q 0) 8 (fun z9 => some (q (21 + 2 * z9))), co (q 27) 1 [.ref (q 28), .int (nI n)], cb B (q 28) 8192 x, co (q 33) 1 [.ref (q 34), .int (nI m)], cb B (q 34) 8192 o, co (q 7) 0 [.int (nI (wbN v)), .int (nI (8 * wbN v)), .int (nI (rdN v)), .ref (b_t B (dk v)), .long (mk9 v), .int (nI (16 * wbN v)), .int (nI (8 * wbN v)), .ref (q 8), .ref (q 9), .ref (q 10), .ref (q 11), .int (nI h.2.1), .long (lN tt), .long (lN mt)], cb B (q 8) (16 * wbN v) h.1, cj B (q 9) 8 h.2.2.1, cj B (q 10) (rdN v) h.2.2.2, cj B (q 11) 8 ms, cb B (q 20) 4 c] (fun r _ => r = nI n9) (fun _ => [co da 3 [.ref (q 0), .ref (q 1), .ref (q 3), .ref (q 7), .ref (q 12), .ref (q 17), .ref (q 18), .ref (q 19), .ref (q 20)], cr B (q 0) 8 (fun z9 => some (q (21 + 2 * z9))), co (q 27) 1 [.ref (q 28), .int (nI n)], cb B (q 28) 8192 x, co (q 33) 1 [.ref (q 34), .int (nI n9)], cb B (q 34) 8192 ((hcU v 2 x n n9 h ms c o).2.2.1), co (q 7) 0 [.int (nI (wbN v)), .int (nI (8 * wbN v)), .int (nI (rdN v)), .ref (b_t B (dk v)), .long (mk9 v), .int (nI (16 * wbN v)), .int (nI (8 * wbN v)), .ref (q 8), .ref (q 9), .ref (q 10), .ref (q 11), .int (nI ((hcU v 2 x n n9 h ms c o).1.2.1)), .long (lN ((hcU v 2 x n n9 h ms c o).2.2.2)), .long (lN (0 + (n - n % (16 * wbN v))))], cb B (q 8) (16 * wbN v) ((hcU v 2 x n n9 h ms c o).1.1), cj B (q 9) 8 ((hcU v 2 x n n9 h ms c o).1.2.2.1), cj B (q 10) (rdN v) ((hcU v 2 x n n9 h ms c o).1.2.2.2), cj B (q 11) 8 (hcM v 2 x n h ms), cb B (q 20) 4 ((hcU v 2 x n n9 h ms c o).2.1)]) := by
  refine ctr_i (by decide) (Nat.le_of_ble_eq_true rfl) ?_
  intro M Q hl hR hin X kret
  subst hl
  refine g_lv [(0, .ref da), (1, .int (nI 15)), (2, .int (nI n9))] rfl ?_
  refine g_iload_n (pc := 0) X (i := 1) d_D_digest_0 rfl rfl ?_
  refine g_iconst (pc := 1) X (v := nI 1) d_D_digest_1 (by decide) ?_
  refine g_bipush (pc := 2) X (v := nI 16) d_D_digest_2 (by decide) ?_
  refine g_callSv (pc := 4) X (c_D_requireWithin (m_l M) B 15 1 16 (by omega) (by omega) (by omega)) wd_240 wd_241 wd_1 wd_242 hd_D_requireWithin [] rfl rfl [] (fun _ => rfl) rfl (by rw [hR]; decide) (by rw [hR]; decide) rfl (Nat.le_of_ble_eq_true rfl) d_D_digest_4 (fun _ _ => ?_)
  refine g_wsq [co da 3 [.ref (q 0), .ref (q 1), .ref (q 3), .ref (q 7), .ref (q 12), .ref (q 17), .ref (q 18), .ref (q 19), .ref (q 20)], cr B (q 0) 8 (fun z9 => some (q (21 + 2 * z9))), co (q 27) 1 [.ref (q 28), .int (nI n)], cb B (q 28) 8192 x, co (q 33) 1 [.ref (q 34), .int (nI m)], cb B (q 34) 8192 o, co (q 7) 0 [.int (nI (wbN v)), .int (nI (8 * wbN v)), .int (nI (rdN v)), .ref (b_t B (dk v)), .long (mk9 v), .int (nI (16 * wbN v)), .int (nI (8 * wbN v)), .ref (q 8), .ref (q 9), .ref (q 10), .ref (q 11), .int (nI h.2.1), .long (lN tt), .long (lN mt)], cb B (q 8) (16 * wbN v) h.1, cj B (q 9) 8 h.2.2.1, cj B (q 10) (rdN v) h.2.2.2, cj B (q 11) 8 ms, cb B (q 20) 4 c] rfl ?_
  refine g_iload_n (pc := 7) X (i := 2) d_D_digest_7 rfl rfl ?_
  refine g_iconst (pc := 8) X (v := nI 0) d_D_digest_8 (by decide) ?_
  refine g_sipush (pc := 9) X (v := nI 8192) d_D_digest_9 (by decide) ?_
  refine g_callSv (pc := 12) X (c_D_requireWithin (m_l M) B n9 0 8192 (by omega) (by omega) (by omega)) wd_240 wd_241 wd_1 wd_242 hd_D_requireWithin [] rfl rfl [] (fun _ => rfl) rfl (by rw [hR]; decide) (by rw [hR]; decide) rfl (Nat.le_of_ble_eq_true rfl) d_D_digest_12 (fun _ _ => ?_)
  refine g_wsq [co da 3 [.ref (q 0), .ref (q 1), .ref (q 3), .ref (q 7), .ref (q 12), .ref (q 17), .ref (q 18), .ref (q 19), .ref (q 20)], cr B (q 0) 8 (fun z9 => some (q (21 + 2 * z9))), co (q 27) 1 [.ref (q 28), .int (nI n)], cb B (q 28) 8192 x, co (q 33) 1 [.ref (q 34), .int (nI m)], cb B (q 34) 8192 o, co (q 7) 0 [.int (nI (wbN v)), .int (nI (8 * wbN v)), .int (nI (rdN v)), .ref (b_t B (dk v)), .long (mk9 v), .int (nI (16 * wbN v)), .int (nI (8 * wbN v)), .ref (q 8), .ref (q 9), .ref (q 10), .ref (q 11), .int (nI h.2.1), .long (lN tt), .long (lN mt)], cb B (q 8) (16 * wbN v) h.1, cj B (q 9) 8 h.2.2.1, cj B (q 10) (rdN v) h.2.2.2, cj B (q 11) 8 ms, cb B (q 20) 4 c] rfl ?_
  refine g_iload_n (pc := 15) X (i := 1) d_D_digest_15 rfl rfl ?_
  refine g_tableIn (pc := 16) X (tgt := 296) d_D_digest_16 (by decide) (by decide) rfl (by decide) ?_
  refine g_aload_n (pc := 296) X (i := 0) d_D_digest_296 rfl rfl ?_
  refine g_aload_n (pc := 297) X (i := 0) d_D_digest_297 rfl rfl ?_
  refine g_get (pc := 298) X in_D 0 rfl rfl 3 (by decide) wd_124 rfl d_D_digest_298 ?_
  refine g_gets (pc := 301) X 2 (by decide) wd_597 d_D_digest_301 ?_
  refine g_iload_n (pc := 304) X (i := 2) d_D_digest_304 rfl rfl ?_
  refine g_callVv (pc := 305) (q0 := 0) X (c_D_hashWithCounter (m_l M) B da q v (q 7) (q 8) (q 9) (q 10) (q 11) tt mt h 2 n m n9 ms x o c (by decide) rfl rfl (by omega) (by omega)) wd_719 wd_721 wp_D_hashWithCounter wd_1 wd_722 hd_D_hashWithCounter [0, 1, 2, 3, 4, 5, 6, 7, 8, 9, 10, 11] rfl rfl [da, q 0, q 27, q 28, q 33, q 34, q 7, q 8, q 9, q 10, q 11, q 20] (fun _ => rfl) rfl rfl rfl (by rw [hR]; decide) (by rw [hR]; decide) rfl (Nat.le_of_ble_eq_true rfl) d_D_digest_305 (fun _ _ => ?_)
  refine g_wsq [co da 3 [.ref (q 0), .ref (q 1), .ref (q 3), .ref (q 7), .ref (q 12), .ref (q 17), .ref (q 18), .ref (q 19), .ref (q 20)], cr B (q 0) 8 (fun z9 => some (q (21 + 2 * z9))), co (q 27) 1 [.ref (q 28), .int (nI n)], cb B (q 28) 8192 x, co (q 33) 1 [.ref (q 34), .int (nI n9)], cb B (q 34) 8192 ((hcU v 2 x n n9 h ms c o).2.2.1), co (q 7) 0 [.int (nI (wbN v)), .int (nI (8 * wbN v)), .int (nI (rdN v)), .ref (b_t B (dk v)), .long (mk9 v), .int (nI (16 * wbN v)), .int (nI (8 * wbN v)), .ref (q 8), .ref (q 9), .ref (q 10), .ref (q 11), .int (nI ((hcU v 2 x n n9 h ms c o).1.2.1)), .long (lN ((hcU v 2 x n n9 h ms c o).2.2.2)), .long (lN (0 + (n - n % (16 * wbN v))))], cb B (q 8) (16 * wbN v) ((hcU v 2 x n n9 h ms c o).1.1), cj B (q 9) 8 ((hcU v 2 x n n9 h ms c o).1.2.2.1), cj B (q 10) (rdN v) ((hcU v 2 x n n9 h ms c o).1.2.2.2), cj B (q 11) 8 (hcM v 2 x n h ms), cb B (q 20) 4 ((hcU v 2 x n n9 h ms c o).2.1)] rfl ?_
  refine g_goto (pc := 308) X (tgt := 323) d_D_digest_308 (by decide) ?_
  refine g_aload_n (pc := 323) X (i := 0) d_D_digest_323 rfl rfl ?_
  refine g_get (pc := 324) X in_D 0 rfl rfl 0 (by decide) wd_121 rfl d_D_digest_324 ?_
  refine g_bipush (pc := 327) X (v := nI 6) d_D_digest_327 (by decide) ?_
  refine g_rald (pc := 329) X 1 rfl 6 rfl (by omega) (by omega) (r := q 33) rfl d_D_digest_329 ?_
  refine g_getN (pc := 330) X in_Y 4 rfl rfl 1 (by decide) wn_2 rfl d_D_digest_330 ?_
  exact kret _ () _ 333 rfl d_D_digest_333

theorem c_D_digest_16 (l : Launch) (B : Bx) (da : Nat) (q : Nat → Nat) (v : Bool) (tt : Nat) (mt : Nat) (h : H4) (n : Nat) (m : Nat) (n9 : Nat) (ms : Nat → Int64) (x : Nat → Int8) (o : Nat → Int8) (c : Nat → Int8) (h1 : n ≤ 8192) (h9 : n9 ≤ 8192) : Ci (S := Unit) l B y_D_digest b_D_digest 3 .int (Rm 8 0 0) [.ref da, .int (nI 16), .int (nI n9)] [co da 3 [.ref (q 0), .ref (q 1), .ref (q 3), .ref (q 7), .ref (q 12), .ref (q 17), .ref (q 18), .ref (q 19), .ref (q 20)], cr B (q 0) 8 (fun z9 => some (q (21 + 2 * z9))), co (q 27) 1 [.ref (q 28), .int (nI n)], cb B (q 28) 8192 x, co (q 33) 1 [.ref (q 34), .int (nI m)], cb B (q 34) 8192 o, co (q 12) 0 [.int (nI (wbN v)), .int (nI (8 * wbN v)), .int (nI (rdN v)), .ref (b_t B (dk v)), .long (mk9 v), .int (nI (16 * wbN v)), .int (nI (8 * wbN v)), .ref (q 13), .ref (q 14), .ref (q 15), .ref (q 16), .int (nI h.2.1), .long (lN tt), .long (lN mt)], cb B (q 13) (16 * wbN v) h.1, cj B (q 14) 8 h.2.2.1, cj B (q 15) (rdN v) h.2.2.2, cj B (q 16) 8 ms, cb B (q 20) 4 c] (fun r _ => r = nI n9) (fun _ => [co da 3 [.ref (q 0), .ref (q 1), .ref (q 3), .ref (q 7), .ref (q 12), .ref (q 17), .ref (q 18), .ref (q 19), .ref (q 20)], cr B (q 0) 8 (fun z9 => some (q (21 + 2 * z9))), co (q 27) 1 [.ref (q 28), .int (nI n)], cb B (q 28) 8192 x, co (q 33) 1 [.ref (q 34), .int (nI n9)], cb B (q 34) 8192 ((hcU v 4 x n n9 h ms c o).2.2.1), co (q 12) 0 [.int (nI (wbN v)), .int (nI (8 * wbN v)), .int (nI (rdN v)), .ref (b_t B (dk v)), .long (mk9 v), .int (nI (16 * wbN v)), .int (nI (8 * wbN v)), .ref (q 13), .ref (q 14), .ref (q 15), .ref (q 16), .int (nI ((hcU v 4 x n n9 h ms c o).1.2.1)), .long (lN ((hcU v 4 x n n9 h ms c o).2.2.2)), .long (lN (0 + (n - n % (16 * wbN v))))], cb B (q 13) (16 * wbN v) ((hcU v 4 x n n9 h ms c o).1.1), cj B (q 14) 8 ((hcU v 4 x n n9 h ms c o).1.2.2.1), cj B (q 15) (rdN v) ((hcU v 4 x n n9 h ms c o).1.2.2.2), cj B (q 16) 8 (hcM v 4 x n h ms), cb B (q 20) 4 ((hcU v 4 x n n9 h ms c o).2.1)]) := by
  refine ctr_i (by decide) (Nat.le_of_ble_eq_true rfl) ?_
  intro M Q hl hR hin X kret
  subst hl
  refine g_lv [(0, .ref da), (1, .int (nI 16)), (2, .int (nI n9))] rfl ?_
  refine g_iload_n (pc := 0) X (i := 1) d_D_digest_0 rfl rfl ?_
  refine g_iconst (pc := 1) X (v := nI 1) d_D_digest_1 (by decide) ?_
  refine g_bipush (pc := 2) X (v := nI 16) d_D_digest_2 (by decide) ?_
  refine g_callSv (pc := 4) X (c_D_requireWithin (m_l M) B 16 1 16 (by omega) (by omega) (by omega)) wd_240 wd_241 wd_1 wd_242 hd_D_requireWithin [] rfl rfl [] (fun _ => rfl) rfl (by rw [hR]; decide) (by rw [hR]; decide) rfl (Nat.le_of_ble_eq_true rfl) d_D_digest_4 (fun _ _ => ?_)
  refine g_wsq [co da 3 [.ref (q 0), .ref (q 1), .ref (q 3), .ref (q 7), .ref (q 12), .ref (q 17), .ref (q 18), .ref (q 19), .ref (q 20)], cr B (q 0) 8 (fun z9 => some (q (21 + 2 * z9))), co (q 27) 1 [.ref (q 28), .int (nI n)], cb B (q 28) 8192 x, co (q 33) 1 [.ref (q 34), .int (nI m)], cb B (q 34) 8192 o, co (q 12) 0 [.int (nI (wbN v)), .int (nI (8 * wbN v)), .int (nI (rdN v)), .ref (b_t B (dk v)), .long (mk9 v), .int (nI (16 * wbN v)), .int (nI (8 * wbN v)), .ref (q 13), .ref (q 14), .ref (q 15), .ref (q 16), .int (nI h.2.1), .long (lN tt), .long (lN mt)], cb B (q 13) (16 * wbN v) h.1, cj B (q 14) 8 h.2.2.1, cj B (q 15) (rdN v) h.2.2.2, cj B (q 16) 8 ms, cb B (q 20) 4 c] rfl ?_
  refine g_iload_n (pc := 7) X (i := 2) d_D_digest_7 rfl rfl ?_
  refine g_iconst (pc := 8) X (v := nI 0) d_D_digest_8 (by decide) ?_
  refine g_sipush (pc := 9) X (v := nI 8192) d_D_digest_9 (by decide) ?_
  refine g_callSv (pc := 12) X (c_D_requireWithin (m_l M) B n9 0 8192 (by omega) (by omega) (by omega)) wd_240 wd_241 wd_1 wd_242 hd_D_requireWithin [] rfl rfl [] (fun _ => rfl) rfl (by rw [hR]; decide) (by rw [hR]; decide) rfl (Nat.le_of_ble_eq_true rfl) d_D_digest_12 (fun _ _ => ?_)
  refine g_wsq [co da 3 [.ref (q 0), .ref (q 1), .ref (q 3), .ref (q 7), .ref (q 12), .ref (q 17), .ref (q 18), .ref (q 19), .ref (q 20)], cr B (q 0) 8 (fun z9 => some (q (21 + 2 * z9))), co (q 27) 1 [.ref (q 28), .int (nI n)], cb B (q 28) 8192 x, co (q 33) 1 [.ref (q 34), .int (nI m)], cb B (q 34) 8192 o, co (q 12) 0 [.int (nI (wbN v)), .int (nI (8 * wbN v)), .int (nI (rdN v)), .ref (b_t B (dk v)), .long (mk9 v), .int (nI (16 * wbN v)), .int (nI (8 * wbN v)), .ref (q 13), .ref (q 14), .ref (q 15), .ref (q 16), .int (nI h.2.1), .long (lN tt), .long (lN mt)], cb B (q 13) (16 * wbN v) h.1, cj B (q 14) 8 h.2.2.1, cj B (q 15) (rdN v) h.2.2.2, cj B (q 16) 8 ms, cb B (q 20) 4 c] rfl ?_
  refine g_iload_n (pc := 15) X (i := 1) d_D_digest_15 rfl rfl ?_
  refine g_tableOut (pc := 16) X (tgt := 311) d_D_digest_16 (by decide) (by decide) ?_
  refine g_aload_n (pc := 311) X (i := 0) d_D_digest_311 rfl rfl ?_
  refine g_aload_n (pc := 312) X (i := 0) d_D_digest_312 rfl rfl ?_
  refine g_get (pc := 313) X in_D 0 rfl rfl 4 (by decide) wd_125 rfl d_D_digest_313 ?_
  refine g_gets (pc := 316) X 4 (by decide) wd_650 d_D_digest_316 ?_
  refine g_iload_n (pc := 319) X (i := 2) d_D_digest_319 rfl rfl ?_
  refine g_callVv (pc := 320) (q0 := 0) X (c_D_hashWithCounter (m_l M) B da q v (q 12) (q 13) (q 14) (q 15) (q 16) tt mt h 4 n m n9 ms x o c (by decide) rfl rfl (by omega) (by omega)) wd_719 wd_721 wp_D_hashWithCounter wd_1 wd_722 hd_D_hashWithCounter [0, 1, 2, 3, 4, 5, 6, 7, 8, 9, 10, 11] rfl rfl [da, q 0, q 27, q 28, q 33, q 34, q 12, q 13, q 14, q 15, q 16, q 20] (fun _ => rfl) rfl rfl rfl (by rw [hR]; decide) (by rw [hR]; decide) rfl (Nat.le_of_ble_eq_true rfl) d_D_digest_320 (fun _ _ => ?_)
  refine g_wsq [co da 3 [.ref (q 0), .ref (q 1), .ref (q 3), .ref (q 7), .ref (q 12), .ref (q 17), .ref (q 18), .ref (q 19), .ref (q 20)], cr B (q 0) 8 (fun z9 => some (q (21 + 2 * z9))), co (q 27) 1 [.ref (q 28), .int (nI n)], cb B (q 28) 8192 x, co (q 33) 1 [.ref (q 34), .int (nI n9)], cb B (q 34) 8192 ((hcU v 4 x n n9 h ms c o).2.2.1), co (q 12) 0 [.int (nI (wbN v)), .int (nI (8 * wbN v)), .int (nI (rdN v)), .ref (b_t B (dk v)), .long (mk9 v), .int (nI (16 * wbN v)), .int (nI (8 * wbN v)), .ref (q 13), .ref (q 14), .ref (q 15), .ref (q 16), .int (nI ((hcU v 4 x n n9 h ms c o).1.2.1)), .long (lN ((hcU v 4 x n n9 h ms c o).2.2.2)), .long (lN (0 + (n - n % (16 * wbN v))))], cb B (q 13) (16 * wbN v) ((hcU v 4 x n n9 h ms c o).1.1), cj B (q 14) 8 ((hcU v 4 x n n9 h ms c o).1.2.2.1), cj B (q 15) (rdN v) ((hcU v 4 x n n9 h ms c o).1.2.2.2), cj B (q 16) 8 (hcM v 4 x n h ms), cb B (q 20) 4 ((hcU v 4 x n n9 h ms c o).2.1)] rfl ?_
  refine g_aload_n (pc := 323) X (i := 0) d_D_digest_323 rfl rfl ?_
  refine g_get (pc := 324) X in_D 0 rfl rfl 0 (by decide) wd_121 rfl d_D_digest_324 ?_
  refine g_bipush (pc := 327) X (v := nI 6) d_D_digest_327 (by decide) ?_
  refine g_rald (pc := 329) X 1 rfl 6 rfl (by omega) (by omega) (r := q 33) rfl d_D_digest_329 ?_
  refine g_getN (pc := 330) X in_Y 4 rfl rfl 1 (by decide) wn_2 rfl d_D_digest_330 ?_
  exact kret _ () _ 333 rfl d_D_digest_333
