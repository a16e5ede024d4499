theorem w_c_D_feed (l : Launch) (B : Bx) (da : Nat) (q : Nat → Nat) (n : Nat) (f : Nat → Int8) (p0 : Int32) (p1 : Int32) (p2 : Int32) (p3 : Int32) (p4 : Int32) (oa : Nat) (ot : Nat → Int64) (h1 : n + 20 ≤ 8192) : Ch (S := Unit) l B y_L_feed b_L_feed 8 [(0, 16, 19, 13)] (Rm 9 0 0) [.ref da, .int p0, .int p1, .int p2, .int p3, .int p4, .ref oa] [co da 3 [.ref (q 0), .ref (q 1), .ref (q 3), .ref (q 7), .ref (q 12), .ref (q 17), .ref (q 18), .ref (q 19), .ref (q 20)], co (q 1) 1 [.ref (q 2), .int (nI n)], cb B (q 2) 8192 f, cj B oa 1 ot] (fun r _ => r = nI 0) (fun _ => [co da 3 [.ref (q 0), .ref (q 1), .ref (q 3), .ref (q 7), .ref (q 12), .ref (q 17), .ref (q 18), .ref (q 19), .ref (q 20)], co (q 1) 1 [.ref (q 2), .int (nI (n + 20))], cb B (q 2) 8192 (app4 (app4 (app4 (app4 (app4 f n p0) (n + 4) p1) (n + 8) p2) (n + 12) p3) (n + 16) p4), cj B oa 1 (va_up ot 0 (lN (n + 20)))]) := by
  refine ctr_h (by decide) (Nat.le_of_ble_eq_true rfl) ?_
  intro M Q hl hR hTab X kret
  subst hl
  refine g_lv [(0, .ref da), (1, .int p0), (2, .int p1), (3, .int p2), (4, .int p3), (5, .int p4), (6, .ref oa)] rfl ?_
  refine g_aload (pc := 0) X d_L_feed_0 rfl ?_
  refine g_iconst (pc := 2) X (v := nI 0) d_L_feed_2 (by decide) ?_
  refine g_aload_n (pc := 3) X (i := 0) d_L_feed_3 rfl rfl ?_
  refine g_iload_n (pc := 4) X (i := 1) d_L_feed_4 rfl rfl ?_
  refine g_iload_n (pc := 5) X (i := 2) d_L_feed_5 rfl rfl ?_
  refine g_iload_n (pc := 6) X (i := 3) d_L_feed_6 rfl rfl ?_
  refine g_iload (pc := 7) X d_L_feed_7 rfl ?_
  refine g_iload (pc := 9) X d_L_feed_9 rfl ?_
  refine g_callVi (pc := 11) (q0 := 0) X (c_D_feed (m_l M) B da q n f p0 p1 p2 p3 p4 h1) wd_153 wd_154 wd_155 wd_1 wd_156 hd_D_feed [0, 1, 2] rfl rfl [da, q 1, q 2] (fun _ => rfl) rfl rfl rfl (by rw [hR]; decide) (by rw [hR]; decide) rfl (Nat.le_of_ble_eq_true rfl) d_L_feed_11 (fun r9 _ hr9 => ?_)
  subst hr9
  refine g_wsq [co da 3 [.ref (q 0), .ref (q 1), .ref (q 3), .ref (q 7), .ref (q 12), .ref (q 17), .ref (q 18), .ref (q 19), .ref (q 20)], co (q 1) 1 [.ref (q 2), .int (nI (n + 20))], cb B (q 2) 8192 (app4 (app4 (app4 (app4 (app4 f n p0) (n + 4) p1) (n + 8) p2) (n + 12) p3) (n + 16) p4), cj B oa 1 ot] rfl ?_
  refine g_i2l (pc := 14) X (v := lN (n + 20)) d_L_feed_14 (nI_l (by omega)) ?_
  refine g_last (pc := 15) X 3 rfl 0 rfl (by omega) (by omega) d_L_feed_15 ?_
  refine g_wsq [co da 3 [.ref (q 0), .ref (q 1), .ref (q 3), .ref (q 7), .ref (q 12), .ref (q 17), .ref (q 18), .ref (q 19), .ref (q 20)], co (q 1) 1 [.ref (q 2), .int (nI (n + 20))], cb B (q 2) 8192 (app4 (app4 (app4 (app4 (app4 f n p0) (n + 4) p1) (n + 8) p2) (n + 12) p3) (n + 16) p4), cj B oa 1 (va_up ot 0 (lN (n + 20)))] rfl ?_
  refine g_goto (pc := 16) X (tgt := 23) d_L_feed_16 (by decide) ?_
  refine g_iconst (pc := 23) X (v := nI 0) d_L_feed_23 (by decide) ?_
  exact kret _ () _ _ _ 24 (by decide) (by decide) rfl d_L_feed_24

theorem w_c_D_end (l : Launch) (B : Bx) (da : Nat) (q : Nat → Nat) (i : Nat) (m : Nat) (n : Nat) (t : Nat) (g : Nat → Int8) (f : Nat → Int8) (oa : Nat) (ot : Nat → Int64) (h1 : i < 8) (h2 : n ≤ 8192) (h3 : n ≤ t) (h4 : t ≤ 8192) : Ch (S := Unit) l B y_L_end b_L_end 5 [(0, 10, 13, 19), (0, 10, 17, 13)] (Rm 9 0 0) [.ref da, .int (nI i), .int (nI n), .ref oa] [co da 3 [.ref (q 0), .ref (q 1), .ref (q 3), .ref (q 7), .ref (q 12), .ref (q 17), .ref (q 18), .ref (q 19), .ref (q 20)], cr B (q 0) 8 (fun z9 => some (q (21 + 2 * z9))), co (q (21 + 2 * i)) 1 [.ref (q (22 + 2 * i)), .int (nI m)], cb B (q (22 + 2 * i)) 8192 g, co (q 1) 1 [.ref (q 2), .int (nI t)], cb B (q 2) 8192 f, cj B oa 1 ot] (fun r _ => r = nI 0) (fun _ => [co da 3 [.ref (q 0), .ref (q 1), .ref (q 3), .ref (q 7), .ref (q 12), .ref (q 17), .ref (q 18), .ref (q 19), .ref (q 20)], cr B (q 0) 8 (fun z9 => some (q (21 + 2 * z9))), co (q (21 + 2 * i)) 1 [.ref (q (22 + 2 * i)), .int (nI n)], cb B (q (22 + 2 * i)) 8192 (va_cpy f g 0 0 n), co (q 1) 1 [.ref (q 2), .int (nI 0)], cb B (q 2) 8192 f, cj B oa 1 (va_up ot 0 (lN n))]) := by
  refine ctr_h (by decide) (Nat.le_of_ble_eq_true rfl) ?_
  intro M Q hl hR hTab X kret
  subst hl
  refine g_lv [(0, .ref da), (1, .int (nI i)), (2, .int (nI n)), (3, .ref oa)] rfl ?_
  refine g_aload_n (pc := 0) X (i := 3) d_L_end_0 rfl rfl ?_
  refine g_iconst (pc := 1) X (v := nI 0) d_L_end_1 (by decide) ?_
  refine g_aload_n (pc := 2) X (i := 0) d_L_end_2 rfl rfl ?_
  refine g_iload_n (pc := 3) X (i := 1) d_L_end_3 rfl rfl ?_
  refine g_iload_n (pc := 4) X (i := 2) d_L_end_4 rfl rfl ?_
  refine g_callVi (pc := 5) (q0 := 0) X (c_D_end (m_l M) B da q i m n t g f h1 h2 h3 h4) wd_232 wd_233 wd_234 wd_1 wd_235 hd_D_end [0, 1, 2, 3, 4, 5] rfl rfl [da, q 0, q (21 + 2 * i), q (22 + 2 * i), q 1, q 2] (fun _ => rfl) rfl rfl rfl (by rw [hR]; decide) (by rw [hR]; decide) rfl (Nat.le_of_ble_eq_true rfl) d_L_end_5 (fun r9 _ hr9 => ?_)
  subst hr9
  refine g_wsq [co da 3 [.ref (q 0), .ref (q 1), .ref (q 3), .ref (q 7), .ref (q 12), .ref (q 17), .ref (q 18), .ref (q 19), .ref (q 20)], cr B (q 0) 8 (fun z9 => some (q (21 + 2 * z9))), co (q (21 + 2 * i)) 1 [.ref (q (22 + 2 * i)), .int (nI n)], cb B (q (22 + 2 * i)) 8192 (va_cpy f g 0 0 n), co (q 1) 1 [.ref (q 2), .int (nI 0)], cb B (q 2) 8192 f, cj B oa 1 ot] rfl ?_
  refine g_i2l (pc := 8) X (v := lN n) d_L_end_8 (nI_l (by omega)) ?_
  refine g_last (pc := 9) X 6 rfl 0 rfl (by omega) (by omega) d_L_end_9 ?_
  refine g_wsq [co da 3 [.ref (q 0), .ref (q 1), .ref (q 3), .ref (q 7), .ref (q 12), .ref (q 17), .ref (q 18), .ref (q 19), .ref (q 20)], cr B (q 0) 8 (fun z9 => some (q (21 + 2 * z9))), co (q (21 + 2 * i)) 1 [.ref (q (22 + 2 * i)), .int (nI n)], cb B (q (22 + 2 * i)) 8192 (va_cpy f g 0 0 n), co (q 1) 1 [.ref (q 2), .int (nI 0)], cb B (q 2) 8192 f, cj B oa 1 (va_up ot 0 (lN n))] rfl ?_
  refine g_goto (pc := 10) X (tgt := 21) d_L_end_10 (by decide) ?_
  refine g_iconst (pc := 21) X (v := nI 0) d_L_end_21 (by decide) ?_
  exact kret _ () _ _ _ 22 (by decide) (by decide) rfl d_L_end_22

theorem w_c_D_copy (l : Launch) (B : Bx) (da : Nat) (q : Nat → Nat) (i : Nat) (j : Nat) (n : Nat) (m : Nat) (f : Nat → Int8) (g : Nat → Int8) (oa : Nat) (ot : Nat → Int64) (h1 : i < 8) (h2 : j < 8) (h3 : n ≤ 8192) : Ch (S := Unit) l B y_L_copy b_L_copy 5 [(0, 10, 13, 19)] (Rm 9 0 0) [.ref da, .int (nI i), .int (nI j), .ref oa] [co da 3 [.ref (q 0), .ref (q 1), .ref (q 3), .ref (q 7), .ref (q 12), .ref (q 17), .ref (q 18), .ref (q 19), .ref (q 20)], cr B (q 0) 8 (fun z9 => some (q (21 + 2 * z9))), co (q (21 + 2 * i)) 1 [.ref (q (22 + 2 * i)), .int (nI n)], cb B (q (22 + 2 * i)) 8192 f, co (q (21 + 2 * j)) 1 [.ref (q (22 + 2 * j)), .int (nI m)], cb B (q (22 + 2 * j)) 8192 g, cj B oa 1 ot] (fun r _ => r = nI 0) (fun _ => [co da 3 [.ref (q 0), .ref (q 1), .ref (q 3), .ref (q 7), .ref (q 12), .ref (q 17), .ref (q 18), .ref (q 19), .ref (q 20)], cr B (q 0) 8 (fun z9 => some (q (21 + 2 * z9))), co (q (21 + 2 * i)) 1 [.ref (q (22 + 2 * i)), .int (nI n)], cb B (q (22 + 2 * i)) 8192 f, co (q (21 + 2 * j)) 1 [.ref (q (22 + 2 * j)), .int (nI n)], cb B (q (22 + 2 * j)) 8192 (va_cpy f g 0 0 n), cj B oa 1 (va_up ot 0 (lN n))]) := by
  refine ctr_h (by decide) (Nat.le_of_ble_eq_true rfl) ?_
  intro M Q hl hR hTab X kret
  subst hl
  refine g_lv [(0, .ref da), (1, .int (nI i)), (2, .int (nI j)), (3, .ref oa)] rfl ?_
  refine g_aload_n (pc := 0) X (i := 3) d_L_copy_0 rfl rfl ?_
  refine g_iconst (pc := 1) X (v := nI 0) d_L_copy_1 (by decide) ?_
  refine g_aload_n (pc := 2) X (i := 0) d_L_copy_2 rfl rfl ?_
  refine g_iload_n (pc := 3) X (i := 1) d_L_copy_3 rfl rfl ?_
  refine g_iload_n (pc := 4) X (i := 2) d_L_copy_4 rfl rfl ?_
  refine g_callVi (pc := 5) (q0 := 0) X (c_D_copy (m_l M) B da q i j n m f g h1 h2 h3) wd_270 wd_271 wd_272 wd_1 wd_273 hd_D_copy [0, 1, 2, 3, 4, 5] rfl rfl [da, q 0, q (21 + 2 * i), q (22 + 2 * i), q (21 + 2 * j), q (22 + 2 * j)] (fun _ => rfl) rfl rfl rfl (by rw [hR]; decide) (by rw [hR]; decide) rfl (Nat.le_of_ble_eq_true rfl) d_L_copy_5 (fun r9 _ hr9 => ?_)
  subst hr9
  refine g_wsq [co da 3 [.ref (q 0), .ref (q 1), .ref (q 3), .ref (q 7), .ref (q 12), .ref (q 17), .ref (q 18), .ref (q 19), .ref (q 20)], cr B (q 0) 8 (fun z9 => some (q (21 + 2 * z9))), co (q (21 + 2 * i)) 1 [.ref (q (22 + 2 * i)), .int (nI n)], cb B (q (22 + 2 * i)) 8192 f, co (q (21 + 2 * j)) 1 [.ref (q (22 + 2 * j)), .int (nI n)], cb B (q (22 + 2 * j)) 8192 (va_cpy f g 0 0 n), cj B oa 1 ot] rfl ?_
  refine g_i2l (pc := 8) X (v := lN n) d_L_copy_8 (nI_l (by omega)) ?_
  refine g_last (pc := 9) X 6 rfl 0 rfl (by omega) (by omega) d_L_copy_9 ?_
  refine g_wsq [co da 3 [.ref (q 0), .ref (q 1), .ref (q 3), .ref (q 7), .ref (q 12), .ref (q 17), .ref (q 18), .ref (q 19), .ref (q 20)], cr B (q 0) 8 (fun z9 => some (q (21 + 2 * z9))), co (q (21 + 2 * i)) 1 [.ref (q (22 + 2 * i)), .int (nI n)], cb B (q (22 + 2 * i)) 8192 f, co (q (21 + 2 * j)) 1 [.ref (q (22 + 2 * j)), .int (nI n)], cb B (q (22 + 2 * j)) 8192 (va_cpy f g 0 0 n), cj B oa 1 (va_up ot 0 (lN n))] rfl ?_
  refine g_goto (pc := 10) X (tgt := 17) d_L_copy_10 (by decide) ?_
  refine g_iconst (pc := 17) X (v := nI 0) d_L_copy_17 (by decide) ?_
  exact kret _ () _ _ _ 18 (by decide) (by decide) rfl d_L_copy_18

theorem w_c_D_copy_self (l : Launch) (B : Bx) (da : Nat) (q : Nat → Nat) (i : Nat) (n : Nat) (f : Nat → Int8) (oa : Nat) (ot : Nat → Int64) (h1 : i < 8) (h3 : n ≤ 8192) : Ch (S := Unit) l B y_L_copy b_L_copy 5 [(0, 10, 13, 19)] (Rm 9 0 0) [.ref da, .int (nI i), .int (nI i), .ref oa] [co da 3 [.ref (q 0), .ref (q 1), .ref (q 3), .ref (q 7), .ref (q 12), .ref (q 17), .ref (q 18), .ref (q 19), .ref (q 20)], cr B (q 0) 8 (fun z9 => some (q (21 + 2 * z9))), co (q (21 + 2 * i)) 1 [.ref (q (22 + 2 * i)), .int (nI n)], cb B (q (22 + 2 * i)) 8192 f, cj B oa 1 ot] (fun r _ => r = nI 0) (fun _ => [co da 3 [.ref (q 0), .ref (q 1), .ref (q 3), .ref (q 7), .ref (q 12), .ref (q 17), .ref (q 18), .ref (q 19), .ref (q 20)], cr B (q 0) 8 (fun z9 => some (q (21 + 2 * z9))), co (q (21 + 2 * i)) 1 [.ref (q (22 + 2 * i)), .int (nI n)], cb B (q (22 + 2 * i)) 8192 (va_cpy f f 0 0 n), cj B oa 1 (va_up ot 0 (lN n))]) := by
  refine ctr_h (by decide) (Nat.le_of_ble_eq_true rfl) ?_
  intro M Q hl hR hTab X kret
  subst hl
  refine g_lv [(0, .ref da), (1, .int (nI i)), (2, .int (nI i)), (3, .ref oa)] rfl ?_
  refine g_aload_n (pc := 0) X (i := 3) d_L_copy_0 rfl rfl ?_
  refine g_iconst (pc := 1) X (v := nI 0) d_L_copy_1 (by decide) ?_
  refine g_aload_n (pc := 2) X (i := 0) d_L_copy_2 rfl rfl ?_
  refine g_iload_n (pc := 3) X (i := 1) d_L_copy_3 rfl rfl ?_
  refine g_iload_n (pc := 4) X (i := 2) d_L_copy_4 rfl rfl ?_
  refine g_callVi (pc := 5) (q0 := 0) X (c_D_copy_self (m_l M) B da q i n f h1 h3) wd_270 wd_271 wd_272 wd_1 wd_273 hd_D_copy [0, 1, 2, 3] rfl rfl [da, q 0, q (21 + 2 * i), q (22 + 2 * i)] (fun _ => rfl) rfl rfl rfl (by rw [hR]; decide) (by rw [hR]; decide) rfl (Nat.le_of_ble_eq_true rfl) d_L_copy_5 (fun r9 _ hr9 => ?_)
  subst hr9
  refine g_wsq [co da 3 [.ref (q 0), .ref (q 1), .ref (q 3), .ref (q 7), .ref (q 12), .ref (q 17), .ref (q 18), .ref (q 19), .ref (q 20)], cr B (q 0) 8 (fun z9 => some (q (21 + 2 * z9))), co (q (21 + 2 * i)) 1 [.ref (q (22 + 2 * i)), .int (nI n)], cb B (q (22 + 2 * i)) 8192 (va_cpy f f 0 0 n), cj B oa 1 ot] rfl ?_
  refine g_i2l (pc := 8) X (v := lN n) d_L_copy_8 (nI_l (by omega)) ?_
  refine g_last (pc := 9) X 4 rfl 0 rfl (by omega) (by omega) d_L_copy_9 ?_
  refine g_wsq [co da 3 [.ref (q 0), .ref (q 1), .ref (q 3), .ref (q 7), .ref (q 12), .ref (q 17), .ref (q 18), .ref (q 19), .ref (q 20)], cr B (q 0) 8 (fun z9 => some (q (21 + 2 * z9))), co (q (21 + 2 * i)) 1 [.ref (q (22 + 2 * i)), .int (nI n)], cb B (q (22 + 2 * i)) 8192 (va_cpy f f 0 0 n), cj B oa 1 (va_up ot 0 (lN n))] rfl ?_
  refine g_goto (pc := 10) X (tgt := 17) d_L_copy_10 (by decide) ?_
  refine g_iconst (pc := 17) X (v := nI 0) d_L_copy_17 (by decide) ?_
  exact kret _ () _ _ _ 18 (by decide) (by decide) rfl d_L_copy_18

theorem w_c_D_resize (l : Launch) (B : Bx) (da : Nat) (q : Nat → Nat) (i : Nat) (m : Nat) (n : Nat) (f : Nat → Int8) (oa : Nat) (ot : Nat → Int64) (h1 : i < 8) (h2 : n ≤ 8192) (h3 : m ≤ 8192) : Ch (S := Unit) l B y_L_resize b_L_resize 5 [(0, 10, 13, 19)] (Rm 9 0 0) [.ref da, .int (nI i), .int (nI n), .ref oa] [co da 3 [.ref (q 0), .ref (q 1), .ref (q 3), .ref (q 7), .ref (q 12), .ref (q 17), .ref (q 18), .ref (q 19), .ref (q 20)], cr B (q 0) 8 (fun z9 => some (q (21 + 2 * z9))), co (q (21 + 2 * i)) 1 [.ref (q (22 + 2 * i)), .int (nI m)], cb B (q (22 + 2 * i)) 8192 f, cj B oa 1 ot] (fun r _ => r = nI 0) (fun _ => [co da 3 [.ref (q 0), .ref (q 1), .ref (q 3), .ref (q 7), .ref (q 12), .ref (q 17), .ref (q 18), .ref (q 19), .ref (q 20)], cr B (q 0) 8 (fun z9 => some (q (21 + 2 * z9))), co (q (21 + 2 * i)) 1 [.ref (q (22 + 2 * i)), .int (nI n)], cb B (q (22 + 2 * i)) 8192 (if m < n then fil f m n (nI 0).toInt8 else f), cj B oa 1 (va_up ot 0 (lN m))]) := by
  refine ctr_h (by decide) (Nat.le_of_ble_eq_true rfl) ?_
  intro M Q hl hR hTab X kret
  subst hl
  refine g_lv [(0, .ref da), (1, .int (nI i)), (2, .int (nI n)), (3, .ref oa)] rfl ?_
  refine g_aload_n (pc := 0) X (i := 3) d_L_resize_0 rfl rfl ?_
  refine g_iconst (pc := 1) X (v := nI 0) d_L_resize_1 (by decide) ?_
  refine g_aload_n (pc := 2) X (i := 0) d_L_resize_2 rfl rfl ?_
  refine g_iload_n (pc := 3) X (i := 1) d_L_resize_3 rfl rfl ?_
  refine g_iload_n (pc := 4) X (i := 2) d_L_resize_4 rfl rfl ?_
  refine g_callVi (pc := 5) (q0 := 0) X (c_D_resize (m_l M) B da q i m n f h1 h2 h3) wd_277 wd_278 wd_279 wd_1 wd_280 hd_D_resize [0, 1, 2, 3] rfl rfl [da, q 0, q (21 + 2 * i), q (22 + 2 * i)] (fun _ => rfl) rfl rfl rfl (by rw [hR]; decide) (by rw [hR]; decide) rfl (Nat.le_of_ble_eq_true rfl) d_L_resize_5 (fun r9 _ hr9 => ?_)
  subst hr9
  refine g_wsq [co da 3 [.ref (q 0), .ref (q 1), .ref (q 3), .ref (q 7), .ref (q 12), .ref (q 17), .ref (q 18), .ref (q 19), .ref (q 20)], cr B (q 0) 8 (fun z9 => some (q (21 + 2 * z9))), co (q (21 + 2 * i)) 1 [.ref (q (22 + 2 * i)), .int (nI n)], cb B (q (22 + 2 * i)) 8192 (if m < n then fil f m n (nI 0).toInt8 else f), cj B oa 1 ot] rfl ?_
  refine g_i2l (pc := 8) X (v := lN m) d_L_resize_8 (nI_l (by omega)) ?_
  refine g_last (pc := 9) X 4 rfl 0 rfl (by omega) (by omega) d_L_resize_9 ?_
  refine g_wsq [co da 3 [.ref (q 0), .ref (q 1), .ref (q 3), .ref (q 7), .ref (q 12), .ref (q 17), .ref (q 18), .ref (q 19), .ref (q 20)], cr B (q 0) 8 (fun z9 => some (q (21 + 2 * z9))), co (q (21 + 2 * i)) 1 [.ref (q (22 + 2 * i)), .int (nI n)], cb B (q (22 + 2 * i)) 8192 (if m < n then fil f m n (nI 0).toInt8 else f), cj B oa 1 (va_up ot 0 (lN m))] rfl ?_
  refine g_goto (pc := 10) X (tgt := 17) d_L_resize_10 (by decide) ?_
  refine g_iconst (pc := 17) X (v := nI 0) d_L_resize_17 (by decide) ?_
  exact kret _ () _ _ _ 18 (by decide) (by decide) rfl d_L_resize_18

theorem w_c_D_alter (l : Launch) (B : Bx) (da : Nat) (q : Nat → Nat) (i : Nat) (m : Nat) (p : Nat) (v : Nat) (f : Nat → Int8) (oa : Nat) (ot : Nat → Int64) (h1 : i < 8) (h2 : p < m) (h3 : m ≤ 8192) (h4 : v ≤ 255) : Ch (S := Unit) l B y_L_alter b_L_alter 6 [(0, 12, 15, 19), (0, 12, 19, 13)] (Rm 9 0 0) [.ref da, .int (nI i), .int (nI p), .int (nI v), .ref oa] [co da 3 [.ref (q 0), .ref (q 1), .ref (q 3), .ref (q 7), .ref (q 12), .ref (q 17), .ref (q 18), .ref (q 19), .ref (q 20)], cr B (q 0) 8 (fun z9 => some (q (21 + 2 * z9))), co (q (21 + 2 * i)) 1 [.ref (q (22 + 2 * i)), .int (nI m)], cb B (q (22 + 2 * i)) 8192 f, cj B oa 1 ot] (fun r _ => r = nI 0) (fun _ => [co da 3 [.ref (q 0), .ref (q 1), .ref (q 3), .ref (q 7), .ref (q 12), .ref (q 17), .ref (q 18), .ref (q 19), .ref (q 20)], cr B (q 0) 8 (fun z9 => some (q (21 + 2 * z9))), co (q (21 + 2 * i)) 1 [.ref (q (22 + 2 * i)), .int (nI m)], cb B (q (22 + 2 * i)) 8192 (va_up f p ((f p).toInt32 ^^^ nI v).toInt8), cj B oa 1 (va_up ot 0 (((va_up f p ((f p).toInt32 ^^^ nI v).toInt8 p).toInt32 &&& nI 255).toInt64))]) := by
  refine ctr_h (by decide) (Nat.le_of_ble_eq_true rfl) ?_
  intro M Q hl hR hTab X kret
  subst hl
  refine g_lv [(0, .ref da), (1, .int (nI i)), (2, .int (nI p)), (3, .int (nI v)), (4, .ref oa)] rfl ?_
  refine g_aload (pc := 0) X d_L_alter_0 rfl ?_
  refine g_iconst (pc := 2) X (v := nI 0) d_L_alter_2 (by decide) ?_
  refine g_aload_n (pc := 3) X (i := 0) d_L_alter_3 rfl rfl ?_
  refine g_iload_n (pc := 4) X (i := 1) d_L_alter_4 rfl rfl ?_
  refine g_iload_n (pc := 5) X (i := 2) d_L_alter_5 rfl rfl ?_
  refine g_iload_n (pc := 6) X (i := 3) d_L_alter_6 rfl rfl ?_
  refine g_callVi (pc := 7) (q0 := 0) X (c_D_alter (m_l M) B da q i m p v f h1 h2 h3 h4) wd_553 wd_554 wd_555 wd_1 wd_556 hd_D_alter [0, 1, 2, 3] rfl rfl [da, q 0, q (21 + 2 * i), q (22 + 2 * i)] (fun _ => rfl) rfl rfl rfl (by rw [hR]; decide) (by rw [hR]; decide) rfl (Nat.le_of_ble_eq_true rfl) d_L_alter_7 (fun r9 _ hr9 => ?_)
  subst hr9
  refine g_wsq [co da 3 [.ref (q 0), .ref (q 1), .ref (q 3), .ref (q 7), .ref (q 12), .ref (q 17), .ref (q 18), .ref (q 19), .ref (q 20)], cr B (q 0) 8 (fun z9 => some (q (21 + 2 * z9))), co (q (21 + 2 * i)) 1 [.ref (q (22 + 2 * i)), .int (nI m)], cb B (q (22 + 2 * i)) 8192 (va_up f p ((f p).toInt32 ^^^ nI v).toInt8), cj B oa 1 ot] rfl ?_
  refine g_i2l (pc := 10) X d_L_alter_10 rfl ?_
  refine g_last (pc := 11) X 4 rfl 0 rfl (by omega) (by omega) d_L_alter_11 ?_
  refine g_wsq [co da 3 [.ref (q 0), .ref (q 1), .ref (q 3), .ref (q 7), .ref (q 12), .ref (q 17), .ref (q 18), .ref (q 19), .ref (q 20)], cr B (q 0) 8 (fun z9 => some (q (21 + 2 * z9))), co (q (21 + 2 * i)) 1 [.ref (q (22 + 2 * i)), .int (nI m)], cb B (q (22 + 2 * i)) 8192 (va_up f p ((f p).toInt32 ^^^ nI v).toInt8), cj B oa 1 (va_up ot 0 (((va_up f p ((f p).toInt32 ^^^ nI v).toInt8 p).toInt32 &&& nI 255).toInt64))] rfl ?_
  refine g_goto (pc := 12) X (tgt := 23) d_L_alter_12 (by decide) ?_
  refine g_iconst (pc := 23) X (v := nI 0) d_L_alter_23 (by decide) ?_
  exact kret _ () _ _ _ 24 (by decide) (by decide) rfl d_L_alter_24

theorem w_c_D_length (l : Launch) (B : Bx) (da : Nat) (q : Nat → Nat) (i : Nat) (m : Nat) (f : Nat → Int8) (oa : Nat) (ot : Nat → Int64) (h1 : i < 8) (hm : m ≤ 8192) : Ch (S := Unit) l B y_L_length b_L_length 4 [(0, 9, 12, 19)] (Rm 9 0 0) [.ref da, .int (nI i), .ref oa] [co da 3 [.ref (q 0), .ref (q 1), .ref (q 3), .ref (q 7), .ref (q 12), .ref (q 17), .ref (q 18), .ref (q 19), .ref (q 20)], cr B (q 0) 8 (fun z9 => some (q (21 + 2 * z9))), co (q (21 + 2 * i)) 1 [.ref (q (22 + 2 * i)), .int (nI m)], cb B (q (22 + 2 * i)) 8192 f, cj B oa 1 ot] (fun r _ => r = nI 0) (fun _ => [co da 3 [.ref (q 0), .ref (q 1), .ref (q 3), .ref (q 7), .ref (q 12), .ref (q 17), .ref (q 18), .ref (q 19), .ref (q 20)], cr B (q 0) 8 (fun z9 => some (q (21 + 2 * z9))), co (q (21 + 2 * i)) 1 [.ref (q (22 + 2 * i)), .int (nI m)], cb B (q (22 + 2 * i)) 8192 f, cj B oa 1 (va_up ot 0 (lN m))]) := by
  refine ctr_h (by decide) (Nat.le_of_ble_eq_true rfl) ?_
  intro M Q hl hR hTab X kret
  subst hl
  refine g_lv [(0, .ref da), (1, .int (nI i)), (2, .ref oa)] rfl ?_
  refine g_aload_n (pc := 0) X (i := 2) d_L_length_0 rfl rfl ?_
  refine g_iconst (pc := 1) X (v := nI 0) d_L_length_1 (by decide) ?_
  refine g_aload_n (pc := 2) X (i := 0) d_L_length_2 rfl rfl ?_
  refine g_iload_n (pc := 3) X (i := 1) d_L_length_3 rfl rfl ?_
  refine g_callVi (pc := 4) (q0 := 0) X (c_D_length (m_l M) B da q i m f h1) wd_564 wd_565 wd_566 wd_1 wd_567 hd_D_length [0, 1, 2, 3] rfl rfl [da, q 0, q (21 + 2 * i), q (22 + 2 * i)] (fun _ => rfl) rfl rfl rfl (by rw [hR]; decide) (by rw [hR]; decide) rfl (Nat.le_of_ble_eq_true rfl) d_L_length_4 (fun r9 _ hr9 => ?_)
  subst hr9
  refine g_wsq [co da 3 [.ref (q 0), .ref (q 1), .ref (q 3), .ref (q 7), .ref (q 12), .ref (q 17), .ref (q 18), .ref (q 19), .ref (q 20)], cr B (q 0) 8 (fun z9 => some (q (21 + 2 * z9))), co (q (21 + 2 * i)) 1 [.ref (q (22 + 2 * i)), .int (nI m)], cb B (q (22 + 2 * i)) 8192 f, cj B oa 1 ot] rfl ?_
  refine g_i2l (pc := 7) X (v := lN m) d_L_length_7 (nI_l (by omega)) ?_
  refine g_last (pc := 8) X 4 rfl 0 rfl (by omega) (by omega) d_L_length_8 ?_
  refine g_wsq [co da 3 [.ref (q 0), .ref (q 1), .ref (q 3), .ref (q 7), .ref (q 12), .ref (q 17), .ref (q 18), .ref (q 19), .ref (q 20)], cr B (q 0) 8 (fun z9 => some (q (21 + 2 * z9))), co (q (21 + 2 * i)) 1 [.ref (q (22 + 2 * i)), .int (nI m)], cb B (q (22 + 2 * i)) 8192 f, cj B oa 1 (va_up ot 0 (lN m))] rfl ?_
  refine g_goto (pc := 9) X (tgt := 15) d_L_length_9 (by decide) ?_
  refine g_iconst (pc := 15) X (v := nI 0) d_L_length_15 (by decide) ?_
  exact kret _ () _ _ _ 16 (by decide) (by decide) rfl d_L_length_16

theorem w_c_D_word (l : Launch) (B : Bx) (da : Nat) (q : Nat → Nat) (i : Nat) (m : Nat) (p : Nat) (f : Nat → Int8) (oa : Nat) (ot : Nat → Int64) (h1 : i < 8) (h2 : p < m) (h3 : m ≤ 8192) : Ch (S := Unit) l B y_L_word b_L_word 5 [(0, 9, 12, 19), (0, 9, 16, 13)] (Rm 9 0 0) [.ref da, .int (nI i), .int (nI p), .ref oa] [co da 3 [.ref (q 0), .ref (q 1), .ref (q 3), .ref (q 7), .ref (q 12), .ref (q 17), .ref (q 18), .ref (q 19), .ref (q 20)], cr B (q 0) 8 (fun z9 => some (q (21 + 2 * z9))), co (q (21 + 2 * i)) 1 [.ref (q (22 + 2 * i)), .int (nI m)], cb B (q (22 + 2 * i)) 8192 f, cj B oa 1 ot] (fun r _ => r = nI 0) (fun _ => [co da 3 [.ref (q 0), .ref (q 1), .ref (q 3), .ref (q 7), .ref (q 12), .ref (q 17), .ref (q 18), .ref (q 19), .ref (q 20)], cr B (q 0) 8 (fun z9 => some (q (21 + 2 * z9))), co (q (21 + 2 * i)) 1 [.ref (q (22 + 2 * i)), .int (nI m)], cb B (q (22 + 2 * i)) 8192 f, cj B oa 1 (va_up ot 0 (it (eig f m p) 8 0))]) := by
  refine ctr_h (by decide) (Nat.le_of_ble_eq_true rfl) ?_
  intro M Q hl hR hTab X kret
  subst hl
  refine g_lv [(0, .ref da), (1, .int (nI i)), (2, .int (nI p)), (3, .ref oa)] rfl ?_
  refine g_aload_n (pc := 0) X (i := 3) d_L_word_0 rfl rfl ?_
  refine g_iconst (pc := 1) X (v := nI 0) d_L_word_1 (by decide) ?_
  refine g_aload_n (pc := 2) X (i := 0) d_L_word_2 rfl rfl ?_
  refine g_iload_n (pc := 3) X (i := 1) d_L_word_3 rfl rfl ?_
  refine g_iload_n (pc := 4) X (i := 2) d_L_word_4 rfl rfl ?_
  refine g_callVl (pc := 5) (q0 := 0) X (c_D_word (m_l M) B da q i m p f h1 h2 h3) wd_571 wd_572 wd_573 wd_1 wd_574 hd_D_word [0, 1, 2, 3] rfl rfl [da, q 0, q (21 + 2 * i), q (22 + 2 * i)] (fun _ => rfl) rfl rfl rfl (by rw [hR]; decide) (by rw [hR]; decide) rfl (Nat.le_of_ble_eq_true rfl) d_L_word_5 (fun r9 _ hr9 => ?_)
  subst hr9
  refine g_wsq [co da 3 [.ref (q 0), .ref (q 1), .ref (q 3), .ref (q 7), .ref (q 12), .ref (q 17), .ref (q 18), .ref (q 19), .ref (q 20)], cr B (q 0) 8 (fun z9 => some (q (21 + 2 * z9))), co (q (21 + 2 * i)) 1 [.ref (q (22 + 2 * i)), .int (nI m)], cb B (q (22 + 2 * i)) 8192 f, cj B oa 1 ot] rfl ?_
  refine g_last (pc := 8) X 4 rfl 0 rfl (by omega) (by omega) d_L_word_8 ?_
  refine g_wsq [co da 3 [.ref (q 0), .ref (q 1), .ref (q 3), .ref (q 7), .ref (q 12), .ref (q 17), .ref (q 18), .ref (q 19), .ref (q 20)], cr B (q 0) 8 (fun z9 => some (q (21 + 2 * z9))), co (q (21 + 2 * i)) 1 [.ref (q (22 + 2 * i)), .int (nI m)], cb B (q (22 + 2 * i)) 8192 f, cj B oa 1 (va_up ot 0 (it (eig f m p) 8 0))] rfl ?_
  refine g_goto (pc := 9) X (tgt := 20) d_L_word_9 (by decide) ?_
  refine g_iconst (pc := 20) X (v := nI 0) d_L_word_20 (by decide) ?_
  exact kret _ () _ _ _ 21 (by decide) (by decide) rfl d_L_word_21

theorem w_c_D_same (l : Launch) (B : Bx) (da : Nat) (q : Nat → Nat) (i : Nat) (j : Nat) (n : Nat) (m : Nat) (f : Nat → Int8) (g : Nat → Int8) (oa : Nat) (ot : Nat → Int64) (h1 : i < 8) (h2 : j < 8) (h3 : n ≤ 8192) (h4 : m ≤ 8192) : Ch (S := Unit) l B y_L_same b_L_same 5 [(0, 17, 20, 19)] (Rm 9 0 0) [.ref da, .int (nI i), .int (nI j), .ref oa] [co da 3 [.ref (q 0), .ref (q 1), .ref (q 3), .ref (q 7), .ref (q 12), .ref (q 17), .ref (q 18), .ref (q 19), .ref (q 20)], cr B (q 0) 8 (fun z9 => some (q (21 + 2 * z9))), co (q (21 + 2 * i)) 1 [.ref (q (22 + 2 * i)), .int (nI n)], cb B (q (22 + 2 * i)) 8192 f, co (q (21 + 2 * j)) 1 [.ref (q (22 + 2 * j)), .int (nI m)], cb B (q (22 + 2 * j)) 8192 g, cj B oa 1 ot] (fun r _ => r = nI 0) (fun _ => [co da 3 [.ref (q 0), .ref (q 1), .ref (q 3), .ref (q 7), .ref (q 12), .ref (q 17), .ref (q 18), .ref (q 19), .ref (q 20)], cr B (q 0) 8 (fun z9 => some (q (21 + 2 * z9))), co (q (21 + 2 * i)) 1 [.ref (q (22 + 2 * i)), .int (nI n)], cb B (q (22 + 2 * i)) 8192 f, co (q (21 + 2 * j)) 1 [.ref (q (22 + 2 * j)), .int (nI m)], cb B (q (22 + 2 * j)) 8192 g, cj B oa 1 (va_up ot 0 (if mtC f g n m = 0 then (0 : Int64) else 1))]) := by
  refine ctr_h (by decide) (Nat.le_of_ble_eq_true rfl) ?_
  intro M Q hl hR hTab X kret
  subst hl
  refine g_lv [(0, .ref da), (1, .int (nI i)), (2, .int (nI j)), (3, .ref oa)] rfl ?_
  refine g_aload_n (pc := 0) X (i := 3) d_L_same_0 rfl rfl ?_
  refine g_iconst (pc := 1) X (v := nI 0) d_L_same_1 (by decide) ?_
  refine g_aload_n (pc := 2) X (i := 0) d_L_same_2 rfl rfl ?_
  refine g_iload_n (pc := 3) X (i := 1) d_L_same_3 rfl rfl ?_
  refine g_iload_n (pc := 4) X (i := 2) d_L_same_4 rfl rfl ?_
  refine g_callVi (pc := 5) (q0 := 0) X (c_D_same (m_l M) B da q i j n m f g h1 h2 h3 h4) wd_582 wd_583 wd_584 wd_1 wd_585 hd_D_same [0, 1, 2, 3, 4, 5] rfl rfl [da, q 0, q (21 + 2 * i), q (22 + 2 * i), q (21 + 2 * j), q (22 + 2 * j)] (fun _ => rfl) rfl rfl rfl (by rw [hR]; decide) (by rw [hR]; decide) rfl (Nat.le_of_ble_eq_true rfl) d_L_same_5 (fun r9 _ hr9 => ?_)
  subst hr9
  refine g_wsq [co da 3 [.ref (q 0), .ref (q 1), .ref (q 3), .ref (q 7), .ref (q 12), .ref (q 17), .ref (q 18), .ref (q 19), .ref (q 20)], cr B (q 0) 8 (fun z9 => some (q (21 + 2 * z9))), co (q (21 + 2 * i)) 1 [.ref (q (22 + 2 * i)), .int (nI n)], cb B (q (22 + 2 * i)) 8192 f, co (q (21 + 2 * j)) 1 [.ref (q (22 + 2 * j)), .int (nI m)], cb B (q (22 + 2 * j)) 8192 g, cj B oa 1 ot] rfl ?_
  refine g_if_eq (pc := 8) X (tgt := 15) d_L_same_8 (by decide) (fun h_8 => ?_) (fun h_8 => ?_)
  · refine g_lconst (pc := 15) X (v := 0) d_L_same_15 (by decide) ?_
    refine g_last (pc := 16) X 6 rfl 0 rfl (by omega) (by omega) d_L_same_16 ?_
    refine g_wsq [co da 3 [.ref (q 0), .ref (q 1), .ref (q 3), .ref (q 7), .ref (q 12), .ref (q 17), .ref (q 18), .ref (q 19), .ref (q 20)], cr B (q 0) 8 (fun z9 => some (q (21 + 2 * z9))), co (q (21 + 2 * i)) 1 [.ref (q (22 + 2 * i)), .int (nI n)], cb B (q (22 + 2 * i)) 8192 f, co (q (21 + 2 * j)) 1 [.ref (q (22 + 2 * j)), .int (nI m)], cb B (q (22 + 2 * j)) 8192 g, cj B oa 1 (va_up ot 0 0)] rfl ?_
    refine g_goto (pc := 17) X (tgt := 24) d_L_same_17 (by decide) ?_
    refine g_iconst (pc := 24) X (v := nI 0) d_L_same_24 (by decide) ?_
    refine g_wsq [co da 3 [.ref (q 0), .ref (q 1), .ref (q 3), .ref (q 7), .ref (q 12), .ref (q 17), .ref (q 18), .ref (q 19), .ref (q 20)], cr B (q 0) 8 (fun z9 => some (q (21 + 2 * z9))), co (q (21 + 2 * i)) 1 [.ref (q (22 + 2 * i)), .int (nI n)], cb B (q (22 + 2 * i)) 8192 f, co (q (21 + 2 * j)) 1 [.ref (q (22 + 2 * j)), .int (nI m)], cb B (q (22 + 2 * j)) 8192 g, cj B oa 1 (va_up ot 0 (if mtC f g n m = 0 then (0 : Int64) else 1))] (by first | rw [if_pos (by assumption)] | rw [if_neg (by assumption)]) ?_
    exact kret _ () _ _ _ 25 (by decide) (by decide) rfl d_L_same_25
  · refine g_lconst (pc := 11) X (v := 1) d_L_same_11 (by decide) ?_
    refine g_goto (pc := 12) X (tgt := 16) d_L_same_12 (by decide) ?_
    refine g_last (pc := 16) X 6 rfl 0 rfl (by omega) (by omega) d_L_same_16 ?_
    refine g_wsq [co da 3 [.ref (q 0), .ref (q 1), .ref (q 3), .ref (q 7), .ref (q 12), .ref (q 17), .ref (q 18), .ref (q 19), .ref (q 20)], cr B (q 0) 8 (fun z9 => some (q (21 + 2 * z9))), co (q (21 + 2 * i)) 1 [.ref (q (22 + 2 * i)), .int (nI n)], cb B (q (22 + 2 * i)) 8192 f, co (q (21 + 2 * j)) 1 [.ref (q (22 + 2 * j)), .int (nI m)], cb B (q (22 + 2 * j)) 8192 g, cj B oa 1 (va_up ot 0 1)] rfl ?_
    refine g_goto (pc := 17) X (tgt := 24) d_L_same_17 (by decide) ?_
    refine g_iconst (pc := 24) X (v := nI 0) d_L_same_24 (by decide) ?_
    refine g_wsq [co da 3 [.ref (q 0), .ref (q 1), .ref (q 3), .ref (q 7), .ref (q 12), .ref (q 17), .ref (q 18), .ref (q 19), .ref (q 20)], cr B (q 0) 8 (fun z9 => some (q (21 + 2 * z9))), co (q (21 + 2 * i)) 1 [.ref (q (22 + 2 * i)), .int (nI n)], cb B (q (22 + 2 * i)) 8192 f, co (q (21 + 2 * j)) 1 [.ref (q (22 + 2 * j)), .int (nI m)], cb B (q (22 + 2 * j)) 8192 g, cj B oa 1 (va_up ot 0 (if mtC f g n m = 0 then (0 : Int64) else 1))] (by first | rw [if_pos (by assumption)] | rw [if_neg (by assumption)]) ?_
    exact kret _ () _ _ _ 25 (by decide) (by decide) rfl d_L_same_25

theorem w_c_D_same_self (l : Launch) (B : Bx) (da : Nat) (q : Nat → Nat) (i : Nat) (n : Nat) (f : Nat → Int8) (oa : Nat) (ot : Nat → Int64) (h1 : i < 8) (h3 : n ≤ 8192) : Ch (S := Unit) l B y_L_same b_L_same 5 [(0, 17, 20, 19)] (Rm 9 0 0) [.ref da, .int (nI i), .int (nI i), .ref oa] [co da 3 [.ref (q 0), .ref (q 1), .ref (q 3), .ref (q 7), .ref (q 12), .ref (q 17), .ref (q 18), .ref (q 19), .ref (q 20)], cr B (q 0) 8 (fun z9 => some (q (21 + 2 * z9))), co (q (21 + 2 * i)) 1 [.ref (q (22 + 2 * i)), .int (nI n)], cb B (q (22 + 2 * i)) 8192 f, cj B oa 1 ot] (fun r _ => r = nI 0) (fun _ => [co da 3 [.ref (q 0), .ref (q 1), .ref (q 3), .ref (q 7), .ref (q 12), .ref (q 17), .ref (q 18), .ref (q 19), .ref (q 20)], cr B (q 0) 8 (fun z9 => some (q (21 + 2 * z9))), co (q (21 + 2 * i)) 1 [.ref (q (22 + 2 * i)), .int (nI n)], cb B (q (22 + 2 * i)) 8192 f, cj B oa 1 (va_up ot 0 (if mtC f f n n = 0 then (0 : Int64) else 1))]) := by
  refine ctr_h (by decide) (Nat.le_of_ble_eq_true rfl) ?_
  intro M Q hl hR hTab X kret
  subst hl
  refine g_lv [(0, .ref da), (1, .int (nI i)), (2, .int (nI i)), (3, .ref oa)] rfl ?_
  refine g_aload_n (pc := 0) X (i := 3) d_L_same_0 rfl rfl ?_
  refine g_iconst (pc := 1) X (v := nI 0) d_L_same_1 (by decide) ?_
  refine g_aload_n (pc := 2) X (i := 0) d_L_same_2 rfl rfl ?_
  refine g_iload_n (pc := 3) X (i := 1) d_L_same_3 rfl rfl ?_
  refine g_iload_n (pc := 4) X (i := 2) d_L_same_4 rfl rfl ?_
  refine g_callVi (pc := 5) (q0 := 0) X (c_D_same_self (m_l M) B da q i n f h1 h3) wd_582 wd_583 wd_584 wd_1 wd_585 hd_D_same [0, 1, 2, 3] rfl rfl [da, q 0, q (21 + 2 * i), q (22 + 2 * i)] (fun _ => rfl) rfl rfl rfl (by rw [hR]; decide) (by rw [hR]; decide) rfl (Nat.le_of_ble_eq_true rfl) d_L_same_5 (fun r9 _ hr9 => ?_)
  subst hr9
  refine g_wsq [co da 3 [.ref (q 0), .ref (q 1), .ref (q 3), .ref (q 7), .ref (q 12), .ref (q 17), .ref (q 18), .ref (q 19), .ref (q 20)], cr B (q 0) 8 (fun z9 => some (q (21 + 2 * z9))), co (q (21 + 2 * i)) 1 [.ref (q (22 + 2 * i)), .int (nI n)], cb B (q (22 + 2 * i)) 8192 f, cj B oa 1 ot] rfl ?_
  refine g_if_eq (pc := 8) X (tgt := 15) d_L_same_8 (by decide) (fun h_8 => ?_) (fun h_8 => ?_)
  · refine g_lconst (pc := 15) X (v := 0) d_L_same_15 (by decide) ?_
    refine g_last (pc := 16) X 4 rfl 0 rfl (by omega) (by omega) d_L_same_16 ?_
    refine g_wsq [co da 3 [.ref (q 0), .ref (q 1), .ref (q 3), .ref (q 7), .ref (q 12), .ref (q 17), .ref (q 18), .ref (q 19), .ref (q 20)], cr B (q 0) 8 (fun z9 => some (q (21 + 2 * z9))), co (q (21 + 2 * i)) 1 [.ref (q (22 + 2 * i)), .int (nI n)], cb B (q (22 + 2 * i)) 8192 f, cj B oa 1 (va_up ot 0 0)] rfl ?_
    refine g_goto (pc := 17) X (tgt := 24) d_L_same_17 (by decide) ?_
    refine g_iconst (pc := 24) X (v := nI 0) d_L_same_24 (by decide) ?_
    refine g_wsq [co da 3 [.ref (q 0), .ref (q 1), .ref (q 3), .ref (q 7), .ref (q 12), .ref (q 17), .ref (q 18), .ref (q 19), .ref (q 20)], cr B (q 0) 8 (fun z9 => some (q (21 + 2 * z9))), co (q (21 + 2 * i)) 1 [.ref (q (22 + 2 * i)), .int (nI n)], cb B (q (22 + 2 * i)) 8192 f, cj B oa 1 (va_up ot 0 (if mtC f f n n = 0 then (0 : Int64) else 1))] (by first | rw [if_pos (by assumption)] | rw [if_neg (by assumption)]) ?_
    exact kret _ () _ _ _ 25 (by decide) (by decide) rfl d_L_same_25
  · refine g_lconst (pc := 11) X (v := 1) d_L_same_11 (by decide) ?_
    refine g_goto (pc := 12) X (tgt := 16) d_L_same_12 (by decide) ?_
    refine g_last (pc := 16) X 4 rfl 0 rfl (by omega) (by omega) d_L_same_16 ?_
    refine g_wsq [co da 3 [.ref (q 0), .ref (q 1), .ref (q 3), .ref (q 7), .ref (q 12), .ref (q 17), .ref (q 18), .ref (q 19), .ref (q 20)], cr B (q 0) 8 (fun z9 => some (q (21 + 2 * z9))), co (q (21 + 2 * i)) 1 [.ref (q (22 + 2 * i)), .int (nI n)], cb B (q (22 + 2 * i)) 8192 f, cj B oa 1 (va_up ot 0 1)] rfl ?_
    refine g_goto (pc := 17) X (tgt := 24) d_L_same_17 (by decide) ?_
    refine g_iconst (pc := 24) X (v := nI 0) d_L_same_24 (by decide) ?_
    refine g_wsq [co da 3 [.ref (q 0), .ref (q 1), .ref (q 3), .ref (q 7), .ref (q 12), .ref (q 17), .ref (q 18), .ref (q 19), .ref (q 20)], cr B (q 0) 8 (fun z9 => some (q (21 + 2 * z9))), co (q (21 + 2 * i)) 1 [.ref (q (22 + 2 * i)), .int (nI n)], cb B (q (22 + 2 * i)) 8192 f, cj B oa 1 (va_up ot 0 (if mtC f f n n = 0 then (0 : Int64) else 1))] (by first | rw [if_pos (by assumption)] | rw [if_neg (by assumption)]) ?_
    exact kret _ () _ _ _ 25 (by decide) (by decide) rfl d_L_same_25

theorem w_c_D_digest_1 (l : Launch) (B : Bx) (da : Nat) (q : Nat → Nat) (v : Bool) (tt : Nat) (mt : Nat) (h : H4) (n : Nat) (m : Nat) (n9 : Nat) (x : Nat → Int8) (o : Nat → Int8) (oa : Nat) (ot : Nat → Int64) (h1 : n ≤ 8192) (h2 : 32 ≤ 8 * wbN v) (h9 : n9 ≤ 8192) : Ch (S := Unit) l B y_L_digest b_L_digest 5 [(0, 10, 13, 19)] (Rm 9 0 0) [.ref da, .int (nI 1), .int (nI n9), .ref oa] [co da 3 [.ref (q 0), .ref (q 1), .ref (q 3), .ref (q 7), .ref (q 12), .ref (q 17), .ref (q 18), .ref (q 19), .ref (q 20)], cr B (q 0) 8 (fun z9 => some (q (21 + 2 * z9))), co (q 27) 1 [.ref (q 28), .int (nI n)], cb B (q 28) 8192 x, co (q 33) 1 [.ref (q 34), .int (nI m)], cb B (q 34) 8192 o, co (q 7) 0 [.int (nI (wbN v)), .int (nI (8 * wbN v)), .int (nI (rdN v)), .ref (b_t B (dk v)), .long (mk9 v), .int (nI (16 * wbN v)), .int (nI (8 * wbN v)), .ref (q 8), .ref (q 9), .ref (q 10), .ref (q 11), .int (nI h.2.1), .long (lN tt), .long (lN mt)], cb B (q 8) (16 * wbN v) h.1, cj B (q 9) 8 h.2.2.1, cj B (q 10) (rdN v) h.2.2.2, cj B oa 1 ot] (fun r _ => r = nI 0) (fun _ => [co da 3 [.ref (q 0), .ref (q 1), .ref (q 3), .ref (q 7), .ref (q 12), .ref (q 17), .ref (q 18), .ref (q 19), .ref (q 20)], cr B (q 0) 8 (fun z9 => some (q (21 + 2 * z9))), co (q 27) 1 [.ref (q 28), .int (nI n)], cb B (q 28) 8192 x, co (q 33) 1 [.ref (q 34), .int (nI 32)], cb B (q 34) 8192 (wrS v (hsh v 2 x n h).2.2.1 o 0 32), co (q 7) 0 [.int (nI (wbN v)), .int (nI (8 * wbN v)), .int (nI (rdN v)), .ref (b_t B (dk v)), .long (mk9 v), .int (nI (16 * wbN v)), .int (nI (8 * wbN v)), .ref (q 8), .ref (q 9), .ref (q 10), .ref (q 11), .int (nI ((hsh v 2 x n h).2.1)), .long (lN (0 + n)), .long (lN mt)], cb B (q 8) (16 * wbN v) ((hsh v 2 x n h).1), cj B (q 9) 8 ((hsh v 2 x n h).2.2.1), cj B (q 10) (rdN v) ((hsh v 2 x n h).2.2.2), cj B oa 1 (va_up ot 0 (lN 32))]) := by
  refine ctr_h (by decide) (Nat.le_of_ble_eq_true rfl) ?_
  intro M Q hl hR hTab X kret
  subst hl
  have hv := vf v
  refine g_lv [(0, .ref da), (1, .int (nI 1)), (2, .int (nI n9)), (3, .ref oa)] rfl ?_
  refine g_aload_n (pc := 0) X (i := 3) d_L_digest_0 rfl rfl ?_
  refine g_iconst (pc := 1) X (v := nI 0) d_L_digest_1 (by decide) ?_
  refine g_aload_n (pc := 2) X (i := 0) d_L_digest_2 rfl rfl ?_
  refine g_iload_n (pc := 3) X (i := 1) d_L_digest_3 rfl rfl ?_
  refine g_iload_n (pc := 4) X (i := 2) d_L_digest_4 rfl rfl ?_
  refine g_callVi (pc := 5) (q0 := 0) X (c_D_digest_1 (m_l M) B da q v tt mt h n m n9 x o h1 h2 h9) wd_593 wd_594 wd_595 wd_1 wd_596 hd_D_digest [0, 1, 2, 3, 4, 5, 6, 7, 8, 9] rfl rfl [da, q 0, q 27, q 28, q 33, q 34, q 7, q 8, q 9, q 10] (fun _ => rfl) rfl rfl rfl (by rw [hR]; decide) (by rw [hR]; decide) rfl (Nat.le_of_ble_eq_true rfl) d_L_digest_5 (fun r9 _ hr9 => ?_)
  subst hr9
  refine g_wsq [co da 3 [.ref (q 0), .ref (q 1), .ref (q 3), .ref (q 7), .ref (q 12), .ref (q 17), .ref (q 18), .ref (q 19), .ref (q 20)], cr B (q 0) 8 (fun z9 => some (q (21 + 2 * z9))), co (q 27) 1 [.ref (q 28), .int (nI n)], cb B (q 28) 8192 x, co (q 33) 1 [.ref (q 34), .int (nI 32)], cb B (q 34) 8192 (wrS v (hsh v 2 x n h).2.2.1 o 0 32), co (q 7) 0 [.int (nI (wbN v)), .int (nI (8 * wbN v)), .int (nI (rdN v)), .ref (b_t B (dk v)), .long (mk9 v), .int (nI (16 * wbN v)), .int (nI (8 * wbN v)), .ref (q 8), .ref (q 9), .ref (q 10), .ref (q 11), .int (nI ((hsh v 2 x n h).2.1)), .long (lN (0 + n)), .long (lN mt)], cb B (q 8) (16 * wbN v) ((hsh v 2 x n h).1), cj B (q 9) 8 ((hsh v 2 x n h).2.2.1), cj B (q 10) (rdN v) ((hsh v 2 x n h).2.2.2), cj B oa 1 ot] rfl ?_
  refine g_i2l (pc := 8) X (v := lN 32) d_L_digest_8 (nI_l (by omega)) ?_
  refine g_last (pc := 9) X 10 rfl 0 rfl (by omega) (by omega) d_L_digest_9 ?_
  refine g_wsq [co da 3 [.ref (q 0), .ref (q 1), .ref (q 3), .ref (q 7), .ref (q 12), .ref (q 17), .ref (q 18), .ref (q 19), .ref (q 20)], cr B (q 0) 8 (fun z9 => some (q (21 + 2 * z9))), co (q 27) 1 [.ref (q 28), .int (nI n)], cb B (q 28) 8192 x, co (q 33) 1 [.ref (q 34), .int (nI 32)], cb B (q 34) 8192 (wrS v (hsh v 2 x n h).2.2.1 o 0 32), co (q 7) 0 [.int (nI (wbN v)), .int (nI (8 * wbN v)), .int (nI (rdN v)), .ref (b_t B (dk v)), .long (mk9 v), .int (nI (16 * wbN v)), .int (nI (8 * wbN v)), .ref (q 8), .ref (q 9), .ref (q 10), .ref (q 11), .int (nI ((hsh v 2 x n h).2.1)), .long (lN (0 + n)), .long (lN mt)], cb B (q 8) (16 * wbN v) ((hsh v 2 x n h).1), cj B (q 9) 8 ((hsh v 2 x n h).2.2.1), cj B (q 10) (rdN v) ((hsh v 2 x n h).2.2.2), cj B oa 1 (va_up ot 0 (lN 32))] rfl ?_
  refine g_goto (pc := 10) X (tgt := 17) d_L_digest_10 (by decide) ?_
  refine g_iconst (pc := 17) X (v := nI 0) d_L_digest_17 (by decide) ?_
  exact kret _ () _ _ _ 18 (by decide) (by decide) rfl d_L_digest_18

theorem w_c_D_digest_2 (l : Launch) (B : Bx) (da : Nat) (q : Nat → Nat) (v : Bool) (tt : Nat) (mt : Nat) (h : H4) (n : Nat) (m : Nat) (n9 : Nat) (x : Nat → Int8) (o : Nat → Int8) (oa : Nat) (ot : Nat → Int64) (h1 : n ≤ 8192) (h2 : 48 ≤ 8 * wbN v) (h9 : n9 ≤ 8192) : Ch (S := Unit) l B y_L_digest b_L_digest 5 [(0, 10, 13, 19)] (Rm 9 0 0) [.ref da, .int (nI 2), .int (nI n9), .ref oa] [co da 3 [.ref (q 0), .ref (q 1), .ref (q 3), .ref (q 7), .ref (q 12), .ref (q 17), .ref (q 18), .ref (q 19), .ref (q 20)], cr B (q 0) 8 (fun z9 => some (q (21 + 2 * z9))), co (q 27) 1 [.ref (q 28), .int (nI n)], cb B (q 28) 8192 x, co (q 33) 1 [.ref (q 34), .int (nI m)], cb B (q 34) 8192 o, co (q 12) 0 [.int (nI (wbN v)), .int (nI (8 * wbN v)), .int (nI (rdN v)), .ref (b_t B (dk v)), .long (mk9 v), .int (nI (16 * wbN v)), .int (nI (8 * wbN v)), .ref (q 13), .ref (q 14), .ref (q 15), .ref (q 16), .int (nI h.2.1), .long (lN tt), .long (lN mt)], cb B (q 13) (16 * wbN v) h.1, cj B (q 14) 8 h.2.2.1, cj B (q 15) (rdN v) h.2.2.2, cj B oa 1 ot] (fun r _ => r = nI 0) (fun _ => [co da 3 [.ref (q 0), .ref (q 1), .ref (q 3), .ref (q 7), .ref (q 12), .ref (q 17), .ref (q 18), .ref (q 19), .ref (q 20)], cr B (q 0) 8 (fun z9 => some (q (21 + 2 * z9))), co (q 27) 1 [.ref (q 28), .int (nI n)], cb B (q 28) 8192 x, co (q 33) 1 [.ref (q 34), .int (nI 48)], cb B (q 34) 8192 (wrS v (hsh v 5 x n h).2.2.1 o 0 48), co (q 12) 0 [.int (nI (wbN v)), .int (nI (8 * wbN v)), .int (nI (rdN v)), .ref (b_t B (dk v)), .long (mk9 v), .int (nI (16 * wbN v)), .int (nI (8 * wbN v)), .ref (q 13), .ref (q 14), .ref (q 15), .ref (q 16), .int (nI ((hsh v 5 x n h).2.1)), .long (lN (0 + n)), .long (lN mt)], cb B (q 13) (16 * wbN v) ((hsh v 5 x n h).1), cj B (q 14) 8 ((hsh v 5 x n h).2.2.1), cj B (q 15) (rdN v) ((hsh v 5 x n h).2.2.2), cj B oa 1 (va_up ot 0 (lN 48))]) := by
  refine ctr_h (by decide) (Nat.le_of_ble_eq_true rfl) ?_
  intro M Q hl hR hTab X kret
  subst hl
  have hv := vf v
  refine g_lv [(0, .ref da), (1, .int (nI 2)), (2, .int (nI n9)), (3, .ref oa)] rfl ?_
  refine g_aload_n (pc := 0) X (i := 3) d_L_digest_0 rfl rfl ?_
  refine g_iconst (pc := 1) X (v := nI 0) d_L_digest_1 (by decide) ?_
  refine g_aload_n (pc := 2) X (i := 0) d_L_digest_2 rfl rfl ?_
  refine g_iload_n (pc := 3) X (i := 1) d_L_digest_3 rfl rfl ?_
  refine g_iload_n (pc := 4) X (i := 2) d_L_digest_4 rfl rfl ?_
  refine g_callVi (pc := 5) (q0 := 0) X (c_D_digest_2 (m_l M) B da q v tt mt h n m n9 x o h1 h2 h9) wd_593 wd_594 wd_595 wd_1 wd_596 hd_D_digest [0, 1, 2, 3, 4, 5, 6, 7, 8, 9] rfl rfl [da, q 0, q 27, q 28, q 33, q 34, q 12, q 13, q 14, q 15] (fun _ => rfl) rfl rfl rfl (by rw [hR]; decide) (by rw [hR]; decide) rfl (Nat.le_of_ble_eq_true rfl) d_L_digest_5 (fun r9 _ hr9 => ?_)
  subst hr9
  refine g_wsq [co da 3 [.ref (q 0), .ref (q 1), .ref (q 3), .ref (q 7), .ref (q 12), .ref (q 17), .ref (q 18), .ref (q 19), .ref (q 20)], cr B (q 0) 8 (fun z9 => some (q (21 + 2 * z9))), co (q 27) 1 [.ref (q 28), .int (nI n)], cb B (q 28) 8192 x, co (q 33) 1 [.ref (q 34), .int (nI 48)], cb B (q 34) 8192 (wrS v (hsh v 5 x n h).2.2.1 o 0 48), co (q 12) 0 [.int (nI (wbN v)), .int (nI (8 * wbN v)), .int (nI (rdN v)), .ref (b_t B (dk v)), .long (mk9 v), .int (nI (16 * wbN v)), .int (nI (8 * wbN v)), .ref (q 13), .ref (q 14), .ref (q 15), .ref (q 16), .int (nI ((hsh v 5 x n h).2.1)), .long (lN (0 + n)), .long (lN mt)], cb B (q 13) (16 * wbN v) ((hsh v 5 x n h).1), cj B (q 14) 8 ((hsh v 5 x n h).2.2.1), cj B (q 15) (rdN v) ((hsh v 5 x n h).2.2.2), cj B oa 1 ot] rfl ?_
  refine g_i2l (pc := 8) X (v := lN 48) d_L_digest_8 (nI_l (by omega)) ?_
  refine g_last (pc := 9) X 10 rfl 0 rfl (by omega) (by omega) d_L_digest_9 ?_
  refine g_wsq [co da 3 [.ref (q 0), .ref (q 1), .ref (q 3), .ref (q 7), .ref (q 12), .ref (q 17), .ref (q 18), .ref (q 19), .ref (q 20)], cr B (q 0) 8 (fun z9 => some (q (21 + 2 * z9))), co (q 27) 1 [.ref (q 28), .int (nI n)], cb B (q 28) 8192 x, co (q 33) 1 [.ref (q 34), .int (nI 48)], cb B (q 34) 8192 (wrS v (hsh v 5 x n h).2.2.1 o 0 48), co (q 12) 0 [.int (nI (wbN v)), .int (nI (8 * wbN v)), .int (nI (rdN v)), .ref (b_t B (dk v)), .long (mk9 v), .int (nI (16 * wbN v)), .int (nI (8 * wbN v)), .ref (q 13), .ref (q 14), .ref (q 15), .ref (q 16), .int (nI ((hsh v 5 x n h).2.1)), .long (lN (0 + n)), .long (lN mt)], cb B (q 13) (16 * wbN v) ((hsh v 5 x n h).1), cj B (q 14) 8 ((hsh v 5 x n h).2.2.1), cj B (q 15) (rdN v) ((hsh v 5 x n h).2.2.2), cj B oa 1 (va_up ot 0 (lN 48))] rfl ?_
  refine g_goto (pc := 10) X (tgt := 17) d_L_digest_10 (by decide) ?_
  refine g_iconst (pc := 17) X (v := nI 0) d_L_digest_17 (by decide) ?_
  exact kret _ () _ _ _ 18 (by decide) (by decide) rfl d_L_digest_18

theorem w_c_D_digest_3 (l : Launch) (B : Bx) (da : Nat) (q : Nat → Nat) (v : Bool) (tt : Nat) (mt : Nat) (h : H4) (n : Nat) (m : Nat) (n9 : Nat) (x : Nat → Int8) (o : Nat → Int8) (oa : Nat) (ot : Nat → Int64) (h1 : n ≤ 8192) (h2 : 64 ≤ 8 * wbN v) (h9 : n9 ≤ 8192) : Ch (S := Unit) l B y_L_digest b_L_digest 5 [(0, 10, 13, 19)] (Rm 9 0 0) [.ref da, .int (nI 3), .int (nI n9), .ref oa] [co da 3 [.ref (q 0), .ref (q 1), .ref (q 3), .ref (q 7), .ref (q 12), .ref (q 17), .ref (q 18), .ref (q 19), .ref (q 20)], cr B (q 0) 8 (fun z9 => some (q (21 + 2 * z9))), co (q 27) 1 [.ref (q 28), .int (nI n)], cb B (q 28) 8192 x, co (q 33) 1 [.ref (q 34), .int (nI m)], cb B (q 34) 8192 o, co (q 12) 0 [.int (nI (wbN v)), .int (nI (8 * wbN v)), .int (nI (rdN v)), .ref (b_t B (dk v)), .long (mk9 v), .int (nI (16 * wbN v)), .int (nI (8 * wbN v)), .ref (q 13), .ref (q 14), .ref (q 15), .ref (q 16), .int (nI h.2.1), .long (lN tt), .long (lN mt)], cb B (q 13) (16 * wbN v) h.1, cj B (q 14) 8 h.2.2.1, cj B (q 15) (rdN v) h.2.2.2, cj B oa 1 ot] (fun r _ => r = nI 0) (fun _ => [co da 3 [.ref (q 0), .ref (q 1), .ref (q 3), .ref (q 7), .ref (q 12), .ref (q 17), .ref (q 18), .ref (q 19), .ref (q 20)], cr B (q 0) 8 (fun z9 => some (q (21 + 2 * z9))), co (q 27) 1 [.ref (q 28), .int (nI n)], cb B (q 28) 8192 x, co (q 33) 1 [.ref (q 34), .int (nI 64)], cb B (q 34) 8192 (wrS v (hsh v 4 x n h).2.2.1 o 0 64), co (q 12) 0 [.int (nI (wbN v)), .int (nI (8 * wbN v)), .int (nI (rdN v)), .ref (b_t B (dk v)), .long (mk9 v), .int (nI (16 * wbN v)), .int (nI (8 * wbN v)), .ref (q 13), .ref (q 14), .ref (q 15), .ref (q 16), .int (nI ((hsh v 4 x n h).2.1)), .long (lN (0 + n)), .long (lN mt)], cb B (q 13) (16 * wbN v) ((hsh v 4 x n h).1), cj B (q 14) 8 ((hsh v 4 x n h).2.2.1), cj B (q 15) (rdN v) ((hsh v 4 x n h).2.2.2), cj B oa 1 (va_up ot 0 (lN 64))]) := by
  refine ctr_h (by decide) (Nat.le_of_ble_eq_true rfl) ?_
  intro M Q hl hR hTab X kret
  subst hl
  have hv := vf v
  refine g_lv [(0, .ref da), (1, .int (nI 3)), (2, .int (nI n9)), (3, .ref oa)] rfl ?_
  refine g_aload_n (pc := 0) X (i := 3) d_L_digest_0 rfl rfl ?_
  refine g_iconst (pc := 1) X (v := nI 0) d_L_digest_1 (by decide) ?_
  refine g_aload_n (pc := 2) X (i := 0) d_L_digest_2 rfl rfl ?_
  refine g_iload_n (pc := 3) X (i := 1) d_L_digest_3 rfl rfl ?_
  refine g_iload_n (pc := 4) X (i := 2) d_L_digest_4 rfl rfl ?_
  refine g_callVi (pc := 5) (q0 := 0) X (c_D_digest_3 (m_l M) B da q v tt mt h n m n9 x o h1 h2 h9) wd_593 wd_594 wd_595 wd_1 wd_596 hd_D_digest [0, 1, 2, 3, 4, 5, 6, 7, 8, 9] rfl rfl [da, q 0, q 27, q 28, q 33, q 34, q 12, q 13, q 14, q 15] (fun _ => rfl) rfl rfl rfl (by rw [hR]; decide) (by rw [hR]; decide) rfl (Nat.le_of_ble_eq_true rfl) d_L_digest_5 (fun r9 _ hr9 => ?_)
  subst hr9
  refine g_wsq [co da 3 [.ref (q 0), .ref (q 1), .ref (q 3), .ref (q 7), .ref (q 12), .ref (q 17), .ref (q 18), .ref (q 19), .ref (q 20)], cr B (q 0) 8 (fun z9 => some (q (21 + 2 * z9))), co (q 27) 1 [.ref (q 28), .int (nI n)], cb B (q 28) 8192 x, co (q 33) 1 [.ref (q 34), .int (nI 64)], cb B (q 34) 8192 (wrS v (hsh v 4 x n h).2.2.1 o 0 64), co (q 12) 0 [.int (nI (wbN v)), .int (nI (8 * wbN v)), .int (nI (rdN v)), .ref (b_t B (dk v)), .long (mk9 v), .int (nI (16 * wbN v)), .int (nI (8 * wbN v)), .ref (q 13), .ref (q 14), .ref (q 15), .ref (q 16), .int (nI ((hsh v 4 x n h).2.1)), .long (lN (0 + n)), .long (lN mt)], cb B (q 13) (16 * wbN v) ((hsh v 4 x n h).1), cj B (q 14) 8 ((hsh v 4 x n h).2.2.1), cj B (q 15) (rdN v) ((hsh v 4 x n h).2.2.2), cj B oa 1 ot] rfl ?_
  refine g_i2l (pc := 8) X (v := lN 64) d_L_digest_8 (nI_l (by omega)) ?_
  refine g_last (pc := 9) X 10 rfl 0 rfl (by omega) (by omega) d_L_digest_9 ?_
  refine g_wsq [co da 3 [.ref (q 0), .ref (q 1), .ref (q 3), .ref (q 7), .ref (q 12), .ref (q 17), .ref (q 18), .ref (q 19), .ref (q 20)], cr B (q 0) 8 (fun z9 => some (q (21 + 2 * z9))), co (q 27) 1 [.ref (q 28), .int (nI n)], cb B (q 28) 8192 x, co (q 33) 1 [.ref (q 34), .int (nI 64)], cb B (q 34) 8192 (wrS v (hsh v 4 x n h).2.2.1 o 0 64), co (q 12) 0 [.int (nI (wbN v)), .int (nI (8 * wbN v)), .int (nI (rdN v)), .ref (b_t B (dk v)), .long (mk9 v), .int (nI (16 * wbN v)), .int (nI (8 * wbN v)), .ref (q 13), .ref (q 14), .ref (q 15), .ref (q 16), .int (nI ((hsh v 4 x n h).2.1)), .long (lN (0 + n)), .long (lN mt)], cb B (q 13) (16 * wbN v) ((hsh v 4 x n h).1), cj B (q 14) 8 ((hsh v 4 x n h).2.2.1), cj B (q 15) (rdN v) ((hsh v 4 x n h).2.2.2), cj B oa 1 (va_up ot 0 (lN 64))] rfl ?_
  refine g_goto (pc := 10) X (tgt := 17) d_L_digest_10 (by decide) ?_
  refine g_iconst (pc := 17) X (v := nI 0) d_L_digest_17 (by decide) ?_
  exact kret _ () _ _ _ 18 (by decide) (by decide) rfl d_L_digest_18

theorem w_c_D_digest_4 (l : Launch) (B : Bx) (da : Nat) (q : Nat → Nat) (v : Bool) (tt : Nat) (mt : Nat) (h : H4) (n : Nat) (m : Nat) (n9 : Nat) (x : Nat → Int8) (o : Nat → Int8) (oa : Nat) (ot : Nat → Int64) (h1 : n ≤ 8192) (h2 : 28 ≤ 8 * wbN v) (h9 : n9 ≤ 8192) : Ch (S := Unit) l B y_L_digest b_L_digest 5 [(0, 10, 13, 19)] (Rm 9 0 0) [.ref da, .int (nI 4), .int (nI n9), .ref oa] [co da 3 [.ref (q 0), .ref (q 1), .ref (q 3), .ref (q 7), .ref (q 12), .ref (q 17), .ref (q 18), .ref (q 19), .ref (q 20)], cr B (q 0) 8 (fun z9 => some (q (21 + 2 * z9))), co (q 27) 1 [.ref (q 28), .int (nI n)], cb B (q 28) 8192 x, co (q 33) 1 [.ref (q 34), .int (nI m)], cb B (q 34) 8192 o, co (q 7) 0 [.int (nI (wbN v)), .int (nI (8 * wbN v)), .int (nI (rdN v)), .ref (b_t B (dk v)), .long (mk9 v), .int (nI (16 * wbN v)), .int (nI (8 * wbN v)), .ref (q 8), .ref (q 9), .ref (q 10), .ref (q 11), .int (nI h.2.1), .long (lN tt), .long (lN mt)], cb B (q 8) (16 * wbN v) h.1, cj B (q 9) 8 h.2.2.1, cj B (q 10) (rdN v) h.2.2.2, cj B oa 1 ot] (fun r _ => r = nI 0) (fun _ => [co da 3 [.ref (q 0), .ref (q 1), .ref (q 3), .ref (q 7), .ref (q 12), .ref (q 17), .ref (q 18), .ref (q 19), .ref (q 20)], cr B (q 0) 8 (fun z9 => some (q (21 + 2 * z9))), co (q 27) 1 [.ref (q 28), .int (nI n)], cb B (q 28) 8192 x, co (q 33) 1 [.ref (q 34), .int (nI 28)], cb B (q 34) 8192 (wrS v (hsh v 3 x n h).2.2.1 o 0 28), co (q 7) 0 [.int (nI (wbN v)), .int (nI (8 * wbN v)), .int (nI (rdN v)), .ref (b_t B (dk v)), .long (mk9 v), .int (nI (16 * wbN v)), .int (nI (8 * wbN v)), .ref (q 8), .ref (q 9), .ref (q 10), .ref (q 11), .int (nI ((hsh v 3 x n h).2.1)), .long (lN (0 + n)), .long (lN mt)], cb B (q 8) (16 * wbN v) ((hsh v 3 x n h).1), cj B (q 9) 8 ((hsh v 3 x n h).2.2.1), cj B (q 10) (rdN v) ((hsh v 3 x n h).2.2.2), cj B oa 1 (va_up ot 0 (lN 28))]) := by
  refine ctr_h (by decide) (Nat.le_of_ble_eq_true rfl) ?_
  intro M Q hl hR hTab X kret
  subst hl
  have hv := vf v
  refine g_lv [(0, .ref da), (1, .int (nI 4)), (2, .int (nI n9)), (3, .ref oa)] rfl ?_
  refine g_aload_n (pc := 0) X (i := 3) d_L_digest_0 rfl rfl ?_
  refine g_iconst (pc := 1) X (v := nI 0) d_L_digest_1 (by decide) ?_
  refine g_aload_n (pc := 2) X (i := 0) d_L_digest_2 rfl rfl ?_
  refine g_iload_n (pc := 3) X (i := 1) d_L_digest_3 rfl rfl ?_
  refine g_iload_n (pc := 4) X (i := 2) d_L_digest_4 rfl rfl ?_
  refine g_callVi (pc := 5) (q0 := 0) X (c_D_digest_4 (m_l M) B da q v tt mt h n m n9 x o h1 h2 h9) wd_593 wd_594 wd_595 wd_1 wd_596 hd_D_digest [0, 1, 2, 3, 4, 5, 6, 7, 8, 9] rfl rfl [da, q 0, q 27, q 28, q 33, q 34, q 7, q 8, q 9, q 10] (fun _ => rfl) rfl rfl rfl (by rw [hR]; decide) (by rw [hR]; decide) rfl (Nat.le_of_ble_eq_true rfl) d_L_digest_5 (fun r9 _ hr9 => ?_)
  subst hr9
  refine g_wsq [co da 3 [.ref (q 0), .ref (q 1), .ref (q 3), .ref (q 7), .ref (q 12), .ref (q 17), .ref (q 18), .ref (q 19), .ref (q 20)], cr B (q 0) 8 (fun z9 => some (q (21 + 2 * z9))), co (q 27) 1 [.ref (q 28), .int (nI n)], cb B (q 28) 8192 x, co (q 33) 1 [.ref (q 34), .int (nI 28)], cb B (q 34) 8192 (wrS v (hsh v 3 x n h).2.2.1 o 0 28), co (q 7) 0 [.int (nI (wbN v)), .int (nI (8 * wbN v)), .int (nI (rdN v)), .ref (b_t B (dk v)), .long (mk9 v), .int (nI (16 * wbN v)), .int (nI (8 * wbN v)), .ref (q 8), .ref (q 9), .ref (q 10), .ref (q 11), .int (nI ((hsh v 3 x n h).2.1)), .long (lN (0 + n)), .long (lN mt)], cb B (q 8) (16 * wbN v) ((hsh v 3 x n h).1), cj B (q 9) 8 ((hsh v 3 x n h).2.2.1), cj B (q 10) (rdN v) ((hsh v 3 x n h).2.2.2), cj B oa 1 ot] rfl ?_
  refine g_i2l (pc := 8) X (v := lN 28) d_L_digest_8 (nI_l (by omega)) ?_
  refine g_last (pc := 9) X 10 rfl 0 rfl (by omega) (by omega) d_L_digest_9 ?_
  refine g_wsq [co da 3 [.ref (q 0), .ref (q 1), .ref (q 3), .ref (q 7), .ref (q 12), .ref (q 17), .ref (q 18), .ref (q 19), .ref (q 20)], cr B (q 0) 8 (fun z9 => some (q (21 + 2 * z9))), co (q 27) 1 [.ref (q 28), .int (nI n)], cb B (q 28) 8192 x, co (q 33) 1 [.ref (q 34), .int (nI 28)], cb B (q 34) 8192 (wrS v (hsh v 3 x n h).2.2.1 o 0 28), co (q 7) 0 [.int (nI (wbN v)), .int (nI (8 * wbN v)), .int (nI (rdN v)), .ref (b_t B (dk v)), .long (mk9 v), .int (nI (16 * wbN v)), .int (nI (8 * wbN v)), .ref (q 8), .ref (q 9), .ref (q 10), .ref (q 11), .int (nI ((hsh v 3 x n h).2.1)), .long (lN (0 + n)), .long (lN mt)], cb B (q 8) (16 * wbN v) ((hsh v 3 x n h).1), cj B (q 9) 8 ((hsh v 3 x n h).2.2.1), cj B (q 10) (rdN v) ((hsh v 3 x n h).2.2.2), cj B oa 1 (va_up ot 0 (lN 28))] rfl ?_
  refine g_goto (pc := 10) X (tgt := 17) d_L_digest_10 (by decide) ?_
  refine g_iconst (pc := 17) X (v := nI 0) d_L_digest_17 (by decide) ?_
  exact kret _ () _ _ _ 18 (by decide) (by decide) rfl d_L_digest_18

theorem w_c_D_digest_5 (l : Launch) (B : Bx) (da : Nat) (q : Nat → Nat) (v : Bool) (tt : Nat) (mt : Nat) (h : H4) (n : Nat) (m : Nat) (n9 : Nat) (x : Nat → Int8) (o : Nat → Int8) (oa : Nat) (ot : Nat → Int64) (h1 : n ≤ 8192) (h2 : 28 ≤ 8 * wbN v) (h9 : n9 ≤ 8192) : Ch (S := Unit) l B y_L_digest b_L_digest 5 [(0, 10, 13, 19)] (Rm 9 0 0) [.ref da, .int (nI 5), .int (nI n9), .ref oa] [co da 3 [.ref (q 0), .ref (q 1), .ref (q 3), .ref (q 7), .ref (q 12), .ref (q 17), .ref (q 18), .ref (q 19), .ref (q 20)], cr B (q 0) 8 (fun z9 => some (q (21 + 2 * z9))), co (q 27) 1 [.ref (q 28), .int (nI n)], cb B (q 28) 8192 x, co (q 33) 1 [.ref (q 34), .int (nI m)], cb B (q 34) 8192 o, co (q 12) 0 [.int (nI (wbN v)), .int (nI (8 * wbN v)), .int (nI (rdN v)), .ref (b_t B (dk v)), .long (mk9 v), .int (nI (16 * wbN v)), .int (nI (8 * wbN v)), .ref (q 13), .ref (q 14), .ref (q 15), .ref (q 16), .int (nI h.2.1), .long (lN tt), .long (lN mt)], cb B (q 13) (16 * wbN v) h.1, cj B (q 14) 8 h.2.2.1, cj B (q 15) (rdN v) h.2.2.2, cj B oa 1 ot] (fun r _ => r = nI 0) (fun _ => [co da 3 [.ref (q 0), .ref (q 1), .ref (q 3), .ref (q 7), .ref (q 12), .ref (q 17), .ref (q 18), .ref (q 19), .ref (q 20)], cr B (q 0) 8 (fun z9 => some (q (21 + 2 * z9))), co (q 27) 1 [.ref (q 28), .int (nI n)], cb B (q 28) 8192 x, co (q 33) 1 [.ref (q 34), .int (nI 28)], cb B (q 34) 8192 (wrS v (hsh v 6 x n h).2.2.1 o 0 28), co (q 12) 0 [.int (nI (wbN v)), .int (nI (8 * wbN v)), .int (nI (rdN v)), .ref (b_t B (dk v)), .long (mk9 v), .int (nI (16 * wbN v)), .int (nI (8 * wbN v)), .ref (q 13), .ref (q 14), .ref (q 15), .ref (q 16), .int (nI ((hsh v 6 x n h).2.1)), .long (lN (0 + n)), .long (lN mt)], cb B (q 13) (16 * wbN v) ((hsh v 6 x n h).1), cj B (q 14) 8 ((hsh v 6 x n h).2.2.1), cj B (q 15) (rdN v) ((hsh v 6 x n h).2.2.2), cj B oa 1 (va_up ot 0 (lN 28))]) := by
  refine ctr_h (by decide) (Nat.le_of_ble_eq_true rfl) ?_
  intro M Q hl hR hTab X kret
  subst hl
  have hv := vf v
  refine g_lv [(0, .ref da), (1, .int (nI 5)), (2, .int (nI n9)), (3, .ref oa)] rfl ?_
  refine g_aload_n (pc := 0) X (i := 3) d_L_digest_0 rfl rfl ?_
  refine g_iconst (pc := 1) X (v := nI 0) d_L_digest_1 (by decide) ?_
  refine g_aload_n (pc := 2) X (i := 0) d_L_digest_2 rfl rfl ?_
  refine g_iload_n (pc := 3) X (i := 1) d_L_digest_3 rfl rfl ?_
  refine g_iload_n (pc := 4) X (i := 2) d_L_digest_4 rfl rfl ?_
  refine g_callVi (pc := 5) (q0 := 0) X (c_D_digest_5 (m_l M) B da q v tt mt h n m n9 x o h1 h2 h9) wd_593 wd_594 wd_595 wd_1 wd_596 hd_D_digest [0, 1, 2, 3, 4, 5, 6, 7, 8, 9] rfl rfl [da, q 0, q 27, q 28, q 33, q 34, q 12, q 13, q 14, q 15] (fun _ => rfl) rfl rfl rfl (by rw [hR]; decide) (by rw [hR]; decide) rfl (Nat.le_of_ble_eq_true rfl) d_L_digest_5 (fun r9 _ hr9 => ?_)
  subst hr9
  refine g_wsq [co da 3 [.ref (q 0), .ref (q 1), .ref (q 3), .ref (q 7), .ref (q 12), .ref (q 17), .ref (q 18), .ref (q 19), .ref (q 20)], cr B (q 0) 8 (fun z9 => some (q (21 + 2 * z9))), co (q 27) 1 [.ref (q 28), .int (nI n)], cb B (q 28) 8192 x, co (q 33) 1 [.ref (q 34), .int (nI 28)], cb B (q 34) 8192 (wrS v (hsh v 6 x n h).2.2.1 o 0 28), co (q 12) 0 [.int (nI (wbN v)), .int (nI (8 * wbN v)), .int (nI (rdN v)), .ref (b_t B (dk v)), .long (mk9 v), .int (nI (16 * wbN v)), .int (nI (8 * wbN v)), .ref (q 13), .ref (q 14), .ref (q 15), .ref (q 16), .int (nI ((hsh v 6 x n h).2.1)), .long (lN (0 + n)), .long (lN mt)], cb B (q 13) (16 * wbN v) ((hsh v 6 x n h).1), cj B (q 14) 8 ((hsh v 6 x n h).2.2.1), cj B (q 15) (rdN v) ((hsh v 6 x n h).2.2.2), cj B oa 1 ot] rfl ?_
  refine g_i2l (pc := 8) X (v := lN 28) d_L_digest_8 (nI_l (by omega)) ?_
  refine g_last (pc := 9) X 10 rfl 0 rfl (by omega) (by omega) d_L_digest_9 ?_
  refine g_wsq [co da 3 [.ref (q 0), .ref (q 1), .ref (q 3), .ref (q 7), .ref (q 12), .ref (q 17), .ref (q 18), .ref (q 19), .ref (q 20)], cr B (q 0) 8 (fun z9 => some (q (21 + 2 * z9))), co (q 27) 1 [.ref (q 28), .int (nI n)], cb B (q 28) 8192 x, co (q 33) 1 [.ref (q 34), .int (nI 28)], cb B (q 34) 8192 (wrS v (hsh v 6 x n h).2.2.1 o 0 28), co (q 12) 0 [.int (nI (wbN v)), .int (nI (8 * wbN v)), .int (nI (rdN v)), .ref (b_t B (dk v)), .long (mk9 v), .int (nI (16 * wbN v)), .int (nI (8 * wbN v)), .ref (q 13), .ref (q 14), .ref (q 15), .ref (q 16), .int (nI ((hsh v 6 x n h).2.1)), .long (lN (0 + n)), .long (lN mt)], cb B (q 13) (16 * wbN v) ((hsh v 6 x n h).1), cj B (q 14) 8 ((hsh v 6 x n h).2.2.1), cj B (q 15) (rdN v) ((hsh v 6 x n h).2.2.2), cj B oa 1 (va_up ot 0 (lN 28))] rfl ?_
  refine g_goto (pc := 10) X (tgt := 17) d_L_digest_10 (by decide) ?_
  refine g_iconst (pc := 17) X (v := nI 0) d_L_digest_17 (by decide) ?_
  exact kret _ () _ _ _ 18 (by decide) (by decide) rfl d_L_digest_18

theorem w_c_D_digest_6 (l : Launch) (B : Bx) (da : Nat) (q : Nat → Nat) (v : Bool) (tt : Nat) (mt : Nat) (h : H4) (n : Nat) (m : Nat) (n9 : Nat) (x : Nat → Int8) (o : Nat → Int8) (oa : Nat) (ot : Nat → Int64) (h1 : n ≤ 8192) (h2 : 32 ≤ 8 * wbN v) (h9 : n9 ≤ 8192) : Ch (S := Unit) l B y_L_digest b_L_digest 5 [(0, 10, 13, 19)] (Rm 9 0 0) [.ref da, .int (nI 6), .int (nI n9), .ref oa] [co da 3 [.ref (q 0), .ref (q 1), .ref (q 3), .ref (q 7), .ref (q 12), .ref (q 17), .ref (q 18), .ref (q 19), .ref (q 20)], cr B (q 0) 8 (fun z9 => some (q (21 + 2 * z9))), co (q 27) 1 [.ref (q 28), .int (nI n)], cb B (q 28) 8192 x, co (q 33) 1 [.ref (q 34), .int (nI m)], cb B (q 34) 8192 o, co (q 12) 0 [.int (nI (wbN v)), .int (nI (8 * wbN v)), .int (nI (rdN v)), .ref (b_t B (dk v)), .long (mk9 v), .int (nI (16 * wbN v)), .int (nI (8 * wbN v)), .ref (q 13), .ref (q 14), .ref (q 15), .ref (q 16), .int (nI h.2.1), .long (lN tt), .long (lN mt)], cb B (q 13) (16 * wbN v) h.1, cj B (q 14) 8 h.2.2.1, cj B (q 15) (rdN v) h.2.2.2, cj B oa 1 ot] (fun r _ => r = nI 0) (fun _ => [co da 3 [.ref (q 0), .ref (q 1), .ref (q 3), .ref (q 7), .ref (q 12), .ref (q 17), .ref (q 18), .ref (q 19), .ref (q 20)], cr B (q 0) 8 (fun z9 => some (q (21 + 2 * z9))), co (q 27) 1 [.ref (q 28), .int (nI n)], cb B (q 28) 8192 x, co (q 33) 1 [.ref (q 34), .int (nI 32)], cb B (q 34) 8192 (wrS v (hsh v 7 x n h).2.2.1 o 0 32), co (q 12) 0 [.int (nI (wbN v)), .int (nI (8 * wbN v)), .int (nI (rdN v)), .ref (b_t B (dk v)), .long (mk9 v), .int (nI (16 * wbN v)), .int (nI (8 * wbN v)), .ref (q 13), .ref (q 14), .ref (q 15), .ref (q 16), .int (nI ((hsh v 7 x n h).2.1)), .long (lN (0 + n)), .long (lN mt)], cb B (q 13) (16 * wbN v) ((hsh v 7 x n h).1), cj B (q 14) 8 ((hsh v 7 x n h).2.2.1), cj B (q 15) (rdN v) ((hsh v 7 x n h).2.2.2), cj B oa 1 (va_up ot 0 (lN 32))]) := by
  refine ctr_h (by decide) (Nat.le_of_ble_eq_true rfl) ?_
  intro M Q hl hR hTab X kret
  subst hl
  have hv := vf v
  refine g_lv [(0, .ref da), (1, .int (nI 6)), (2, .int (nI n9)), (3, .ref oa)] rfl ?_
  refine g_aload_n (pc := 0) X (i := 3) d_L_digest_0 rfl rfl ?_
  refine g_iconst (pc := 1) X (v := nI 0) d_L_digest_1 (by decide) ?_
  refine g_aload_n (pc := 2) X (i := 0) d_L_digest_2 rfl rfl ?_
  refine g_iload_n (pc := 3) X (i := 1) d_L_digest_3 rfl rfl ?_
  refine g_iload_n (pc := 4) X (i := 2) d_L_digest_4 rfl rfl ?_
  refine g_callVi (pc := 5) (q0 := 0) X (c_D_digest_6 (m_l M) B da q v tt mt h n m n9 x o h1 h2 h9) wd_593 wd_594 wd_595 wd_1 wd_596 hd_D_digest [0, 1, 2, 3, 4, 5, 6, 7, 8, 9] rfl rfl [da, q 0, q 27, q 28, q 33, q 34, q 12, q 13, q 14, q 15] (fun _ => rfl) rfl rfl rfl (by rw [hR]; decide) (by rw [hR]; decide) rfl (Nat.le_of_ble_eq_true rfl) d_L_digest_5 (fun r9 _ hr9 => ?_)
  subst hr9
  refine g_wsq [co da 3 [.ref (q 0), .ref (q 1), .ref (q 3), .ref (q 7), .ref (q 12), .ref (q 17), .ref (q 18), .ref (q 19), .ref (q 20)], cr B (q 0) 8 (fun z9 => some (q (21 + 2 * z9))), co (q 27) 1 [.ref (q 28), .int (nI n)], cb B (q 28) 8192 x, co (q 33) 1 [.ref (q 34), .int (nI 32)], cb B (q 34) 8192 (wrS v (hsh v 7 x n h).2.2.1 o 0 32), co (q 12) 0 [.int (nI (wbN v)), .int (nI (8 * wbN v)), .int (nI (rdN v)), .ref (b_t B (dk v)), .long (mk9 v), .int (nI (16 * wbN v)), .int (nI (8 * wbN v)), .ref (q 13), .ref (q 14), .ref (q 15), .ref (q 16), .int (nI ((hsh v 7 x n h).2.1)), .long (lN (0 + n)), .long (lN mt)], cb B (q 13) (16 * wbN v) ((hsh v 7 x n h).1), cj B (q 14) 8 ((hsh v 7 x n h).2.2.1), cj B (q 15) (rdN v) ((hsh v 7 x n h).2.2.2), cj B oa 1 ot] rfl ?_
  refine g_i2l (pc := 8) X (v := lN 32) d_L_digest_8 (nI_l (by omega)) ?_
  refine g_last (pc := 9) X 10 rfl 0 rfl (by omega) (by omega) d_L_digest_9 ?_
  refine g_wsq [co da 3 [.ref (q 0), .ref (q 1), .ref (q 3), .ref (q 7), .ref (q 12), .ref (q 17), .ref (q 18), .ref (q 19), .ref (q 20)], cr B (q 0) 8 (fun z9 => some (q (21 + 2 * z9))), co (q 27) 1 [.ref (q 28), .int (nI n)], cb B (q 28) 8192 x, co (q 33) 1 [.ref (q 34), .int (nI 32)], cb B (q 34) 8192 (wrS v (hsh v 7 x n h).2.2.1 o 0 32), co (q 12) 0 [.int (nI (wbN v)), .int (nI (8 * wbN v)), .int (nI (rdN v)), .ref (b_t B (dk v)), .long (mk9 v), .int (nI (16 * wbN v)), .int (nI (8 * wbN v)), .ref (q 13), .ref (q 14), .ref (q 15), .ref (q 16), .int (nI ((hsh v 7 x n h).2.1)), .long (lN (0 + n)), .long (lN mt)], cb B (q 13) (16 * wbN v) ((hsh v 7 x n h).1), cj B (q 14) 8 ((hsh v 7 x n h).2.2.1), cj B (q 15) (rdN v) ((hsh v 7 x n h).2.2.2), cj B oa 1 (va_up ot 0 (lN 32))] rfl ?_
  refine g_goto (pc := 10) X (tgt := 17) d_L_digest_10 (by decide) ?_
  refine g_iconst (pc := 17) X (v := nI 0) d_L_digest_17 (by decide) ?_
  exact kret _ () _ _ _ 18 (by decide) (by decide) rfl d_L_digest_18

theorem w_c_D_digest_7 (l : Launch) (B : Bx) (da : Nat) (q : Nat → Nat) (n : Nat) (m : Nat) (n9 : Nat) (s : S3) (x : Nat → Int8) (o : Nat → Int8) (oa : Nat) (ot : Nat → Int64) (h1 : n ≤ 8192) (h9 : n9 ≤ 8192) : Ch (S := Unit) l B y_L_digest b_L_digest 5 [(0, 10, 13, 19)] (Rm 9 0 0) [.ref da, .int (nI 7), .int (nI n9), .ref oa] [co da 3 [.ref (q 0), .ref (q 1), .ref (q 3), .ref (q 7), .ref (q 12), .ref (q 17), .ref (q 18), .ref (q 19), .ref (q 20)], cr B (q 0) 8 (fun z9 => some (q (21 + 2 * z9))), co (q 27) 1 [.ref (q 28), .int (nI n)], cb B (q 28) 8192 x, co (q 33) 1 [.ref (q 34), .int (nI m)], cb B (q 34) 8192 o, co (q 3) 2 [.ref (q 4), .ref (q 5), .ref (q 6)], cj B (q 4) 25 s.1, cj B (q 5) 25 s.2.1, cj B (q 6) 5 s.2.2, cj B oa 1 ot] (fun r _ => r = nI 0) (fun _ => [co da 3 [.ref (q 0), .ref (q 1), .ref (q 3), .ref (q 7), .ref (q 12), .ref (q 17), .ref (q 18), .ref (q 19), .ref (q 20)], cr B (q 0) 8 (fun z9 => some (q (21 + 2 * z9))), co (q 27) 1 [.ref (q 28), .int (nI n)], cb B (q 28) 8192 x, co (q 33) 1 [.ref (q 34), .int (nI 28)], cb B (q 34) 8192 ((sqS 144 28 (abE 144 (nI 6) x n s) o).2.2.2.2), co (q 3) 2 [.ref (q 4), .ref (q 5), .ref (q 6)], cj B (q 4) 25 ((sqS 144 28 (abE 144 (nI 6) x n s) o).1), cj B (q 5) 25 ((sqS 144 28 (abE 144 (nI 6) x n s) o).2.1), cj B (q 6) 5 ((sqS 144 28 (abE 144 (nI 6) x n s) o).2.2.1), cj B oa 1 (va_up ot 0 (lN 28))]) := by
  refine ctr_h (by decide) (Nat.le_of_ble_eq_true rfl) ?_
  intro M Q hl hR hTab X kret
  subst hl
  refine g_lv [(0, .ref da), (1, .int (nI 7)), (2, .int (nI n9)), (3, .ref oa)] rfl ?_
  refine g_aload_n (pc := 0) X (i := 3) d_L_digest_0 rfl rfl ?_
  refine g_iconst (pc := 1) X (v := nI 0) d_L_digest_1 (by decide) ?_
  refine g_aload_n (pc := 2) X (i := 0) d_L_digest_2 rfl rfl ?_
  refine g_iload_n (pc := 3) X (i := 1) d_L_digest_3 rfl rfl ?_
  refine g_iload_n (pc := 4) X (i := 2) d_L_digest_4 rfl rfl ?_
  refine g_callVi (pc := 5) (q0 := 0) X (c_D_digest_7 (m_l M) B da q n m n9 s x o h1 h9) wd_593 wd_594 wd_595 wd_1 wd_596 hd_D_digest [0, 1, 2, 3, 4, 5, 6, 7, 8, 9] rfl rfl [da, q 0, q 27, q 28, q 33, q 34, q 3, q 4, q 5, q 6] (fun _ => rfl) rfl rfl rfl (by rw [hR]; decide) (by rw [hR]; decide) rfl (Nat.le_of_ble_eq_true rfl) d_L_digest_5 (fun r9 _ hr9 => ?_)
  subst hr9
  refine g_wsq [co da 3 [.ref (q 0), .ref (q 1), .ref (q 3), .ref (q 7), .ref (q 12), .ref (q 17), .ref (q 18), .ref (q 19), .ref (q 20)], cr B (q 0) 8 (fun z9 => some (q (21 + 2 * z9))), co (q 27) 1 [.ref (q 28), .int (nI n)], cb B (q 28) 8192 x, co (q 33) 1 [.ref (q 34), .int (nI 28)], cb B (q 34) 8192 ((sqS 144 28 (abE 144 (nI 6) x n s) o).2.2.2.2), co (q 3) 2 [.ref (q 4), .ref (q 5), .ref (q 6)], cj B (q 4) 25 ((sqS 144 28 (abE 144 (nI 6) x n s) o).1), cj B (q 5) 25 ((sqS 144 28 (abE 144 (nI 6) x n s) o).2.1), cj B (q 6) 5 ((sqS 144 28 (abE 144 (nI 6) x n s) o).2.2.1), cj B oa 1 ot] rfl ?_
  refine g_i2l (pc := 8) X (v := lN 28) d_L_digest_8 (nI_l (by omega)) ?_
  refine g_last (pc := 9) X 10 rfl 0 rfl (by omega) (by omega) d_L_digest_9 ?_
  refine g_wsq [co da 3 [.ref (q 0), .ref (q 1), .ref (q 3), .ref (q 7), .ref (q 12), .ref (q 17), .ref (q 18), .ref (q 19), .ref (q 20)], cr B (q 0) 8 (fun z9 => some (q (21 + 2 * z9))), co (q 27) 1 [.ref (q 28), .int (nI n)], cb B (q 28) 8192 x, co (q 33) 1 [.ref (q 34), .int (nI 28)], cb B (q 34) 8192 ((sqS 144 28 (abE 144 (nI 6) x n s) o).2.2.2.2), co (q 3) 2 [.ref (q 4), .ref (q 5), .ref (q 6)], cj B (q 4) 25 ((sqS 144 28 (abE 144 (nI 6) x n s) o).1), cj B (q 5) 25 ((sqS 144 28 (abE 144 (nI 6) x n s) o).2.1), cj B (q 6) 5 ((sqS 144 28 (abE 144 (nI 6) x n s) o).2.2.1), cj B oa 1 (va_up ot 0 (lN 28))] rfl ?_
  refine g_goto (pc := 10) X (tgt := 17) d_L_digest_10 (by decide) ?_
  refine g_iconst (pc := 17) X (v := nI 0) d_L_digest_17 (by decide) ?_
  exact kret _ () _ _ _ 18 (by decide) (by decide) rfl d_L_digest_18

theorem w_c_D_digest_8 (l : Launch) (B : Bx) (da : Nat) (q : Nat → Nat) (n : Nat) (m : Nat) (n9 : Nat) (s : S3) (x : Nat → Int8) (o : Nat → Int8) (oa : Nat) (ot : Nat → Int64) (h1 : n ≤ 8192) (h9 : n9 ≤ 8192) : Ch (S := Unit) l B y_L_digest b_L_digest 5 [(0, 10, 13, 19)] (Rm 9 0 0) [.ref da, .int (nI 8), .int (nI n9), .ref oa] [co da 3 [.ref (q 0), .ref (q 1), .ref (q 3), .ref (q 7), .ref (q 12), .ref (q 17), .ref (q 18), .ref (q 19), .ref (q 20)], cr B (q 0) 8 (fun z9 => some (q (21 + 2 * z9))), co (q 27) 1 [.ref (q 28), .int (nI n)], cb B (q 28) 8192 x, co (q 33) 1 [.ref (q 34), .int (nI m)], cb B (q 34) 8192 o, co (q 3) 2 [.ref (q 4), .ref (q 5), .ref (q 6)], cj B (q 4) 25 s.1, cj B (q 5) 25 s.2.1, cj B (q 6) 5 s.2.2, cj B oa 1 ot] (fun r _ => r = nI 0) (fun _ => [co da 3 [.ref (q 0), .ref (q 1), .ref (q 3), .ref (q 7), .ref (q 12), .ref (q 17), .ref (q 18), .ref (q 19), .ref (q 20)], cr B (q 0) 8 (fun z9 => some (q (21 + 2 * z9))), co (q 27) 1 [.ref (q 28), .int (nI n)], cb B (q 28) 8192 x, co (q 33) 1 [.ref (q 34), .int (nI 32)], cb B (q 34) 8192 ((sqS 136 32 (abE 136 (nI 6) x n s) o).2.2.2.2), co (q 3) 2 [.ref (q 4), .ref (q 5), .ref (q 6)], cj B (q 4) 25 ((sqS 136 32 (abE 136 (nI 6) x n s) o).1), cj B (q 5) 25 ((sqS 136 32 (abE 136 (nI 6) x n s) o).2.1), cj B (q 6) 5 ((sqS 136 32 (abE 136 (nI 6) x n s) o).2.2.1), cj B oa 1 (va_up ot 0 (lN 32))]) := by
  refine ctr_h (by decide) (Nat.le_of_ble_eq_true rfl) ?_
  intro M Q hl hR hTab X kret
  subst hl
  refine g_lv [(0, .ref da), (1, .int (nI 8)), (2, .int (nI n9)), (3, .ref oa)] rfl ?_
  refine g_aload_n (pc := 0) X (i := 3) d_L_digest_0 rfl rfl ?_
  refine g_iconst (pc := 1) X (v := nI 0) d_L_digest_1 (by decide) ?_
  refine g_aload_n (pc := 2) X (i := 0) d_L_digest_2 rfl rfl ?_
  refine g_iload_n (pc := 3) X (i := 1) d_L_digest_3 rfl rfl ?_
  refine g_iload_n (pc := 4) X (i := 2) d_L_digest_4 rfl rfl ?_
  refine g_callVi (pc := 5) (q0 := 0) X (c_D_digest_8 (m_l M) B da q n m n9 s x o h1 h9) wd_593 wd_594 wd_595 wd_1 wd_596 hd_D_digest [0, 1, 2, 3, 4, 5, 6, 7, 8, 9] rfl rfl [da, q 0, q 27, q 28, q 33, q 34, q 3, q 4, q 5, q 6] (fun _ => rfl) rfl rfl rfl (by rw [hR]; decide) (by rw [hR]; decide) rfl (Nat.le_of_ble_eq_true rfl) d_L_digest_5 (fun r9 _ hr9 => ?_)
  subst hr9
  refine g_wsq [co da 3 [.ref (q 0), .ref (q 1), .ref (q 3), .ref (q 7), .ref (q 12), .ref (q 17), .ref (q 18), .ref (q 19), .ref (q 20)], cr B (q 0) 8 (fun z9 => some (q (21 + 2 * z9))), co (q 27) 1 [.ref (q 28), .int (nI n)], cb B (q 28) 8192 x, co (q 33) 1 [.ref (q 34), .int (nI 32)], cb B (q 34) 8192 ((sqS 136 32 (abE 136 (nI 6) x n s) o).2.2.2.2), co (q 3) 2 [.ref (q 4), .ref (q 5), .ref (q 6)], cj B (q 4) 25 ((sqS 136 32 (abE 136 (nI 6) x n s) o).1), cj B (q 5) 25 ((sqS 136 32 (abE 136 (nI 6) x n s) o).2.1), cj B (q 6) 5 ((sqS 136 32 (abE 136 (nI 6) x n s) o).2.2.1), cj B oa 1 ot] rfl ?_
  refine g_i2l (pc := 8) X (v := lN 32) d_L_digest_8 (nI_l (by omega)) ?_
  refine g_last (pc := 9) X 10 rfl 0 rfl (by omega) (by omega) d_L_digest_9 ?_
  refine g_wsq [co da 3 [.ref (q 0), .ref (q 1), .ref (q 3), .ref (q 7), .ref (q 12), .ref (q 17), .ref (q 18), .ref (q 19), .ref (q 20)], cr B (q 0) 8 (fun z9 => some (q (21 + 2 * z9))), co (q 27) 1 [.ref (q 28), .int (nI n)], cb B (q 28) 8192 x, co (q 33) 1 [.ref (q 34), .int (nI 32)], cb B (q 34) 8192 ((sqS 136 32 (abE 136 (nI 6) x n s) o).2.2.2.2), co (q 3) 2 [.ref (q 4), .ref (q 5), .ref (q 6)], cj B (q 4) 25 ((sqS 136 32 (abE 136 (nI 6) x n s) o).1), cj B (q 5) 25 ((sqS 136 32 (abE 136 (nI 6) x n s) o).2.1), cj B (q 6) 5 ((sqS 136 32 (abE 136 (nI 6) x n s) o).2.2.1), cj B oa 1 (va_up ot 0 (lN 32))] rfl ?_
  refine g_goto (pc := 10) X (tgt := 17) d_L_digest_10 (by decide) ?_
  refine g_iconst (pc := 17) X (v := nI 0) d_L_digest_17 (by decide) ?_
  exact kret _ () _ _ _ 18 (by decide) (by decide) rfl d_L_digest_18

theorem w_c_D_digest_9 (l : Launch) (B : Bx) (da : Nat) (q : Nat → Nat) (n : Nat) (m : Nat) (n9 : Nat) (s : S3) (x : Nat → Int8) (o : Nat → Int8) (oa : Nat) (ot : Nat → Int64) (h1 : n ≤ 8192) (h9 : n9 ≤ 8192) : Ch (S := Unit) l B y_L_digest b_L_digest 5 [(0, 10, 13, 19)] (Rm 9 0 0) [.ref da, .int (nI 9), .int (nI n9), .ref oa] [co da 3 [.ref (q 0), .ref (q 1), .ref (q 3), .ref (q 7), .ref (q 12), .ref (q 17), .ref (q 18), .ref (q 19), .ref (q 20)], cr B (q 0) 8 (fun z9 => some (q (21 + 2 * z9))), co (q 27) 1 [.ref (q 28), .int (nI n)], cb B (q 28) 8192 x, co (q 33) 1 [.ref (q 34), .int (nI m)], cb B (q 34) 8192 o, co (q 3) 2 [.ref (q 4), .ref (q 5), .ref (q 6)], cj B (q 4) 25 s.1, cj B (q 5) 25 s.2.1, cj B (q 6) 5 s.2.2, cj B oa 1 ot] (fun r _ => r = nI 0) (fun _ => [co da 3 [.ref (q 0), .ref (q 1), .ref (q 3), .ref (q 7), .ref (q 12), .ref (q 17), .ref (q 18), .ref (q 19), .ref (q 20)], cr B (q 0) 8 (fun z9 => some (q (21 + 2 * z9))), co (q 27) 1 [.ref (q 28), .int (nI n)], cb B (q 28) 8192 x, co (q 33) 1 [.ref (q 34), .int (nI 48)], cb B (q 34) 8192 ((sqS 104 48 (abE 104 (nI 6) x n s) o).2.2.2.2), co (q 3) 2 [.ref (q 4), .ref (q 5), .ref (q 6)], cj B (q 4) 25 ((sqS 104 48 (abE 104 (nI 6) x n s) o).1), cj B (q 5) 25 ((sqS 104 48 (abE 104 (nI 6) x n s) o).2.1), cj B (q 6) 5 ((sqS 104 48 (abE 104 (nI 6) x n s) o).2.2.1), cj B oa 1 (va_up ot 0 (lN 48))]) := by
  refine ctr_h (by decide) (Nat.le_of_ble_eq_true rfl) ?_
  intro M Q hl hR hTab X kret
  subst hl
  refine g_lv [(0, .ref da), (1, .int (nI 9)), (2, .int (nI n9)), (3, .ref oa)] rfl ?_
  refine g_aload_n (pc := 0) X (i := 3) d_L_digest_0 rfl rfl ?_
  refine g_iconst (pc := 1) X (v := nI 0) d_L_digest_1 (by decide) ?_
  refine g_aload_n (pc := 2) X (i := 0) d_L_digest_2 rfl rfl ?_
  refine g_iload_n (pc := 3) X (i := 1) d_L_digest_3 rfl rfl ?_
  refine g_iload_n (pc := 4) X (i := 2) d_L_digest_4 rfl rfl ?_
  refine g_callVi (pc := 5) (q0 := 0) X (c_D_digest_9 (m_l M) B da q n m n9 s x o h1 h9) wd_593 wd_594 wd_595 wd_1 wd_596 hd_D_digest [0, 1, 2, 3, 4, 5, 6, 7, 8, 9] rfl rfl [da, q 0, q 27, q 28, q 33, q 34, q 3, q 4, q 5, q 6] (fun _ => rfl) rfl rfl rfl (by rw [hR]; decide) (by rw [hR]; decide) rfl (Nat.le_of_ble_eq_true rfl) d_L_digest_5 (fun r9 _ hr9 => ?_)
  subst hr9
  refine g_wsq [co da 3 [.ref (q 0), .ref (q 1), .ref (q 3), .ref (q 7), .ref (q 12), .ref (q 17), .ref (q 18), .ref (q 19), .ref (q 20)], cr B (q 0) 8 (fun z9 => some (q (21 + 2 * z9))), co (q 27) 1 [.ref (q 28), .int (nI n)], cb B (q 28) 8192 x, co (q 33) 1 [.ref (q 34), .int (nI 48)], cb B (q 34) 8192 ((sqS 104 48 (abE 104 (nI 6) x n s) o).2.2.2.2), co (q 3) 2 [.ref (q 4), .ref (q 5), .ref (q 6)], cj B (q 4) 25 ((sqS 104 48 (abE 104 (nI 6) x n s) o).1), cj B (q 5) 25 ((sqS 104 48 (abE 104 (nI 6) x n s) o).2.1), cj B (q 6) 5 ((sqS 104 48 (abE 104 (nI 6) x n s) o).2.2.1), cj B oa 1 ot] rfl ?_
  refine g_i2l (pc := 8) X (v := lN 48) d_L_digest_8 (nI_l (by omega)) ?_
  refine g_last (pc := 9) X 10 rfl 0 rfl (by omega) (by omega) d_L_digest_9 ?_
  refine g_wsq [co da 3 [.ref (q 0), .ref (q 1), .ref (q 3), .ref (q 7), .ref (q 12), .ref (q 17), .ref (q 18), .ref (q 19), .ref (q 20)], cr B (q 0) 8 (fun z9 => some (q (21 + 2 * z9))), co (q 27) 1 [.ref (q 28), .int (nI n)], cb B (q 28) 8192 x, co (q 33) 1 [.ref (q 34), .int (nI 48)], cb B (q 34) 8192 ((sqS 104 48 (abE 104 (nI 6) x n s) o).2.2.2.2), co (q 3) 2 [.ref (q 4), .ref (q 5), .ref (q 6)], cj B (q 4) 25 ((sqS 104 48 (abE 104 (nI 6) x n s) o).1), cj B (q 5) 25 ((sqS 104 48 (abE 104 (nI 6) x n s) o).2.1), cj B (q 6) 5 ((sqS 104 48 (abE 104 (nI 6) x n s) o).2.2.1), cj B oa 1 (va_up ot 0 (lN 48))] rfl ?_
  refine g_goto (pc := 10) X (tgt := 17) d_L_digest_10 (by decide) ?_
  refine g_iconst (pc := 17) X (v := nI 0) d_L_digest_17 (by decide) ?_
  exact kret _ () _ _ _ 18 (by decide) (by decide) rfl d_L_digest_18

theorem w_c_D_digest_10 (l : Launch) (B : Bx) (da : Nat) (q : Nat → Nat) (n : Nat) (m : Nat) (n9 : Nat) (s : S3) (x : Nat → Int8) (o : Nat → Int8) (oa : Nat) (ot : Nat → Int64) (h1 : n ≤ 8192) (h9 : n9 ≤ 8192) : Ch (S := Unit) l B y_L_digest b_L_digest 5 [(0, 10, 13, 19)] (Rm 9 0 0) [.ref da, .int (nI 10), .int (nI n9), .ref oa] [co da 3 [.ref (q 0), .ref (q 1), .ref (q 3), .ref (q 7), .ref (q 12), .ref (q 17), .ref (q 18), .ref (q 19), .ref (q 20)], cr B (q 0) 8 (fun z9 => some (q (21 + 2 * z9))), co (q 27) 1 [.ref (q 28), .int (nI n)], cb B (q 28) 8192 x, co (q 33) 1 [.ref (q 34), .int (nI m)], cb B (q 34) 8192 o, co (q 3) 2 [.ref (q 4), .ref (q 5), .ref (q 6)], cj B (q 4) 25 s.1, cj B (q 5) 25 s.2.1, cj B (q 6) 5 s.2.2, cj B oa 1 ot] (fun r _ => r = nI 0) (fun _ => [co da 3 [.ref (q 0), .ref (q 1), .ref (q 3), .ref (q 7), .ref (q 12), .ref (q 17), .ref (q 18), .ref (q 19), .ref (q 20)], cr B (q 0) 8 (fun z9 => some (q (21 + 2 * z9))), co (q 27) 1 [.ref (q 28), .int (nI n)], cb B (q 28) 8192 x, co (q 33) 1 [.ref (q 34), .int (nI 64)], cb B (q 34) 8192 ((sqS 72 64 (abE 72 (nI 6) x n s) o).2.2.2.2), co (q 3) 2 [.ref (q 4), .ref (q 5), .ref (q 6)], cj B (q 4) 25 ((sqS 72 64 (abE 72 (nI 6) x n s) o).1), cj B (q 5) 25 ((sqS 72 64 (abE 72 (nI 6) x n s) o).2.1), cj B (q 6) 5 ((sqS 72 64 (abE 72 (nI 6) x n s) o).2.2.1), cj B oa 1 (va_up ot 0 (lN 64))]) := by
  refine ctr_h (by decide) (Nat.le_of_ble_eq_true rfl) ?_
  intro M Q hl hR hTab X kret
  subst hl
  refine g_lv [(0, .ref da), (1, .int (nI 10)), (2, .int (nI n9)), (3, .ref oa)] rfl ?_
  refine g_aload_n (pc := 0) X (i := 3) d_L_digest_0 rfl rfl ?_
  refine g_iconst (pc := 1) X (v := nI 0) d_L_digest_1 (by decide) ?_
  refine g_aload_n (pc := 2) X (i := 0) d_L_digest_2 rfl rfl ?_
  refine g_iload_n (pc := 3) X (i := 1) d_L_digest_3 rfl rfl ?_
  refine g_iload_n (pc := 4) X (i := 2) d_L_digest_4 rfl rfl ?_
  refine g_callVi (pc := 5) (q0 := 0) X (c_D_digest_10 (m_l M) B da q n m n9 s x o h1 h9) wd_593 wd_594 wd_595 wd_1 wd_596 hd_D_digest [0, 1, 2, 3, 4, 5, 6, 7, 8, 9] rfl rfl [da, q 0, q 27, q 28, q 33, q 34, q 3, q 4, q 5, q 6] (fun _ => rfl) rfl rfl rfl (by rw [hR]; decide) (by rw [hR]; decide) rfl (Nat.le_of_ble_eq_true rfl) d_L_digest_5 (fun r9 _ hr9 => ?_)
  subst hr9
  refine g_wsq [co da 3 [.ref (q 0), .ref (q 1), .ref (q 3), .ref (q 7), .ref (q 12), .ref (q 17), .ref (q 18), .ref (q 19), .ref (q 20)], cr B (q 0) 8 (fun z9 => some (q (21 + 2 * z9))), co (q 27) 1 [.ref (q 28), .int (nI n)], cb B (q 28) 8192 x, co (q 33) 1 [.ref (q 34), .int (nI 64)], cb B (q 34) 8192 ((sqS 72 64 (abE 72 (nI 6) x n s) o).2.2.2.2), co (q 3) 2 [.ref (q 4), .ref (q 5), .ref (q 6)], cj B (q 4) 25 ((sqS 72 64 (abE 72 (nI 6) x n s) o).1), cj B (q 5) 25 ((sqS 72 64 (abE 72 (nI 6) x n s) o).2.1), cj B (q 6) 5 ((sqS 72 64 (abE 72 (nI 6) x n s) o).2.2.1), cj B oa 1 ot] rfl ?_
  refine g_i2l (pc := 8) X (v := lN 64) d_L_digest_8 (nI_l (by omega)) ?_
  refine g_last (pc := 9) X 10 rfl 0 rfl (by omega) (by omega) d_L_digest_9 ?_
  refine g_wsq [co da 3 [.ref (q 0), .ref (q 1), .ref (q 3), .ref (q 7), .ref (q 12), .ref (q 17), .ref (q 18), .ref (q 19), .ref (q 20)], cr B (q 0) 8 (fun z9 => some (q (21 + 2 * z9))), co (q 27) 1 [.ref (q 28), .int (nI n)], cb B (q 28) 8192 x, co (q 33) 1 [.ref (q 34), .int (nI 64)], cb B (q 34) 8192 ((sqS 72 64 (abE 72 (nI 6) x n s) o).2.2.2.2), co (q 3) 2 [.ref (q 4), .ref (q 5), .ref (q 6)], cj B (q 4) 25 ((sqS 72 64 (abE 72 (nI 6) x n s) o).1), cj B (q 5) 25 ((sqS 72 64 (abE 72 (nI 6) x n s) o).2.1), cj B (q 6) 5 ((sqS 72 64 (abE 72 (nI 6) x n s) o).2.2.1), cj B oa 1 (va_up ot 0 (lN 64))] rfl ?_
  refine g_goto (pc := 10) X (tgt := 17) d_L_digest_10 (by decide) ?_
  refine g_iconst (pc := 17) X (v := nI 0) d_L_digest_17 (by decide) ?_
  exact kret _ () _ _ _ 18 (by decide) (by decide) rfl d_L_digest_18

theorem w_c_D_digest_11 (l : Launch) (B : Bx) (da : Nat) (q : Nat → Nat) (n : Nat) (m : Nat) (n9 : Nat) (s : S3) (x : Nat → Int8) (o : Nat → Int8) (oa : Nat) (ot : Nat → Int64) (h1 : n ≤ 8192) (h9 : n9 ≤ 8192) : Ch (S := Unit) l B y_L_digest b_L_digest 5 [(0, 10, 13, 19)] (Rm 9 0 0) [.ref da, .int (nI 11), .int (nI n9), .ref oa] [co da 3 [.ref (q 0), .ref (q 1), .ref (q 3), .ref (q 7), .ref (q 12), .ref (q 17), .ref (q 18), .ref (q 19), .ref (q 20)], cr B (q 0) 8 (fun z9 => some (q (21 + 2 * z9))), co (q 27) 1 [.ref (q 28), .int (nI n)], cb B (q 28) 8192 x, co (q 33) 1 [.ref (q 34), .int (nI m)], cb B (q 34) 8192 o, co (q 3) 2 [.ref (q 4), .ref (q 5), .ref (q 6)], cj B (q 4) 25 s.1, cj B (q 5) 25 s.2.1, cj B (q 6) 5 s.2.2, cj B oa 1 ot] (fun r _ => r = nI 0) (fun _ => [co da 3 [.ref (q 0), .ref (q 1), .ref (q 3), .ref (q 7), .ref (q 12), .ref (q 17), .ref (q 18), .ref (q 19), .ref (q 20)], cr B (q 0) 8 (fun z9 => some (q (21 + 2 * z9))), co (q 27) 1 [.ref (q 28), .int (nI n)], cb B (q 28) 8192 x, co (q 33) 1 [.ref (q 34), .int (nI n9)], cb B (q 34) 8192 ((sqS 168 n9 (abE 168 (nI 31) x n s) o).2.2.2.2), co (q 3) 2 [.ref (q 4), .ref (q 5), .ref (q 6)], cj B (q 4) 25 ((sqS 168 n9 (abE 168 (nI 31) x n s) o).1), cj B (q 5) 25 ((sqS 168 n9 (abE 168 (nI 31) x n s) o).2.1), cj B (q 6) 5 ((sqS 168 n9 (abE 168 (nI 31) x n s) o).2.2.1), cj B oa 1 (va_up ot 0 (lN n9))]) := by
  refine ctr_h (by decide) (Nat.le_of_ble_eq_true rfl) ?_
  intro M Q hl hR hTab X kret
  subst hl
  refine g_lv [(0, .ref da), (1, .int (nI 11)), (2, .int (nI n9)), (3, .ref oa)] rfl ?_
  refine g_aload_n (pc := 0) X (i := 3) d_L_digest_0 rfl rfl ?_
  refine g_iconst (pc := 1) X (v := nI 0) d_L_digest_1 (by decide) ?_
  refine g_aload_n (pc := 2) X (i := 0) d_L_digest_2 rfl rfl ?_
  refine g_iload_n (pc := 3) X (i := 1) d_L_digest_3 rfl rfl ?_
  refine g_iload_n (pc := 4) X (i := 2) d_L_digest_4 rfl rfl ?_
  refine g_callVi (pc := 5) (q0 := 0) X (c_D_digest_11 (m_l M) B da q n m n9 s x o h1 h9) wd_593 wd_594 wd_595 wd_1 wd_596 hd_D_digest [0, 1, 2, 3, 4, 5, 6, 7, 8, 9] rfl rfl [da, q 0, q 27, q 28, q 33, q 34, q 3, q 4, q 5, q 6] (fun _ => rfl) rfl rfl rfl (by rw [hR]; decide) (by rw [hR]; decide) rfl (Nat.le_of_ble_eq_true rfl) d_L_digest_5 (fun r9 _ hr9 => ?_)
  subst hr9
  refine g_wsq [co da 3 [.ref (q 0), .ref (q 1), .ref (q 3), .ref (q 7), .ref (q 12), .ref (q 17), .ref (q 18), .ref (q 19), .ref (q 20)], cr B (q 0) 8 (fun z9 => some (q (21 + 2 * z9))), co (q 27) 1 [.ref (q 28), .int (nI n)], cb B (q 28) 8192 x, co (q 33) 1 [.ref (q 34), .int (nI n9)], cb B (q 34) 8192 ((sqS 168 n9 (abE 168 (nI 31) x n s) o).2.2.2.2), co (q 3) 2 [.ref (q 4), .ref (q 5), .ref (q 6)], cj B (q 4) 25 ((sqS 168 n9 (abE 168 (nI 31) x n s) o).1), cj B (q 5) 25 ((sqS 168 n9 (abE 168 (nI 31) x n s) o).2.1), cj B (q 6) 5 ((sqS 168 n9 (abE 168 (nI 31) x n s) o).2.2.1), cj B oa 1 ot] rfl ?_
  refine g_i2l (pc := 8) X (v := lN n9) d_L_digest_8 (nI_l (by omega)) ?_
  refine g_last (pc := 9) X 10 rfl 0 rfl (by omega) (by omega) d_L_digest_9 ?_
  refine g_wsq [co da 3 [.ref (q 0), .ref (q 1), .ref (q 3), .ref (q 7), .ref (q 12), .ref (q 17), .ref (q 18), .ref (q 19), .ref (q 20)], cr B (q 0) 8 (fun z9 => some (q (21 + 2 * z9))), co (q 27) 1 [.ref (q 28), .int (nI n)], cb B (q 28) 8192 x, co (q 33) 1 [.ref (q 34), .int (nI n9)], cb B (q 34) 8192 ((sqS 168 n9 (abE 168 (nI 31) x n s) o).2.2.2.2), co (q 3) 2 [.ref (q 4), .ref (q 5), .ref (q 6)], cj B (q 4) 25 ((sqS 168 n9 (abE 168 (nI 31) x n s) o).1), cj B (q 5) 25 ((sqS 168 n9 (abE 168 (nI 31) x n s) o).2.1), cj B (q 6) 5 ((sqS 168 n9 (abE 168 (nI 31) x n s) o).2.2.1), cj B oa 1 (va_up ot 0 (lN n9))] rfl ?_
  refine g_goto (pc := 10) X (tgt := 17) d_L_digest_10 (by decide) ?_
  refine g_iconst (pc := 17) X (v := nI 0) d_L_digest_17 (by decide) ?_
  exact kret _ () _ _ _ 18 (by decide) (by decide) rfl d_L_digest_18

theorem w_c_D_digest_12 (l : Launch) (B : Bx) (da : Nat) (q : Nat → Nat) (n : Nat) (m : Nat) (n9 : Nat) (s : S3) (x : Nat → Int8) (o : Nat → Int8) (oa : Nat) (ot : Nat → Int64) (h1 : n ≤ 8192) (h9 : n9 ≤ 8192) : Ch (S := Unit) l B y_L_digest b_L_digest 5 [(0, 10, 13, 19)] (Rm 9 0 0) [.ref da, .int (nI 12), .int (nI n9), .ref oa] [co da 3 [.ref (q 0), .ref (q 1), .ref (q 3), .ref (q 7), .ref (q 12), .ref (q 17), .ref (q 18), .ref (q 19), .ref (q 20)], cr B (q 0) 8 (fun z9 => some (q (21 + 2 * z9))), co (q 27) 1 [.ref (q 28), .int (nI n)], cb B (q 28) 8192 x, co (q 33) 1 [.ref (q 34), .int (nI m)], cb B (q 34) 8192 o, co (q 3) 2 [.ref (q 4), .ref (q 5), .ref (q 6)], cj B (q 4) 25 s.1, cj B (q 5) 25 s.2.1, cj B (q 6) 5 s.2.2, cj B oa 1 ot] (fun r _ => r = nI 0) (fun _ => [co da 3 [.ref (q 0), .ref (q 1), .ref (q 3), .ref (q 7), .ref (q 12), .ref (q 17), .ref (q 18), .ref (q 19), .ref (q 20)], cr B (q 0) 8 (fun z9 => some (q (21 + 2 * z9))), co (q 27) 1 [.ref (q 28), .int (nI n)], cb B (q 28) 8192 x, co (q 33) 1 [.ref (q 34), .int (nI n9)], cb B (q 34) 8192 ((sqS 136 n9 (abE 136 (nI 31) x n s) o).2.2.2.2), co (q 3) 2 [.ref (q 4), .ref (q 5), .ref (q 6)], cj B (q 4) 25 ((sqS 136 n9 (abE 136 (nI 31) x n s) o).1), cj B (q 5) 25 ((sqS 136 n9 (abE 136 (nI 31) x n s) o).2.1), cj B (q 6) 5 ((sqS 136 n9 (abE 136 (nI 31) x n s) o).2.2.1), cj B oa 1 (va_up ot 0 (lN n9))]) := by
  refine ctr_h (by decide) (Nat.le_of_ble_eq_true rfl) ?_
  intro M Q hl hR hTab X kret
  subst hl
  refine g_lv [(0, .ref da), (1, .int (nI 12)), (2, .int (nI n9)), (3, .ref oa)] rfl ?_
  refine g_aload_n (pc := 0) X (i := 3) d_L_digest_0 rfl rfl ?_
  refine g_iconst (pc := 1) X (v := nI 0) d_L_digest_1 (by decide) ?_
  refine g_aload_n (pc := 2) X (i := 0) d_L_digest_2 rfl rfl ?_
  refine g_iload_n (pc := 3) X (i := 1) d_L_digest_3 rfl rfl ?_
  refine g_iload_n (pc := 4) X (i := 2) d_L_digest_4 rfl rfl ?_
  refine g_callVi (pc := 5) (q0 := 0) X (c_D_digest_12 (m_l M) B da q n m n9 s x o h1 h9) wd_593 wd_594 wd_595 wd_1 wd_596 hd_D_digest [0, 1, 2, 3, 4, 5, 6, 7, 8, 9] rfl rfl [da, q 0, q 27, q 28, q 33, q 34, q 3, q 4, q 5, q 6] (fun _ => rfl) rfl rfl rfl (by rw [hR]; decide) (by rw [hR]; decide) rfl (Nat.le_of_ble_eq_true rfl) d_L_digest_5 (fun r9 _ hr9 => ?_)
  subst hr9
  refine g_wsq [co da 3 [.ref (q 0), .ref (q 1), .ref (q 3), .ref (q 7), .ref (q 12), .ref (q 17), .ref (q 18), .ref (q 19), .ref (q 20)], cr B (q 0) 8 (fun z9 => some (q (21 + 2 * z9))), co (q 27) 1 [.ref (q 28), .int (nI n)], cb B (q 28) 8192 x, co (q 33) 1 [.ref (q 34), .int (nI n9)], cb B (q 34) 8192 ((sqS 136 n9 (abE 136 (nI 31) x n s) o).2.2.2.2), co (q 3) 2 [.ref (q 4), .ref (q 5), .ref (q 6)], cj B (q 4) 25 ((sqS 136 n9 (abE 136 (nI 31) x n s) o).1), cj B (q 5) 25 ((sqS 136 n9 (abE 136 (nI 31) x n s) o).2.1), cj B (q 6) 5 ((sqS 136 n9 (abE 136 (nI 31) x n s) o).2.2.1), cj B oa 1 ot] rfl ?_
  refine g_i2l (pc := 8) X (v := lN n9) d_L_digest_8 (nI_l (by omega)) ?_
  refine g_last (pc := 9) X 10 rfl 0 rfl (by omega) (by omega) d_L_digest_9 ?_
  refine g_wsq [co da 3 [.ref (q 0), .ref (q 1), .ref (q 3), .ref (q 7), .ref (q 12), .ref (q 17), .ref (q 18), .ref (q 19), .ref (q 20)], cr B (q 0) 8 (fun z9 => some (q (21 + 2 * z9))), co (q 27) 1 [.ref (q 28), .int (nI n)], cb B (q 28) 8192 x, co (q 33) 1 [.ref (q 34), .int (nI n9)], cb B (q 34) 8192 ((sqS 136 n9 (abE 136 (nI 31) x n s) o).2.2.2.2), co (q 3) 2 [.ref (q 4), .ref (q 5), .ref (q 6)], cj B (q 4) 25 ((sqS 136 n9 (abE 136 (nI 31) x n s) o).1), cj B (q 5) 25 ((sqS 136 n9 (abE 136 (nI 31) x n s) o).2.1), cj B (q 6) 5 ((sqS 136 n9 (abE 136 (nI 31) x n s) o).2.2.1), cj B oa 1 (va_up ot 0 (lN n9))] rfl ?_
  refine g_goto (pc := 10) X (tgt := 17) d_L_digest_10 (by decide) ?_
  refine g_iconst (pc := 17) X (v := nI 0) d_L_digest_17 (by decide) ?_
  exact kret _ () _ _ _ 18 (by decide) (by decide) rfl d_L_digest_18

theorem w_c_D_digest_13 (l : Launch) (B : Bx) (da : Nat) (q : Nat → Nat) (v : Bool) (tt : Nat) (mt : Nat) (h : H4) (n : Nat) (m : Nat) (rl : Nat) (n9 : Nat) (x : Nat → Int8) (o : Nat → Int8) (r : Nat → Int8) (kf : Nat → Int8) (p : Nat → Int8) (inn : Nat → Int8) (oa : Nat) (ot : Nat → Int64) (h1 : n ≤ 8192) (h2 : rl ≤ 8192) (h9 : n9 ≤ 8192) : Ch (S := Unit) l B y_L_digest b_L_digest 5 [(0, 10, 13, 19)] (Rm 9 0 0) [.ref da, .int (nI 13), .int (nI n9), .ref oa] [co da 3 [.ref (q 0), .ref (q 1), .ref (q 3), .ref (q 7), .ref (q 12), .ref (q 17), .ref (q 18), .ref (q 19), .ref (q 20)], cr B (q 0) 8 (fun z9 => some (q (21 + 2 * z9))), co (q 21) 1 [.ref (q 22), .int (nI rl)], cb B (q 22) 8192 r, co (q 27) 1 [.ref (q 28), .int (nI n)], cb B (q 28) 8192 x, co (q 33) 1 [.ref (q 34), .int (nI m)], cb B (q 34) 8192 o, cb B (q 17) 128 kf, cb B (q 18) 128 p, cb B (q 19) 64 inn, co (q 7) 0 [.int (nI (wbN v)), .int (nI (8 * wbN v)), .int (nI (rdN v)), .ref (b_t B (dk v)), .long (mk9 v), .int (nI (16 * wbN v)), .int (nI (8 * wbN v)), .ref (q 8), .ref (q 9), .ref (q 10), .ref (q 11), .int (nI h.2.1), .long (lN tt), .long (lN mt)], cb B (q 8) (16 * wbN v) h.1, cj B (q 9) 8 h.2.2.1, cj B (q 10) (rdN v) h.2.2.2, cj B oa 1 ot] (fun r _ => r = nI 0) (fun _ => [co da 3 [.ref (q 0), .ref (q 1), .ref (q 3), .ref (q 7), .ref (q 12), .ref (q 17), .ref (q 18), .ref (q 19), .ref (q 20)], cr B (q 0) 8 (fun z9 => some (q (21 + 2 * z9))), co (q 21) 1 [.ref (q 22), .int (nI rl)], cb B (q 22) 8192 r, co (q 27) 1 [.ref (q 28), .int (nI n)], cb B (q 28) 8192 x, co (q 33) 1 [.ref (q 34), .int (nI (8 * wbN v))], cb B (q 34) 8192 (wrS v (hk4 v 2 r rl x n h kf p inn).2.2.1 o 0 (8 * wbN v)), cb B (q 17) 128 (keyB v 2 r rl h kf), cb B (q 18) 128 (hkP v 2 r rl h kf p), cb B (q 19) 64 (hkI v 2 r rl x n h kf p inn), co (q 7) 0 [.int (nI (wbN v)), .int (nI (8 * wbN v)), .int (nI (rdN v)), .ref (b_t B (dk v)), .long (mk9 v), .int (nI (16 * wbN v)), .int (nI (8 * wbN v)), .ref (q 8), .ref (q 9), .ref (q 10), .ref (q 11), .int (nI ((hk4 v 2 r rl x n h kf p inn).2.1)), .long (lN (0 + 16 * wbN v + 8 * wbN v)), .long (lN mt)], cb B (q 8) (16 * wbN v) ((hk4 v 2 r rl x n h kf p inn).1), cj B (q 9) 8 ((hk4 v 2 r rl x n h kf p inn).2.2.1), cj B (q 10) (rdN v) ((hk4 v 2 r rl x n h kf p inn).2.2.2), cj B oa 1 (va_up ot 0 (lN (8 * wbN v)))]) := by
  refine ctr_h (by decide) (Nat.le_of_ble_eq_true rfl) ?_
  intro M Q hl hR hTab X kret
  subst hl
  have hv := vf v
  refine g_lv [(0, .ref da), (1, .int (nI 13)), (2, .int (nI n9)), (3, .ref oa)] rfl ?_
  refine g_aload_n (pc := 0) X (i := 3) d_L_digest_0 rfl rfl ?_
  refine g_iconst (pc := 1) X (v := nI 0) d_L_digest_1 (by decide) ?_
  refine g_aload_n (pc := 2) X (i := 0) d_L_digest_2 rfl rfl ?_
  refine g_iload_n (pc := 3) X (i := 1) d_L_digest_3 rfl rfl ?_
  refine g_iload_n (pc := 4) X (i := 2) d_L_digest_4 rfl rfl ?_
  refine g_callVi (pc := 5) (q0 := 0) X (c_D_digest_13 (m_l M) B da q v tt mt h n m rl n9 x o r kf p inn h1 h2 h9) wd_593 wd_594 wd_595 wd_1 wd_596 hd_D_digest [0, 1, 2, 3, 4, 5, 6, 7, 8, 9, 10, 11, 12, 13, 14] rfl rfl [da, q 0, q 21, q 22, q 27, q 28, q 33, q 34, q 17, q 18, q 19, q 7, q 8, q 9, q 10] (fun _ => rfl) rfl rfl rfl (by rw [hR]; decide) (by rw [hR]; decide) rfl (Nat.le_of_ble_eq_true rfl) d_L_digest_5 (fun r9 _ hr9 => ?_)
  subst hr9
  refine g_wsq [co da 3 [.ref (q 0), .ref (q 1), .ref (q 3), .ref (q 7), .ref (q 12), .ref (q 17), .ref (q 18), .ref (q 19), .ref (q 20)], cr B (q 0) 8 (fun z9 => some (q (21 + 2 * z9))), co (q 21) 1 [.ref (q 22), .int (nI rl)], cb B (q 22) 8192 r, co (q 27) 1 [.ref (q 28), .int (nI n)], cb B (q 28) 8192 x, co (q 33) 1 [.ref (q 34), .int (nI (8 * wbN v))], cb B (q 34) 8192 (wrS v (hk4 v 2 r rl x n h kf p inn).2.2.1 o 0 (8 * wbN v)), cb B (q 17) 128 (keyB v 2 r rl h kf), cb B (q 18) 128 (hkP v 2 r rl h kf p), cb B (q 19) 64 (hkI v 2 r rl x n h kf p inn), co (q 7) 0 [.int (nI (wbN v)), .int (nI (8 * wbN v)), .int (nI (rdN v)), .ref (b_t B (dk v)), .long (mk9 v), .int (nI (16 * wbN v)), .int (nI (8 * wbN v)), .ref (q 8), .ref (q 9), .ref (q 10), .ref (q 11), .int (nI ((hk4 v 2 r rl x n h kf p inn).2.1)), .long (lN (0 + 16 * wbN v + 8 * wbN v)), .long (lN mt)], cb B (q 8) (16 * wbN v) ((hk4 v 2 r rl x n h kf p inn).1), cj B (q 9) 8 ((hk4 v 2 r rl x n h kf p inn).2.2.1), cj B (q 10) (rdN v) ((hk4 v 2 r rl x n h kf p inn).2.2.2), cj B oa 1 ot] rfl ?_
  refine g_i2l (pc := 8) X (v := lN (8 * wbN v)) d_L_digest_8 (nI_l (by omega)) ?_
  refine g_last (pc := 9) X 15 rfl 0 rfl (by omega) (by omega) d_L_digest_9 ?_
  refine g_wsq [co da 3 [.ref (q 0), .ref (q 1), .ref (q 3), .ref (q 7), .ref (q 12), .ref (q 17), .ref (q 18), .ref (q 19), .ref (q 20)], cr B (q 0) 8 (fun z9 => some (q (21 + 2 * z9))), co (q 21) 1 [.ref (q 22), .int (nI rl)], cb B (q 22) 8192 r, co (q 27) 1 [.ref (q 28), .int (nI n)], cb B (q 28) 8192 x, co (q 33) 1 [.ref (q 34), .int (nI (8 * wbN v))], cb B (q 34) 8192 (wrS v (hk4 v 2 r rl x n h kf p inn).2.2.1 o 0 (8 * wbN v)), cb B (q 17) 128 (keyB v 2 r rl h kf), cb B (q 18) 128 (hkP v 2 r rl h kf p), cb B (q 19) 64 (hkI v 2 r rl x n h kf p inn), co (q 7) 0 [.int (nI (wbN v)), .int (nI (8 * wbN v)), .int (nI (rdN v)), .ref (b_t B (dk v)), .long (mk9 v), .int (nI (16 * wbN v)), .int (nI (8 * wbN v)), .ref (q 8), .ref (q 9), .ref (q 10), .ref (q 11), .int (nI ((hk4 v 2 r rl x n h kf p inn).2.1)), .long (lN (0 + 16 * wbN v + 8 * wbN v)), .long (lN mt)], cb B (q 8) (16 * wbN v) ((hk4 v 2 r rl x n h kf p inn).1), cj B (q 9) 8 ((hk4 v 2 r rl x n h kf p inn).2.2.1), cj B (q 10) (rdN v) ((hk4 v 2 r rl x n h kf p inn).2.2.2), cj B oa 1 (va_up ot 0 (lN (8 * wbN v)))] rfl ?_
  refine g_goto (pc := 10) X (tgt := 17) d_L_digest_10 (by decide) ?_
  refine g_iconst (pc := 17) X (v := nI 0) d_L_digest_17 (by decide) ?_
  exact kret _ () _ _ _ 18 (by decide) (by decide) rfl d_L_digest_18

theorem w_c_D_digest_14 (l : Launch) (B : Bx) (da : Nat) (q : Nat → Nat) (v : Bool) (tt : Nat) (mt : Nat) (h : H4) (n : Nat) (m : Nat) (rl : Nat) (n9 : Nat) (x : Nat → Int8) (o : Nat → Int8) (r : Nat → Int8) (kf : Nat → Int8) (p : Nat → Int8) (inn : Nat → Int8) (oa : Nat) (ot : Nat → Int64) (h1 : n ≤ 8192) (h2 : rl ≤ 8192) (h9 : n9 ≤ 8192) : Ch (S := Unit) l B y_L_digest b_L_digest 5 [(0, 10, 13, 19)] (Rm 9 0 0) [.ref da, .int (nI 14), .int (nI n9), .ref oa] [co da 3 [.ref (q 0), .ref (q 1), .ref (q 3), .ref (q 7), .ref (q 12), .ref (q 17), .ref (q 18), .ref (q 19), .ref (q 20)], cr B (q 0) 8 (fun z9 => some (q (21 + 2 * z9))), co (q 21) 1 [.ref (q 22), .int (nI rl)], cb B (q 22) 8192 r, co (q 27) 1 [.ref (q 28), .int (nI n)], cb B (q 28) 8192 x, co (q 33) 1 [.ref (q 34), .int (nI m)], cb B (q 34) 8192 o, cb B (q 17) 128 kf, cb B (q 18) 128 p, cb B (q 19) 64 inn, co (q 12) 0 [.int (nI (wbN v)), .int (nI (8 * wbN v)), .int (nI (rdN v)), .ref (b_t B (dk v)), .long (mk9 v), .int (nI (16 * wbN v)), .int (nI (8 * wbN v)), .ref (q 13), .ref (q 14), .ref (q 15), .ref (q 16), .int (nI h.2.1), .long (lN tt), .long (lN mt)], cb B (q 13) (16 * wbN v) h.1, cj B (q 14) 8 h.2.2.1, cj B (q 15) (rdN v) h.2.2.2, cj B oa 1 ot] (fun r _ => r = nI 0) (fun _ => [co da 3 [.ref (q 0), .ref (q 1), .ref (q 3), .ref (q 7), .ref (q 12), .ref (q 17), .ref (q 18), .ref (q 19), .ref (q 20)], cr B (q 0) 8 (fun z9 => some (q (21 + 2 * z9))), co (q 21) 1 [.ref (q 22), .int (nI rl)], cb B (q 22) 8192 r, co (q 27) 1 [.ref (q 28), .int (nI n)], cb B (q 28) 8192 x, co (q 33) 1 [.ref (q 34), .int (nI (8 * wbN v))], cb B (q 34) 8192 (wrS v (hk4 v 4 r rl x n h kf p inn).2.2.1 o 0 (8 * wbN v)), cb B (q 17) 128 (keyB v 4 r rl h kf), cb B (q 18) 128 (hkP v 4 r rl h kf p), cb B (q 19) 64 (hkI v 4 r rl x n h kf p inn), co (q 12) 0 [.int (nI (wbN v)), .int (nI (8 * wbN v)), .int (nI (rdN v)), .ref (b_t B (dk v)), .long (mk9 v), .int (nI (16 * wbN v)), .int (nI (8 * wbN v)), .ref (q 13), .ref (q 14), .ref (q 15), .ref (q 16), .int (nI ((hk4 v 4 r rl x n h kf p inn).2.1)), .long (lN (0 + 16 * wbN v + 8 * wbN v)), .long (lN mt)], cb B (q 13) (16 * wbN v) ((hk4 v 4 r rl x n h kf p inn).1), cj B (q 14) 8 ((hk4 v 4 r rl x n h kf p inn).2.2.1), cj B (q 15) (rdN v) ((hk4 v 4 r rl x n h kf p inn).2.2.2), cj B oa 1 (va_up ot 0 (lN (8 * wbN v)))]) := by
  refine ctr_h (by decide) (Nat.le_of_ble_eq_true rfl) ?_
  intro M Q hl hR hTab X kret
  subst hl
  have hv := vf v
  refine g_lv [(0, .ref da), (1, .int (nI 14)), (2, .int (nI n9)), (3, .ref oa)] rfl ?_
  refine g_aload_n (pc := 0) X (i := 3) d_L_digest_0 rfl rfl ?_
  refine g_iconst (pc := 1) X (v := nI 0) d_L_digest_1 (by decide) ?_
  refine g_aload_n (pc := 2) X (i := 0) d_L_digest_2 rfl rfl ?_
  refine g_iload_n (pc := 3) X (i := 1) d_L_digest_3 rfl rfl ?_
  refine g_iload_n (pc := 4) X (i := 2) d_L_digest_4 rfl rfl ?_
  refine g_callVi (pc := 5) (q0 := 0) X (c_D_digest_14 (m_l M) B da q v tt mt h n m rl n9 x o r kf p inn h1 h2 h9) wd_593 wd_594 wd_595 wd_1 wd_596 hd_D_digest [0, 1, 2, 3, 4, 5, 6, 7, 8, 9, 10, 11, 12, 13, 14] rfl rfl [da, q 0, q 21, q 22, q 27, q 28, q 33, q 34, q 17, q 18, q 19, q 12, q 13, q 14, q 15] (fun _ => rfl) rfl rfl rfl (by rw [hR]; decide) (by rw [hR]; decide) rfl (Nat.le_of_ble_eq_true rfl) d_L_digest_5 (fun r9 _ hr9 => ?_)
  subst hr9
  refine g_wsq [co da 3 [.ref (q 0), .ref (q 1), .ref (q 3), .ref (q 7), .ref (q 12), .ref (q 17), .ref (q 18), .ref (q 19), .ref (q 20)], cr B (q 0) 8 (fun z9 => some (q (21 + 2 * z9))), co (q 21) 1 [.ref (q 22), .int (nI rl)], cb B (q 22) 8192 r, co (q 27) 1 [.ref (q 28), .int (nI n)], cb B (q 28) 8192 x, co (q 33) 1 [.ref (q 34), .int (nI (8 * wbN v))], cb B (q 34) 8192 (wrS v (hk4 v 4 r rl x n h kf p inn).2.2.1 o 0 (8 * wbN v)), cb B (q 17) 128 (keyB v 4 r rl h kf), cb B (q 18) 128 (hkP v 4 r rl h kf p), cb B (q 19) 64 (hkI v 4 r rl x n h kf p inn), co (q 12) 0 [.int (nI (wbN v)), .int (nI (8 * wbN v)), .int (nI (rdN v)), .ref (b_t B (dk v)), .long (mk9 v), .int (nI (16 * wbN v)), .int (nI (8 * wbN v)), .ref (q 13), .ref (q 14), .ref (q 15), .ref (q 16), .int (nI ((hk4 v 4 r rl x n h kf p inn).2.1)), .long (lN (0 + 16 * wbN v + 8 * wbN v)), .long (lN mt)], cb B (q 13) (16 * wbN v) ((hk4 v 4 r rl x n h kf p inn).1), cj B (q 14) 8 ((hk4 v 4 r rl x n h kf p inn).2.2.1), cj B (q 15) (rdN v) ((hk4 v 4 r rl x n h kf p inn).2.2.2), cj B oa 1 ot] rfl ?_
  refine g_i2l (pc := 8) X (v := lN (8 * wbN v)) d_L_digest_8 (nI_l (by omega)) ?_
  refine g_last (pc := 9) X 15 rfl 0 rfl (by omega) (by omega) d_L_digest_9 ?_
  refine g_wsq [co da 3 [.ref (q 0), .ref (q 1), .ref (q 3), .ref (q 7), .ref (q 12), .ref (q 17), .ref (q 18), .ref (q 19), .ref (q 20)], cr B (q 0) 8 (fun z9 => some (q (21 + 2 * z9))), co (q 21) 1 [.ref (q 22), .int (nI rl)], cb B (q 22) 8192 r, co (q 27) 1 [.ref (q 28), .int (nI n)], cb B (q 28) 8192 x, co (q 33) 1 [.ref (q 34), .int (nI (8 * wbN v))], cb B (q 34) 8192 (wrS v (hk4 v 4 r rl x n h kf p inn).2.2.1 o 0 (8 * wbN v)), cb B (q 17) 128 (keyB v 4 r rl h kf), cb B (q 18) 128 (hkP v 4 r rl h kf p), cb B (q 19) 64 (hkI v 4 r rl x n h kf p inn), co (q 12) 0 [.int (nI (wbN v)), .int (nI (8 * wbN v)), .int (nI (rdN v)), .ref (b_t B (dk v)), .long (mk9 v), .int (nI (16 * wbN v)), .int (nI (8 * wbN v)), .ref (q 13), .ref (q 14), .ref (q 15), .ref (q 16), .int (nI ((hk4 v 4 r rl x n h kf p inn).2.1)), .long (lN (0 + 16 * wbN v + 8 * wbN v)), .long (lN mt)], cb B (q 13) (16 * wbN v) ((hk4 v 4 r rl x n h kf p inn).1), cj B (q 14) 8 ((hk4 v 4 r rl x n h kf p inn).2.2.1), cj B (q 15) (rdN v) ((hk4 v 4 r rl x n h kf p inn).2.2.2), cj B oa 1 (va_up ot 0 (lN (8 * wbN v)))] rfl ?_
  refine g_goto (pc := 10) X (tgt := 17) d_L_digest_10 (by decide) ?_
  refine g_iconst (pc := 17) X (v := nI 0) d_L_digest_17 (by decide) ?_
  exact kret _ () _ _ _ 18 (by decide) (by decide) rfl d_L_digest_18

theorem w_c_D_digest_15 (l : Launch) (B : Bx) (da : Nat) (q : Nat → Nat) (v : Bool) (tt : Nat) (mt : Nat) (h : H4) (n : Nat) (m : Nat) (n9 : Nat) (ms : Nat → Int64) (x : Nat → Int8) (o : Nat → Int8) (c : Nat → Int8) (oa : Nat) (ot : Nat → Int64) (h1 : n ≤ 8192) (h9 : n9 ≤ 8192) : Ch (S := Unit) l B y_L_digest b_L_digest 5 [(0, 10, 13, 19)] (Rm 9 0 0) [.ref da, .int (nI 15), .int (nI n9), .ref oa] [co da 3 [.ref (q 0), .ref (q 1), .ref (q 3), .ref (q 7), .ref (q 12), .ref (q 17), .ref (q 18), .ref (q 19), .ref (q 20)], cr B (q 0) 8 (fun z9 => some (q (21 + 2 * z9))), co (q 27) 1 [.ref (q 28), .int (nI n)], cb B (q 28) 8192 x, co (q 33) 1 [.ref (q 34), .int (nI m)], cb B (q 34) 8192 o, co (q 7) 0 [.int (nI (wbN v)), .int (nI (8 * wbN v)), .int (nI (rdN v)), .ref (b_t B (dk v)), .long (mk9 v), .int (nI (16 * wbN v)), .int (nI (8 * wbN v)), .ref (q 8), .ref (q 9), .ref (q 10), .ref (q 11), .int (nI h.2.1), .long (lN tt), .long (lN mt)], cb B (q 8) (16 * wbN v) h.1, cj B (q 9) 8 h.2.2.1, cj B (q 10) (rdN v) h.2.2.2, cj B (q 11) 8 ms, cb B (q 20) 4 c, cj B oa 1 ot] (fun r _ => r = nI 0) (fun _ => [co da 3 [.ref (q 0), .ref (q 1), .ref (q 3), .ref (q 7), .ref (q 12), .ref (q 17), .ref (q 18), .ref (q 19), .ref (q 20)], cr B (q 0) 8 (fun z9 => some (q (21 + 2 * z9))), co (q 27) 1 [.ref (q 28), .int (nI n)], cb B (q 28) 8192 x, co (q 33) 1 [.ref (q 34), .int (nI n9)], cb B (q 34) 8192 ((hcU v 2 x n n9 h ms c o).2.2.1), co (q 7) 0 [.int (nI (wbN v)), .int (nI (8 * wbN v)), .int (nI (rdN v)), .ref (b_t B (dk v)), .long (mk9 v), .int (nI (16 * wbN v)), .int (nI (8 * wbN v)), .ref (q 8), .ref (q 9), .ref (q 10), .ref (q 11), .int (nI ((hcU v 2 x n n9 h ms c o).1.2.1)), .long (lN ((hcU v 2 x n n9 h ms c o).2.2.2)), .long (lN (0 + (n - n % (16 * wbN v))))], cb B (q 8) (16 * wbN v) ((hcU v 2 x n n9 h ms c o).1.1), cj B (q 9) 8 ((hcU v 2 x n n9 h ms c o).1.2.2.1), cj B (q 10) (rdN v) ((hcU v 2 x n n9 h ms c o).1.2.2.2), cj B (q 11) 8 (hcM v 2 x n h ms), cb B (q 20) 4 ((hcU v 2 x n n9 h ms c o).2.1), cj B oa 1 (va_up ot 0 (lN n9))]) := by
  refine ctr_h (by decide) (Nat.le_of_ble_eq_true rfl) ?_
  intro M Q hl hR hTab X kret
  subst hl
  have hv := vf v
  refine g_lv [(0, .ref da), (1, .int (nI 15)), (2, .int (nI n9)), (3, .ref oa)] rfl ?_
  refine g_aload_n (pc := 0) X (i := 3) d_L_digest_0 rfl rfl ?_
  refine g_iconst (pc := 1) X (v := nI 0) d_L_digest_1 (by decide) ?_
  refine g_aload_n (pc := 2) X (i := 0) d_L_digest_2 rfl rfl ?_
  refine g_iload_n (pc := 3) X (i := 1) d_L_digest_3 rfl rfl ?_
  refine g_iload_n (pc := 4) X (i := 2) d_L_digest_4 rfl rfl ?_
  refine g_callVi (pc := 5) (q0 := 0) X (c_D_digest_15 (m_l M) B da q v tt mt h n m n9 ms x o c h1 h9) wd_593 wd_594 wd_595 wd_1 wd_596 hd_D_digest [0, 1, 2, 3, 4, 5, 6, 7, 8, 9, 10, 11] rfl rfl [da, q 0, q 27, q 28, q 33, q 34, q 7, q 8, q 9, q 10, q 11, q 20] (fun _ => rfl) rfl rfl rfl (by rw [hR]; decide) (by rw [hR]; decide) rfl (Nat.le_of_ble_eq_true rfl) d_L_digest_5 (fun r9 _ hr9 => ?_)
  subst hr9
  refine g_wsq [co da 3 [.ref (q 0), .ref (q 1), .ref (q 3), .ref (q 7), .ref (q 12), .ref (q 17), .ref (q 18), .ref (q 19), .ref (q 20)], cr B (q 0) 8 (fun z9 => some (q (21 + 2 * z9))), co (q 27) 1 [.ref (q 28), .int (nI n)], cb B (q 28) 8192 x, co (q 33) 1 [.ref (q 34), .int (nI n9)], cb B (q 34) 8192 ((hcU v 2 x n n9 h ms c o).2.2.1), co (q 7) 0 [.int (nI (wbN v)), .int (nI (8 * wbN v)), .int (nI (rdN v)), .ref (b_t B (dk v)), .long (mk9 v), .int (nI (16 * wbN v)), .int (nI (8 * wbN v)), .ref (q 8), .ref (q 9), .ref (q 10), .ref (q 11), .int (nI ((hcU v 2 x n n9 h ms c o).1.2.1)), .long (lN ((hcU v 2 x n n9 h ms c o).2.2.2)), .long (lN (0 + (n - n % (16 * wbN v))))], cb B (q 8) (16 * wbN v) ((hcU v 2 x n n9 h ms c o).1.1), cj B (q 9) 8 ((hcU v 2 x n n9 h ms c o).1.2.2.1), cj B (q 10) (rdN v) ((hcU v 2 x n n9 h ms c o).1.2.2.2), cj B (q 11) 8 (hcM v 2 x n h ms), cb B (q 20) 4 ((hcU v 2 x n n9 h ms c o).2.1), cj B oa 1 ot] rfl ?_
  refine g_i2l (pc := 8) X (v := lN n9) d_L_digest_8 (nI_l (by omega)) ?_
  refine g_last (pc := 9) X 12 rfl 0 rfl (by omega) (by omega) d_L_digest_9 ?_
  refine g_wsq [co da 3 [.ref (q 0), .ref (q 1), .ref (q 3), .ref (q 7), .ref (q 12), .ref (q 17), .ref (q 18), .ref (q 19), .ref (q 20)], cr B (q 0) 8 (fun z9 => some (q (21 + 2 * z9))), co (q 27) 1 [.ref (q 28), .int (nI n)], cb B (q 28) 8192 x, co (q 33) 1 [.ref (q 34), .int (nI n9)], cb B (q 34) 8192 ((hcU v 2 x n n9 h ms c o).2.2.1), co (q 7) 0 [.int (nI (wbN v)), .int (nI (8 * wbN v)), .int (nI (rdN v)), .ref (b_t B (dk v)), .long (mk9 v), .int (nI (16 * wbN v)), .int (nI (8 * wbN v)), .ref (q 8), .ref (q 9), .ref (q 10), .ref (q 11), .int (nI ((hcU v 2 x n n9 h ms c o).1.2.1)), .long (lN ((hcU v 2 x n n9 h ms c o).2.2.2)), .long (lN (0 + (n - n % (16 * wbN v))))], cb B (q 8) (16 * wbN v) ((hcU v 2 x n n9 h ms c o).1.1), cj B (q 9) 8 ((hcU v 2 x n n9 h ms c o).1.2.2.1), cj B (q 10) (rdN v) ((hcU v 2 x n n9 h ms c o).1.2.2.2), cj B (q 11) 8 (hcM v 2 x n h ms), cb B (q 20) 4 ((hcU v 2 x n n9 h ms c o).2.1), cj B oa 1 (va_up ot 0 (lN n9))] rfl ?_
  refine g_goto (pc := 10) X (tgt := 17) d_L_digest_10 (by decide) ?_
  refine g_iconst (pc := 17) X (v := nI 0) d_L_digest_17 (by decide) ?_
  exact kret _ () _ _ _ 18 (by decide) (by decide) rfl d_L_digest_18

theorem w_c_D_digest_16 (l : Launch) (B : Bx) (da : Nat) (q : Nat → Nat) (v : Bool) (tt : Nat) (mt : Nat) (h : H4) (n : Nat) (m : Nat) (n9 : Nat) (ms : Nat → Int64) (x : Nat → Int8) (o : Nat → Int8) (c : Nat → Int8) (oa : Nat) (ot : Nat → Int64) (h1 : n ≤ 8192) (h9 : n9 ≤ 8192) : Ch (S := Unit) l B y_L_digest b_L_digest 5 [(0, 10, 13, 19)] (Rm 9 0 0) [.ref da, .int (nI 16), .int (nI n9), .ref oa] [co da 3 [.ref (q 0), .ref (q 1), .ref (q 3), .ref (q 7), .ref (q 12), .ref (q 17), .ref (q 18), .ref (q 19), .ref (q 20)], cr B (q 0) 8 (fun z9 => some (q (21 + 2 * z9))), co (q 27) 1 [.ref (q 28), .int (nI n)], cb B (q 28) 8192 x, co (q 33) 1 [.ref (q 34), .int (nI m)], cb B (q 34) 8192 o, co (q 12) 0 [.int (nI (wbN v)), .int (nI (8 * wbN v)), .int (nI (rdN v)), .ref (b_t B (dk v)), .long (mk9 v), .int (nI (16 * wbN v)), .int (nI (8 * wbN v)), .ref (q 13), .ref (q 14), .ref (q 15), .ref (q 16), .int (nI h.2.1), .long (lN tt), .long (lN mt)], cb B (q 13) (16 * wbN v) h.1, cj B (q 14) 8 h.2.2.1, cj B (q 15) (rdN v) h.2.2.2, cj B (q 16) 8 ms, cb B (q 20) 4 c, cj B oa 1 ot] (fun r _ => r = nI 0) (fun _ => [co da 3 [.ref (q 0), .ref (q 1), .ref (q 3), .ref (q 7), .ref (q 12), .ref (q 17), .ref (q 18), .ref (q 19), .ref (q 20)], cr B (q 0) 8 (fun z9 => some (q (21 + 2 * z9))), co (q 27) 1 [.ref (q 28), .int (nI n)], cb B (q 28) 8192 x, co (q 33) 1 [.ref (q 34), .int (nI n9)], cb B (q 34) 8192 ((hcU v 4 x n n9 h ms c o).2.2.1), co (q 12) 0 [.int (nI (wbN v)), .int (nI (8 * wbN v)), .int (nI (rdN v)), .ref (b_t B (dk v)), .long (mk9 v), .int (nI (16 * wbN v)), .int (nI (8 * wbN v)), .ref (q 13), .ref (q 14), .ref (q 15), .ref (q 16), .int (nI ((hcU v 4 x n n9 h ms c o).1.2.1)), .long (lN ((hcU v 4 x n n9 h ms c o).2.2.2)), .long (lN (0 + (n - n % (16 * wbN v))))], cb B (q 13) (16 * wbN v) ((hcU v 4 x n n9 h ms c o).1.1), cj B (q 14) 8 ((hcU v 4 x n n9 h ms c o).1.2.2.1), cj B (q 15) (rdN v) ((hcU v 4 x n n9 h ms c o).1.2.2.2), cj B (q 16) 8 (hcM v 4 x n h ms), cb B (q 20) 4 ((hcU v 4 x n n9 h ms c o).2.1), cj B oa 1 (va_up ot 0 (lN n9))]) := by
  refine ctr_h (by decide) (Nat.le_of_ble_eq_true rfl) ?_
  intro M Q hl hR hTab X kret
  subst hl
  have hv := vf v
  refine g_lv [(0, .ref da), (1, .int (nI 16)), (2, .int (nI n9)), (3, .ref oa)] rfl ?_
  refine g_aload_n (pc := 0) X (i := 3) d_L_digest_0 rfl rfl ?_
  refine g_iconst (pc := 1) X (v := nI 0) d_L_digest_1 (by decide) ?_
  refine g_aload_n (pc := 2) X (i := 0) d_L_digest_2 rfl rfl ?_
  refine g_iload_n (pc := 3) X (i := 1) d_L_digest_3 rfl rfl ?_
  refine g_iload_n (pc := 4) X (i := 2) d_L_digest_4 rfl rfl ?_
  refine g_callVi (pc := 5) (q0 := 0) X (c_D_digest_16 (m_l M) B da q v tt mt h n m n9 ms x o c h1 h9) wd_593 wd_594 wd_595 wd_1 wd_596 hd_D_digest [0, 1, 2, 3, 4, 5, 6, 7, 8, 9, 10, 11] rfl rfl [da, q 0, q 27, q 28, q 33, q 34, q 12, q 13, q 14, q 15, q 16, q 20] (fun _ => rfl) rfl rfl rfl (by rw [hR]; decide) (by rw [hR]; decide) rfl (Nat.le_of_ble_eq_true rfl) d_L_digest_5 (fun r9 _ hr9 => ?_)
  subst hr9
  refine g_wsq [co da 3 [.ref (q 0), .ref (q 1), .ref (q 3), .ref (q 7), .ref (q 12), .ref (q 17), .ref (q 18), .ref (q 19), .ref (q 20)], cr B (q 0) 8 (fun z9 => some (q (21 + 2 * z9))), co (q 27) 1 [.ref (q 28), .int (nI n)], cb B (q 28) 8192 x, co (q 33) 1 [.ref (q 34), .int (nI n9)], cb B (q 34) 8192 ((hcU v 4 x n n9 h ms c o).2.2.1), co (q 12) 0 [.int (nI (wbN v)), .int (nI (8 * wbN v)), .int (nI (rdN v)), .ref (b_t B (dk v)), .long (mk9 v), .int (nI (16 * wbN v)), .int (nI (8 * wbN v)), .ref (q 13), .ref (q 14), .ref (q 15), .ref (q 16), .int (nI ((hcU v 4 x n n9 h ms c o).1.2.1)), .long (lN ((hcU v 4 x n n9 h ms c o).2.2.2)), .long (lN (0 + (n - n % (16 * wbN v))))], cb B (q 13) (16 * wbN v) ((hcU v 4 x n n9 h ms c o).1.1), cj B (q 14) 8 ((hcU v 4 x n n9 h ms c o).1.2.2.1), cj B (q 15) (rdN v) ((hcU v 4 x n n9 h ms c o).1.2.2.2), cj B (q 16) 8 (hcM v 4 x n h ms), cb B (q 20) 4 ((hcU v 4 x n n9 h ms c o).2.1), cj B oa 1 ot] rfl ?_
  refine g_i2l (pc := 8) X (v := lN n9) d_L_digest_8 (nI_l (by omega)) ?_
  refine g_last (pc := 9) X 12 rfl 0 rfl (by omega) (by omega) d_L_digest_9 ?_
  refine g_wsq [co da 3 [.ref (q 0), .ref (q 1), .ref (q 3), .ref (q 7), .ref (q 12), .ref (q 17), .ref (q 18), .ref (q 19), .ref (q 20)], cr B (q 0) 8 (fun z9 => some (q (21 + 2 * z9))), co (q 27) 1 [.ref (q 28), .int (nI n)], cb B (q 28) 8192 x, co (q 33) 1 [.ref (q 34), .int (nI n9)], cb B (q 34) 8192 ((hcU v 4 x n n9 h ms c o).2.2.1), co (q 12) 0 [.int (nI (wbN v)), .int (nI (8 * wbN v)), .int (nI (rdN v)), .ref (b_t B (dk v)), .long (mk9 v), .int (nI (16 * wbN v)), .int (nI (8 * wbN v)), .ref (q 13), .ref (q 14), .ref (q 15), .ref (q 16), .int (nI ((hcU v 4 x n n9 h ms c o).1.2.1)), .long (lN ((hcU v 4 x n n9 h ms c o).2.2.2)), .long (lN (0 + (n - n % (16 * wbN v))))], cb B (q 13) (16 * wbN v) ((hcU v 4 x n n9 h ms c o).1.1), cj B (q 14) 8 ((hcU v 4 x n n9 h ms c o).1.2.2.1), cj B (q 15) (rdN v) ((hcU v 4 x n n9 h ms c o).1.2.2.2), cj B (q 16) 8 (hcM v 4 x n h ms), cb B (q 20) 4 ((hcU v 4 x n n9 h ms c o).2.1), cj B oa 1 (va_up ot 0 (lN n9))] rfl ?_
  refine g_goto (pc := 10) X (tgt := 17) d_L_digest_10 (by decide) ?_
  refine g_iconst (pc := 17) X (v := nI 0) d_L_digest_17 (by decide) ?_
  exact kret _ () _ _ _ 18 (by decide) (by decide) rfl d_L_digest_18

theorem w_x_D_feed (l : Launch) (B : Bx) (da : Nat) (q : Nat → Nat) (n : Nat) (f : Nat → Int8) (p0 : Int32) (p1 : Int32) (p2 : Int32) (p3 : Int32) (p4 : Int32) (oa : Nat) (ot : Nat → Int64) (hst : l.stackTraces = false) (h1 : 8192 < n + 20) (h2 : n ≤ 8192) : Ch (S := Unit) l B y_L_feed b_L_feed 8 [(0, 16, 19, 13)] (Rm 9 1 6) [.ref da, .int p0, .int p1, .int p2, .int p3, .int p4, .ref oa] [co da 3 [.ref (q 0), .ref (q 1), .ref (q 3), .ref (q 7), .ref (q 12), .ref (q 17), .ref (q 18), .ref (q 19), .ref (q 20)], co (q 1) 1 [.ref (q 2), .int (nI n)], cb B (q 2) 8192 f, cj B oa 1 ot] (fun r _ => r = nI 1) (fun _ => [co da 3 [.ref (q 0), .ref (q 1), .ref (q 3), .ref (q 7), .ref (q 12), .ref (q 17), .ref (q 18), .ref (q 19), .ref (q 20)], co (q 1) 1 [.ref (q 2), .int (nI n)], cb B (q 2) 8192 f, cj B oa 1 ot]) := by
  refine ctr_h (by decide) (Nat.le_of_ble_eq_true rfl) ?_
  intro M Q hl hR hTab X kret
  subst hl
  refine g_lv [(0, .ref da), (1, .int p0), (2, .int p1), (3, .int p2), (4, .int p3), (5, .int p4), (6, .ref oa)] rfl ?_
  refine g_aload (pc := 0) X d_L_feed_0 rfl ?_
  refine g_iconst (pc := 2) X (v := nI 0) d_L_feed_2 (by decide) ?_
  refine g_aload_n (pc := 3) X (i := 0) d_L_feed_3 rfl rfl ?_
  refine g_iload_n (pc := 4) X (i := 1) d_L_feed_4 rfl rfl ?_
  refine g_iload_n (pc := 5) X (i := 2) d_L_feed_5 rfl rfl ?_
  refine g_iload_n (pc := 6) X (i := 3) d_L_feed_6 rfl rfl ?_
  refine g_iload (pc := 7) X d_L_feed_7 rfl ?_
  refine g_iload (pc := 9) X d_L_feed_9 rfl ?_
  refine g_callVx (pc := 11) (q0 := 0) X (x_D_feed (m_l M) B da q n f p0 p1 p2 p3 p4 hst h1 h2) wd_153 wd_154 wd_155 wd_1 wd_156 hd_D_feed [0, 1, 2] rfl rfl rfl rfl (by rw [hR]; decide) (by rw [hR]; decide) rfl (Nat.le_of_ble_eq_true rfl) d_L_feed_11 ?_
  refine g_catch X hTab [] ⟨0, 16, 19, 13⟩ [] rfl (fun z hz => absurd hz List.not_mem_nil) (by decide) (by decide) wd_152 (by decide) (fun q9 => ?_)
  refine g_astore (pc := 19) X d_L_feed_19 (by decide) ?_
  refine g_lv [(0, .ref da), (1, .int p0), (2, .int p1), (3, .int p2), (4, .int p3), (5, .int p4), (6, .ref oa), (7, .ref q9)] rfl ?_
  refine g_iconst (pc := 21) X (v := nI 1) d_L_feed_21 (by decide) ?_
  exact kret _ () _ _ _ 22 (by decide) (by decide) rfl d_L_feed_22

theorem w_x_D_end_1 (l : Launch) (B : Bx) (da : Nat) (q : Nat → Nat) (x : Int32) (y : Int32) (oa : Nat) (ot : Nat → Int64) (hst : l.stackTraces = false) (h : inR x (nI 0) (nI 7) = nI 0) : Ch (S := Unit) l B y_L_end b_L_end 5 [(0, 10, 13, 19), (0, 10, 17, 13)] (Rm 9 1 6) [.ref da, .int x, .int y, .ref oa] [co da 3 [.ref (q 0), .ref (q 1), .ref (q 3), .ref (q 7), .ref (q 12), .ref (q 17), .ref (q 18), .ref (q 19), .ref (q 20)], cr B (q 0) 8 (fun z9 => some (q (21 + 2 * z9))), cj B oa 1 ot] (fun r _ => r = nI 1) (fun _ => [co da 3 [.ref (q 0), .ref (q 1), .ref (q 3), .ref (q 7), .ref (q 12), .ref (q 17), .ref (q 18), .ref (q 19), .ref (q 20)], cr B (q 0) 8 (fun z9 => some (q (21 + 2 * z9))), cj B oa 1 ot]) := by
  refine ctr_h (by decide) (Nat.le_of_ble_eq_true rfl) ?_
  intro M Q hl hR hTab X kret
  subst hl
  refine g_lv [(0, .ref da), (1, .int x), (2, .int y), (3, .ref oa)] rfl ?_
  refine g_aload_n (pc := 0) X (i := 3) d_L_end_0 rfl rfl ?_
  refine g_iconst (pc := 1) X (v := nI 0) d_L_end_1 (by decide) ?_
  refine g_aload_n (pc := 2) X (i := 0) d_L_end_2 rfl rfl ?_
  refine g_iload_n (pc := 3) X (i := 1) d_L_end_3 rfl rfl ?_
  refine g_iload_n (pc := 4) X (i := 2) d_L_end_4 rfl rfl ?_
  refine g_callVx (pc := 5) (q0 := 0) X (x_D_end_1 (m_l M) B da q x y hst h) wd_232 wd_233 wd_234 wd_1 wd_235 hd_D_end [0, 1] rfl rfl rfl rfl (by rw [hR]; decide) (by rw [hR]; decide) rfl (Nat.le_of_ble_eq_true rfl) d_L_end_5 ?_
  refine g_catch X hTab [] ⟨0, 10, 13, 19⟩ [⟨0, 10, 17, 13⟩] rfl (fun z hz => absurd hz List.not_mem_nil) (by decide) (by decide) wd_231 (by decide) (fun q9 => ?_)
  refine g_astore (pc := 13) X d_L_end_13 (by decide) ?_
  refine g_lv [(0, .ref da), (1, .int x), (2, .int y), (3, .ref oa), (4, .ref q9)] rfl ?_
  refine g_iconst (pc := 15) X (v := nI 1) d_L_end_15 (by decide) ?_
  exact kret _ () _ _ _ 16 (by decide) (by decide) rfl d_L_end_16

theorem w_x_D_end_2 (l : Launch) (B : Bx) (da : Nat) (q : Nat → Nat) (i : Nat) (y : Int32) (oa : Nat) (ot : Nat → Int64) (hst : l.stackTraces = false) (h1 : i < 8) (h : inR y (nI 0) (nI 8192) = nI 0) : Ch (S := Unit) l B y_L_end b_L_end 5 [(0, 10, 13, 19), (0, 10, 17, 13)] (Rm 9 1 6) [.ref da, .int (nI i), .int y, .ref oa] [co da 3 [.ref (q 0), .ref (q 1), .ref (q 3), .ref (q 7), .ref (q 12), .ref (q 17), .ref (q 18), .ref (q 19), .ref (q 20)], cr B (q 0) 8 (fun z9 => some (q (21 + 2 * z9))), cj B oa 1 ot] (fun r _ => r = nI 1) (fun _ => [co da 3 [.ref (q 0), .ref (q 1), .ref (q 3), .ref (q 7), .ref (q 12), .ref (q 17), .ref (q 18), .ref (q 19), .ref (q 20)], cr B (q 0) 8 (fun z9 => some (q (21 + 2 * z9))), cj B oa 1 ot]) := by
  refine ctr_h (by decide) (Nat.le_of_ble_eq_true rfl) ?_
  intro M Q hl hR hTab X kret
  subst hl
  refine g_lv [(0, .ref da), (1, .int (nI i)), (2, .int y), (3, .ref oa)] rfl ?_
  refine g_aload_n (pc := 0) X (i := 3) d_L_end_0 rfl rfl ?_
  refine g_iconst (pc := 1) X (v := nI 0) d_L_end_1 (by decide) ?_
  refine g_aload_n (pc := 2) X (i := 0) d_L_end_2 rfl rfl ?_
  refine g_iload_n (pc := 3) X (i := 1) d_L_end_3 rfl rfl ?_
  refine g_iload_n (pc := 4) X (i := 2) d_L_end_4 rfl rfl ?_
  refine g_callVx (pc := 5) (q0 := 0) X (x_D_end_2 (m_l M) B da q i y hst h1 h) wd_232 wd_233 wd_234 wd_1 wd_235 hd_D_end [0, 1] rfl rfl rfl rfl (by rw [hR]; decide) (by rw [hR]; decide) rfl (Nat.le_of_ble_eq_true rfl) d_L_end_5 ?_
  refine g_catch X hTab [] ⟨0, 10, 13, 19⟩ [⟨0, 10, 17, 13⟩] rfl (fun z hz => absurd hz List.not_mem_nil) (by decide) (by decide) wd_231 (by decide) (fun q9 => ?_)
  refine g_astore (pc := 13) X d_L_end_13 (by decide) ?_
  refine g_lv [(0, .ref da), (1, .int (nI i)), (2, .int y), (3, .ref oa), (4, .ref q9)] rfl ?_
  refine g_iconst (pc := 15) X (v := nI 1) d_L_end_15 (by decide) ?_
  exact kret _ () _ _ _ 16 (by decide) (by decide) rfl d_L_end_16

theorem w_x_D_end_3 (l : Launch) (B : Bx) (da : Nat) (q : Nat → Nat) (i : Nat) (n : Nat) (t : Nat) (f : Nat → Int8) (oa : Nat) (ot : Nat → Int64) (hst : l.stackTraces = false) (h1 : i < 8) (h2 : n ≤ 8192) (h3 : t < n) : Ch (S := Unit) l B y_L_end b_L_end 5 [(0, 10, 13, 19), (0, 10, 17, 13)] (Rm 9 1 6) [.ref da, .int (nI i), .int (nI n), .ref oa] [co da 3 [.ref (q 0), .ref (q 1), .ref (q 3), .ref (q 7), .ref (q 12), .ref (q 17), .ref (q 18), .ref (q 19), .ref (q 20)], cr B (q 0) 8 (fun z9 => some (q (21 + 2 * z9))), co (q 1) 1 [.ref (q 2), .int (nI t)], cb B (q 2) 8192 f, cj B oa 1 ot] (fun r _ => r = nI 2) (fun _ => [co da 3 [.ref (q 0), .ref (q 1), .ref (q 3), .ref (q 7), .ref (q 12), .ref (q 17), .ref (q 18), .ref (q 19), .ref (q 20)], cr B (q 0) 8 (fun z9 => some (q (21 + 2 * z9))), co (q 1) 1 [.ref (q 2), .int (nI t)], cb B (q 2) 8192 f, cj B oa 1 ot]) := by
  refine ctr_h (by decide) (Nat.le_of_ble_eq_true rfl) ?_
  intro M Q hl hR hTab X kret
  subst hl
  refine g_lv [(0, .ref da), (1, .int (nI i)), (2, .int (nI n)), (3, .ref oa)] rfl ?_
  refine g_aload_n (pc := 0) X (i := 3) d_L_end_0 rfl rfl ?_
  refine g_iconst (pc := 1) X (v := nI 0) d_L_end_1 (by decide) ?_
  refine g_aload_n (pc := 2) X (i := 0) d_L_end_2 rfl rfl ?_
  refine g_iload_n (pc := 3) X (i := 1) d_L_end_3 rfl rfl ?_
  refine g_iload_n (pc := 4) X (i := 2) d_L_end_4 rfl rfl ?_
  refine g_callVx (pc := 5) (q0 := 0) X (x_D_end_3 (m_l M) B da q i n t f hst h1 h2 h3) wd_232 wd_233 wd_234 wd_1 wd_235 hd_D_end [0, 1, 2, 3] rfl rfl rfl rfl (by rw [hR]; decide) (by rw [hR]; decide) rfl (Nat.le_of_ble_eq_true rfl) d_L_end_5 ?_
  refine g_catch X hTab [⟨0, 10, 13, 19⟩] ⟨0, 10, 17, 13⟩ [] rfl (fun z hz => Or.inr (by cases List.mem_singleton.mp hz; exact ⟨by decide, nIAE, wd_231, X.s.2.2.2.2.2.2.2.1⟩)) (by decide) (by decide) wd_152 (by decide) (fun q9 => ?_)
  refine g_astore (pc := 17) X d_L_end_17 (by decide) ?_
  refine g_lv [(0, .ref da), (1, .int (nI i)), (2, .int (nI n)), (3, .ref oa), (4, .ref q9)] rfl ?_
  refine g_iconst (pc := 19) X (v := nI 2) d_L_end_19 (by decide) ?_
  exact kret _ () _ _ _ 20 (by decide) (by decide) rfl d_L_end_20

theorem w_x_D_copy_1 (l : Launch) (B : Bx) (da : Nat) (q : Nat → Nat) (x : Int32) (y : Int32) (oa : Nat) (ot : Nat → Int64) (hst : l.stackTraces = false) (h : inR x (nI 0) (nI 7) = nI 0) : Ch (S := Unit) l B y_L_copy b_L_copy 5 [(0, 10, 13, 19)] (Rm 9 1 6) [.ref da, .int x, .int y, .ref oa] [co da 3 [.ref (q 0), .ref (q 1), .ref (q 3), .ref (q 7), .ref (q 12), .ref (q 17), .ref (q 18), .ref (q 19), .ref (q 20)], cr B (q 0) 8 (fun z9 => some (q (21 + 2 * z9))), cj B oa 1 ot] (fun r _ => r = nI 1) (fun _ => [co da 3 [.ref (q 0), .ref (q 1), .ref (q 3), .ref (q 7), .ref (q 12), .ref (q 17), .ref (q 18), .ref (q 19), .ref (q 20)], cr B (q 0) 8 (fun z9 => some (q (21 + 2 * z9))), cj B oa 1 ot]) := by
  refine ctr_h (by decide) (Nat.le_of_ble_eq_true rfl) ?_
  intro M Q hl hR hTab X kret
  subst hl
  refine g_lv [(0, .ref da), (1, .int x), (2, .int y), (3, .ref oa)] rfl ?_
  refine g_aload_n (pc := 0) X (i := 3) d_L_copy_0 rfl rfl ?_
  refine g_iconst (pc := 1) X (v := nI 0) d_L_copy_1 (by decide) ?_
  refine g_aload_n (pc := 2) X (i := 0) d_L_copy_2 rfl rfl ?_
  refine g_iload_n (pc := 3) X (i := 1) d_L_copy_3 rfl rfl ?_
  refine g_iload_n (pc := 4) X (i := 2) d_L_copy_4 rfl rfl ?_
  refine g_callVx (pc := 5) (q0 := 0) X (x_D_copy_1 (m_l M) B da q x y hst h) wd_270 wd_271 wd_272 wd_1 wd_273 hd_D_copy [0, 1] rfl rfl rfl rfl (by rw [hR]; decide) (by rw [hR]; decide) rfl (Nat.le_of_ble_eq_true rfl) d_L_copy_5 ?_
  refine g_catch X hTab [] ⟨0, 10, 13, 19⟩ [] rfl (fun z hz => absurd hz List.not_mem_nil) (by decide) (by decide) wd_231 (by decide) (fun q9 => ?_)
  refine g_astore (pc := 13) X d_L_copy_13 (by decide) ?_
  refine g_lv [(0, .ref da), (1, .int x), (2, .int y), (3, .ref oa), (4, .ref q9)] rfl ?_
  refine g_iconst (pc := 15) X (v := nI 1) d_L_copy_15 (by decide) ?_
  exact kret _ () _ _ _ 16 (by decide) (by decide) rfl d_L_copy_16

theorem w_x_D_copy_2 (l : Launch) (B : Bx) (da : Nat) (q : Nat → Nat) (i : Nat) (x : Int32) (oa : Nat) (ot : Nat → Int64) (hst : l.stackTraces = false) (h1 : i < 8) (h : inR x (nI 0) (nI 7) = nI 0) : Ch (S := Unit) l B y_L_copy b_L_copy 5 [(0, 10, 13, 19)] (Rm 9 1 6) [.ref da, .int (nI i), .int x, .ref oa] [co da 3 [.ref (q 0), .ref (q 1), .ref (q 3), .ref (q 7), .ref (q 12), .ref (q 17), .ref (q 18), .ref (q 19), .ref (q 20)], cr B (q 0) 8 (fun z9 => some (q (21 + 2 * z9))), cj B oa 1 ot] (fun r _ => r = nI 1) (fun _ => [co da 3 [.ref (q 0), .ref (q 1), .ref (q 3), .ref (q 7), .ref (q 12), .ref (q 17), .ref (q 18), .ref (q 19), .ref (q 20)], cr B (q 0) 8 (fun z9 => some (q (21 + 2 * z9))), cj B oa 1 ot]) := by
  refine ctr_h (by decide) (Nat.le_of_ble_eq_true rfl) ?_
  intro M Q hl hR hTab X kret
  subst hl
  refine g_lv [(0, .ref da), (1, .int (nI i)), (2, .int x), (3, .ref oa)] rfl ?_
  refine g_aload_n (pc := 0) X (i := 3) d_L_copy_0 rfl rfl ?_
  refine g_iconst (pc := 1) X (v := nI 0) d_L_copy_1 (by decide) ?_
  refine g_aload_n (pc := 2) X (i := 0) d_L_copy_2 rfl rfl ?_
  refine g_iload_n (pc := 3) X (i := 1) d_L_copy_3 rfl rfl ?_
  refine g_iload_n (pc := 4) X (i := 2) d_L_copy_4 rfl rfl ?_
  refine g_callVx (pc := 5) (q0 := 0) X (x_D_copy_2 (m_l M) B da q i x hst h1 h) wd_270 wd_271 wd_272 wd_1 wd_273 hd_D_copy [0, 1] rfl rfl rfl rfl (by rw [hR]; decide) (by rw [hR]; decide) rfl (Nat.le_of_ble_eq_true rfl) d_L_copy_5 ?_
  refine g_catch X hTab [] ⟨0, 10, 13, 19⟩ [] rfl (fun z hz => absurd hz List.not_mem_nil) (by decide) (by decide) wd_231 (by decide) (fun q9 => ?_)
  refine g_astore (pc := 13) X d_L_copy_13 (by decide) ?_
  refine g_lv [(0, .ref da), (1, .int (nI i)), (2, .int x), (3, .ref oa), (4, .ref q9)] rfl ?_
  refine g_iconst (pc := 15) X (v := nI 1) d_L_copy_15 (by decide) ?_
  exact kret _ () _ _ _ 16 (by decide) (by decide) rfl d_L_copy_16

theorem w_x_D_same_1 (l : Launch) (B : Bx) (da : Nat) (q : Nat → Nat) (x : Int32) (y : Int32) (oa : Nat) (ot : Nat → Int64) (hst : l.stackTraces = false) (h : inR x (nI 0) (nI 7) = nI 0) : Ch (S := Unit) l B y_L_same b_L_same 5 [(0, 17, 20, 19)] (Rm 9 1 6) [.ref da, .int x, .int y, .ref oa] [co da 3 [.ref (q 0), .ref (q 1), .ref (q 3), .ref (q 7), .ref (q 12), .ref (q 17), .ref (q 18), .ref (q 19), .ref (q 20)], cr B (q 0) 8 (fun z9 => some (q (21 + 2 * z9))), cj B oa 1 ot] (fun r _ => r = nI 1) (fun _ => [co da 3 [.ref (q 0), .ref (q 1), .ref (q 3), .ref (q 7), .ref (q 12), .ref (q 17), .ref (q 18), .ref (q 19), .ref (q 20)], cr B (q 0) 8 (fun z9 => some (q (21 + 2 * z9))), cj B oa 1 ot]) := by
  refine ctr_h (by decide) (Nat.le_of_ble_eq_true rfl) ?_
  intro M Q hl hR hTab X kret
  subst hl
  refine g_lv [(0, .ref da), (1, .int x), (2, .int y), (3, .ref oa)] rfl ?_
  refine g_aload_n (pc := 0) X (i := 3) d_L_same_0 rfl rfl ?_
  refine g_iconst (pc := 1) X (v := nI 0) d_L_same_1 (by decide) ?_
  refine g_aload_n (pc := 2) X (i := 0) d_L_same_2 rfl rfl ?_
  refine g_iload_n (pc := 3) X (i := 1) d_L_same_3 rfl rfl ?_
  refine g_iload_n (pc := 4) X (i := 2) d_L_same_4 rfl rfl ?_
  refine g_callVx (pc := 5) (q0 := 0) X (x_D_same_1 (m_l M) B da q x y hst h) wd_582 wd_583 wd_584 wd_1 wd_585 hd_D_same [0, 1] rfl rfl rfl rfl (by rw [hR]; decide) (by rw [hR]; decide) rfl (Nat.le_of_ble_eq_true rfl) d_L_same_5 ?_
  refine g_catch X hTab [] ⟨0, 17, 20, 19⟩ [] rfl (fun z hz => absurd hz List.not_mem_nil) (by decide) (by decide) wd_231 (by decide) (fun q9 => ?_)
  refine g_astore (pc := 20) X d_L_same_20 (by decide) ?_
  refine g_lv [(0, .ref da), (1, .int x), (2, .int y), (3, .ref oa), (4, .ref q9)] rfl ?_
  refine g_iconst (pc := 22) X (v := nI 1) d_L_same_22 (by decide) ?_
  exact kret _ () _ _ _ 23 (by decide) (by decide) rfl d_L_same_23

theorem w_x_D_same_2 (l : Launch) (B : Bx) (da : Nat) (q : Nat → Nat) (i : Nat) (x : Int32) (oa : Nat) (ot : Nat → Int64) (hst : l.stackTraces = false) (h1 : i < 8) (h : inR x (nI 0) (nI 7) = nI 0) : Ch (S := Unit) l B y_L_same b_L_same 5 [(0, 17, 20, 19)] (Rm 9 1 6) [.ref da, .int (nI i), .int x, .ref oa] [co da 3 [.ref (q 0), .ref (q 1), .ref (q 3), .ref (q 7), .ref (q 12), .ref (q 17), .ref (q 18), .ref (q 19), .ref (q 20)], cr B (q 0) 8 (fun z9 => some (q (21 + 2 * z9))), cj B oa 1 ot] (fun r _ => r = nI 1) (fun _ => [co da 3 [.ref (q 0), .ref (q 1), .ref (q 3), .ref (q 7), .ref (q 12), .ref (q 17), .ref (q 18), .ref (q 19), .ref (q 20)], cr B (q 0) 8 (fun z9 => some (q (21 + 2 * z9))), cj B oa 1 ot]) := by
  refine ctr_h (by decide) (Nat.le_of_ble_eq_true rfl) ?_
  intro M Q hl hR hTab X kret
  subst hl
  refine g_lv [(0, .ref da), (1, .int (nI i)), (2, .int x), (3, .ref oa)] rfl ?_
  refine g_aload_n (pc := 0) X (i := 3) d_L_same_0 rfl rfl ?_
  refine g_iconst (pc := 1) X (v := nI 0) d_L_same_1 (by decide) ?_
  refine g_aload_n (pc := 2) X (i := 0) d_L_same_2 rfl rfl ?_
  refine g_iload_n (pc := 3) X (i := 1) d_L_same_3 rfl rfl ?_
  refine g_iload_n (pc := 4) X (i := 2) d_L_same_4 rfl rfl ?_
  refine g_callVx (pc := 5) (q0 := 0) X (x_D_same_2 (m_l M) B da q i x hst h1 h) wd_582 wd_583 wd_584 wd_1 wd_585 hd_D_same [0, 1] rfl rfl rfl rfl (by rw [hR]; decide) (by rw [hR]; decide) rfl (Nat.le_of_ble_eq_true rfl) d_L_same_5 ?_
  refine g_catch X hTab [] ⟨0, 17, 20, 19⟩ [] rfl (fun z hz => absurd hz List.not_mem_nil) (by decide) (by decide) wd_231 (by decide) (fun q9 => ?_)
  refine g_astore (pc := 20) X d_L_same_20 (by decide) ?_
  refine g_lv [(0, .ref da), (1, .int (nI i)), (2, .int x), (3, .ref oa), (4, .ref q9)] rfl ?_
  refine g_iconst (pc := 22) X (v := nI 1) d_L_same_22 (by decide) ?_
  exact kret _ () _ _ _ 23 (by decide) (by decide) rfl d_L_same_23

theorem w_x_D_resize_1 (l : Launch) (B : Bx) (da : Nat) (q : Nat → Nat) (x : Int32) (y : Int32) (oa : Nat) (ot : Nat → Int64) (hst : l.stackTraces = false) (h : inR x (nI 0) (nI 7) = nI 0) : Ch (S := Unit) l B y_L_resize b_L_resize 5 [(0, 10, 13, 19)] (Rm 9 1 6) [.ref da, .int x, .int y, .ref oa] [co da 3 [.ref (q 0), .ref (q 1), .ref (q 3), .ref (q 7), .ref (q 12), .ref (q 17), .ref (q 18), .ref (q 19), .ref (q 20)], cr B (q 0) 8 (fun z9 => some (q (21 + 2 * z9))), cj B oa 1 ot] (fun r _ => r = nI 1) (fun _ => [co da 3 [.ref (q 0), .ref (q 1), .ref (q 3), .ref (q 7), .ref (q 12), .ref (q 17), .ref (q 18), .ref (q 19), .ref (q 20)], cr B (q 0) 8 (fun z9 => some (q (21 + 2 * z9))), cj B oa 1 ot]) := by
  refine ctr_h (by decide) (Nat.le_of_ble_eq_true rfl) ?_
  intro M Q hl hR hTab X kret
  subst hl
  refine g_lv [(0, .ref da), (1, .int x), (2, .int y), (3, .ref oa)] rfl ?_
  refine g_aload_n (pc := 0) X (i := 3) d_L_resize_0 rfl rfl ?_
  refine g_iconst (pc := 1) X (v := nI 0) d_L_resize_1 (by decide) ?_
  refine g_aload_n (pc := 2) X (i := 0) d_L_resize_2 rfl rfl ?_
  refine g_iload_n (pc := 3) X (i := 1) d_L_resize_3 rfl rfl ?_
  refine g_iload_n (pc := 4) X (i := 2) d_L_resize_4 rfl rfl ?_
  refine g_callVx (pc := 5) (q0 := 0) X (x_D_resize_1 (m_l M) B da q x y hst h) wd_277 wd_278 wd_279 wd_1 wd_280 hd_D_resize [0, 1] rfl rfl rfl rfl (by rw [hR]; decide) (by rw [hR]; decide) rfl (Nat.le_of_ble_eq_true rfl) d_L_resize_5 ?_
  refine g_catch X hTab [] ⟨0, 10, 13, 19⟩ [] rfl (fun z hz => absurd hz List.not_mem_nil) (by decide) (by decide) wd_231 (by decide) (fun q9 => ?_)
  refine g_astore (pc := 13) X d_L_resize_13 (by decide) ?_
  refine g_lv [(0, .ref da), (1, .int x), (2, .int y), (3, .ref oa), (4, .ref q9)] rfl ?_
  refine g_iconst (pc := 15) X (v := nI 1) d_L_resize_15 (by decide) ?_
  exact kret _ () _ _ _ 16 (by decide) (by decide) rfl d_L_resize_16

theorem w_x_D_resize_2 (l : Launch) (B : Bx) (da : Nat) (q : Nat → Nat) (i : Nat) (y : Int32) (oa : Nat) (ot : Nat → Int64) (hst : l.stackTraces = false) (h1 : i < 8) (h : inR y (nI 0) (nI 8192) = nI 0) : Ch (S := Unit) l B y_L_resize b_L_resize 5 [(0, 10, 13, 19)] (Rm 9 1 6) [.ref da, .int (nI i), .int y, .ref oa] [co da 3 [.ref (q 0), .ref (q 1), .ref (q 3), .ref (q 7), .ref (q 12), .ref (q 17), .ref (q 18), .ref (q 19), .ref (q 20)], cr B (q 0) 8 (fun z9 => some (q (21 + 2 * z9))), cj B oa 1 ot] (fun r _ => r = nI 1) (fun _ => [co da 3 [.ref (q 0), .ref (q 1), .ref (q 3), .ref (q 7), .ref (q 12), .ref (q 17), .ref (q 18), .ref (q 19), .ref (q 20)], cr B (q 0) 8 (fun z9 => some (q (21 + 2 * z9))), cj B oa 1 ot]) := by
  refine ctr_h (by decide) (Nat.le_of_ble_eq_true rfl) ?_
  intro M Q hl hR hTab X kret
  subst hl
  refine g_lv [(0, .ref da), (1, .int (nI i)), (2, .int y), (3, .ref oa)] rfl ?_
  refine g_aload_n (pc := 0) X (i := 3) d_L_resize_0 rfl rfl ?_
  refine g_iconst (pc := 1) X (v := nI 0) d_L_resize_1 (by decide) ?_
  refine g_aload_n (pc := 2) X (i := 0) d_L_resize_2 rfl rfl ?_
  refine g_iload_n (pc := 3) X (i := 1) d_L_resize_3 rfl rfl ?_
  refine g_iload_n (pc := 4) X (i := 2) d_L_resize_4 rfl rfl ?_
  refine g_callVx (pc := 5) (q0 := 0) X (x_D_resize_2 (m_l M) B da q i y hst h1 h) wd_277 wd_278 wd_279 wd_1 wd_280 hd_D_resize [0, 1] rfl rfl rfl rfl (by rw [hR]; decide) (by rw [hR]; decide) rfl (Nat.le_of_ble_eq_true rfl) d_L_resize_5 ?_
  refine g_catch X hTab [] ⟨0, 10, 13, 19⟩ [] rfl (fun z hz => absurd hz List.not_mem_nil) (by decide) (by decide) wd_231 (by decide) (fun q9 => ?_)
  refine g_astore (pc := 13) X d_L_resize_13 (by decide) ?_
  refine g_lv [(0, .ref da), (1, .int (nI i)), (2, .int y), (3, .ref oa), (4, .ref q9)] rfl ?_
  refine g_iconst (pc := 15) X (v := nI 1) d_L_resize_15 (by decide) ?_
  exact kret _ () _ _ _ 16 (by decide) (by decide) rfl d_L_resize_16

theorem w_x_D_alter_1 (l : Launch) (B : Bx) (da : Nat) (q : Nat → Nat) (x : Int32) (y : Int32) (z : Int32) (oa : Nat) (ot : Nat → Int64) (hst : l.stackTraces = false) (h : inR x (nI 0) (nI 7) = nI 0) : Ch (S := Unit) l B y_L_alter b_L_alter 6 [(0, 12, 15, 19), (0, 12, 19, 13)] (Rm 9 1 6) [.ref da, .int x, .int y, .int z, .ref oa] [co da 3 [.ref (q 0), .ref (q 1), .ref (q 3), .ref (q 7), .ref (q 12), .ref (q 17), .ref (q 18), .ref (q 19), .ref (q 20)], cr B (q 0) 8 (fun z9 => some (q (21 + 2 * z9))), cj B oa 1 ot] (fun r _ => r = nI 1) (fun _ => [co da 3 [.ref (q 0), .ref (q 1), .ref (q 3), .ref (q 7), .ref (q 12), .ref (q 17), .ref (q 18), .ref (q 19), .ref (q 20)], cr B (q 0) 8 (fun z9 => some (q (21 + 2 * z9))), cj B oa 1 ot]) := by
  refine ctr_h (by decide) (Nat.le_of_ble_eq_true rfl) ?_
  intro M Q hl hR hTab X kret
  subst hl
  refine g_lv [(0, .ref da), (1, .int x), (2, .int y), (3, .int z), (4, .ref oa)] rfl ?_
  refine g_aload (pc := 0) X d_L_alter_0 rfl ?_
  refine g_iconst (pc := 2) X (v := nI 0) d_L_alter_2 (by decide) ?_
  refine g_aload_n (pc := 3) X (i := 0) d_L_alter_3 rfl rfl ?_
  refine g_iload_n (pc := 4) X (i := 1) d_L_alter_4 rfl rfl ?_
  refine g_iload_n (pc := 5) X (i := 2) d_L_alter_5 rfl rfl ?_
  refine g_iload_n (pc := 6) X (i := 3) d_L_alter_6 rfl rfl ?_
  refine g_callVx (pc := 7) (q0 := 0) X (x_D_alter_1 (m_l M) B da q x y z hst h) wd_553 wd_554 wd_555 wd_1 wd_556 hd_D_alter [0, 1] rfl rfl rfl rfl (by rw [hR]; decide) (by rw [hR]; decide) rfl (Nat.le_of_ble_eq_true rfl) d_L_alter_7 ?_
  refine g_catch X hTab [] ⟨0, 12, 15, 19⟩ [⟨0, 12, 19, 13⟩] rfl (fun z hz => absurd hz List.not_mem_nil) (by decide) (by decide) wd_231 (by decide) (fun q9 => ?_)
  refine g_astore (pc := 15) X d_L_alter_15 (by decide) ?_
  refine g_lv [(0, .ref da), (1, .int x), (2, .int y), (3, .int z), (4, .ref oa), (5, .ref q9)] rfl ?_
  refine g_iconst (pc := 17) X (v := nI 1) d_L_alter_17 (by decide) ?_
  exact kret _ () _ _ _ 18 (by decide) (by decide) rfl d_L_alter_18

theorem w_x_D_alter_2 (l : Launch) (B : Bx) (da : Nat) (q : Nat → Nat) (i : Nat) (y : Int32) (z : Int32) (oa : Nat) (ot : Nat → Int64) (hst : l.stackTraces = false) (h1 : i < 8) (h : inR z (nI 0) (nI 255) = nI 0) : Ch (S := Unit) l B y_L_alter b_L_alter 6 [(0, 12, 15, 19), (0, 12, 19, 13)] (Rm 9 1 6) [.ref da, .int (nI i), .int y, .int z, .ref oa] [co da 3 [.ref (q 0), .ref (q 1), .ref (q 3), .ref (q 7), .ref (q 12), .ref (q 17), .ref (q 18), .ref (q 19), .ref (q 20)], cr B (q 0) 8 (fun z9 => some (q (21 + 2 * z9))), cj B oa 1 ot] (fun r _ => r = nI 1) (fun _ => [co da 3 [.ref (q 0), .ref (q 1), .ref (q 3), .ref (q 7), .ref (q 12), .ref (q 17), .ref (q 18), .ref (q 19), .ref (q 20)], cr B (q 0) 8 (fun z9 => some (q (21 + 2 * z9))), cj B oa 1 ot]) := by
  refine ctr_h (by decide) (Nat.le_of_ble_eq_true rfl) ?_
  intro M Q hl hR hTab X kret
  subst hl
  refine g_lv [(0, .ref da), (1, .int (nI i)), (2, .int y), (3, .int z), (4, .ref oa)] rfl ?_
  refine g_aload (pc := 0) X d_L_alter_0 rfl ?_
  refine g_iconst (pc := 2) X (v := nI 0) d_L_alter_2 (by decide) ?_
  refine g_aload_n (pc := 3) X (i := 0) d_L_alter_3 rfl rfl ?_
  refine g_iload_n (pc := 4) X (i := 1) d_L_alter_4 rfl rfl ?_
  refine g_iload_n (pc := 5) X (i := 2) d_L_alter_5 rfl rfl ?_
  refine g_iload_n (pc := 6) X (i := 3) d_L_alter_6 rfl rfl ?_
  refine g_callVx (pc := 7) (q0 := 0) X (x_D_alter_2 (m_l M) B da q i y z hst h1 h) wd_553 wd_554 wd_555 wd_1 wd_556 hd_D_alter [0, 1] rfl rfl rfl rfl (by rw [hR]; decide) (by rw [hR]; decide) rfl (Nat.le_of_ble_eq_true rfl) d_L_alter_7 ?_
  refine g_catch X hTab [] ⟨0, 12, 15, 19⟩ [⟨0, 12, 19, 13⟩] rfl (fun z hz => absurd hz List.not_mem_nil) (by decide) (by decide) wd_231 (by decide) (fun q9 => ?_)
  refine g_astore (pc := 15) X d_L_alter_15 (by decide) ?_
  refine g_lv [(0, .ref da), (1, .int (nI i)), (2, .int y), (3, .int z), (4, .ref oa), (5, .ref q9)] rfl ?_
  refine g_iconst (pc := 17) X (v := nI 1) d_L_alter_17 (by decide) ?_
  exact kret _ () _ _ _ 18 (by decide) (by decide) rfl d_L_alter_18

theorem w_x_D_alter_3 (l : Launch) (B : Bx) (da : Nat) (q : Nat → Nat) (i : Nat) (n : Nat) (z : Nat) (y : Int32) (f : Nat → Int8) (oa : Nat) (ot : Nat → Int64) (hst : l.stackTraces = false) (h1 : i < 8) (hz : z ≤ 255) (h2 : n ≤ 8192) (h : inR y (nI 0) (nI n - nI 1) = nI 0) : Ch (S := Unit) l B y_L_alter b_L_alter 6 [(0, 12, 15, 19), (0, 12, 19, 13)] (Rm 9 1 6) [.ref da, .int (nI i), .int y, .int (nI z), .ref oa] [co da 3 [.ref (q 0), .ref (q 1), .ref (q 3), .ref (q 7), .ref (q 12), .ref (q 17), .ref (q 18), .ref (q 19), .ref (q 20)], cr B (q 0) 8 (fun z9 => some (q (21 + 2 * z9))), co (q (21 + 2 * i)) 1 [.ref (q (22 + 2 * i)), .int (nI n)], cb B (q (22 + 2 * i)) 8192 f, cj B oa 1 ot] (fun r _ => r = nI 2) (fun _ => [co da 3 [.ref (q 0), .ref (q 1), .ref (q 3), .ref (q 7), .ref (q 12), .ref (q 17), .ref (q 18), .ref (q 19), .ref (q 20)], cr B (q 0) 8 (fun z9 => some (q (21 + 2 * z9))), co (q (21 + 2 * i)) 1 [.ref (q (22 + 2 * i)), .int (nI n)], cb B (q (22 + 2 * i)) 8192 f, cj B oa 1 ot]) := by
  refine ctr_h (by decide) (Nat.le_of_ble_eq_true rfl) ?_
  intro M Q hl hR hTab X kret
  subst hl
  refine g_lv [(0, .ref da), (1, .int (nI i)), (2, .int y), (3, .int (nI z)), (4, .ref oa)] rfl ?_
  refine g_aload (pc := 0) X d_L_alter_0 rfl ?_
  refine g_iconst (pc := 2) X (v := nI 0) d_L_alter_2 (by decide) ?_
  refine g_aload_n (pc := 3) X (i := 0) d_L_alter_3 rfl rfl ?_
  refine g_iload_n (pc := 4) X (i := 1) d_L_alter_4 rfl rfl ?_
  refine g_iload_n (pc := 5) X (i := 2) d_L_alter_5 rfl rfl ?_
  refine g_iload_n (pc := 6) X (i := 3) d_L_alter_6 rfl rfl ?_
  refine g_callVx (pc := 7) (q0 := 0) X (x_D_alter_3 (m_l M) B da q i n z y f hst h1 hz h2 h) wd_553 wd_554 wd_555 wd_1 wd_556 hd_D_alter [0, 1, 2, 3] rfl rfl rfl rfl (by rw [hR]; decide) (by rw [hR]; decide) rfl (Nat.le_of_ble_eq_true rfl) d_L_alter_7 ?_
  refine g_catch X hTab [⟨0, 12, 15, 19⟩] ⟨0, 12, 19, 13⟩ [] rfl (fun z hz => Or.inr (by cases List.mem_singleton.mp hz; exact ⟨by decide, nIAE, wd_231, X.s.2.2.2.2.2.2.2.1⟩)) (by decide) (by decide) wd_152 (by decide) (fun q9 => ?_)
  refine g_astore (pc := 19) X d_L_alter_19 (by decide) ?_
  refine g_lv [(0, .ref da), (1, .int (nI i)), (2, .int y), (3, .int (nI z)), (4, .ref oa), (5, .ref q9)] rfl ?_
  refine g_iconst (pc := 21) X (v := nI 2) d_L_alter_21 (by decide) ?_
  exact kret _ () _ _ _ 22 (by decide) (by decide) rfl d_L_alter_22

theorem w_x_D_length (l : Launch) (B : Bx) (da : Nat) (q : Nat → Nat) (x : Int32) (oa : Nat) (ot : Nat → Int64) (hst : l.stackTraces = false) (h : inR x (nI 0) (nI 7) = nI 0) : Ch (S := Unit) l B y_L_length b_L_length 4 [(0, 9, 12, 19)] (Rm 9 1 6) [.ref da, .int x, .ref oa] [co da 3 [.ref (q 0), .ref (q 1), .ref (q 3), .ref (q 7), .ref (q 12), .ref (q 17), .ref (q 18), .ref (q 19), .ref (q 20)], cr B (q 0) 8 (fun z9 => some (q (21 + 2 * z9))), cj B oa 1 ot] (fun r _ => r = nI 1) (fun _ => [co da 3 [.ref (q 0), .ref (q 1), .ref (q 3), .ref (q 7), .ref (q 12), .ref (q 17), .ref (q 18), .ref (q 19), .ref (q 20)], cr B (q 0) 8 (fun z9 => some (q (21 + 2 * z9))), cj B oa 1 ot]) := by
  refine ctr_h (by decide) (Nat.le_of_ble_eq_true rfl) ?_
  intro M Q hl hR hTab X kret
  subst hl
  refine g_lv [(0, .ref da), (1, .int x), (2, .ref oa)] rfl ?_
  refine g_aload_n (pc := 0) X (i := 2) d_L_length_0 rfl rfl ?_
  refine g_iconst (pc := 1) X (v := nI 0) d_L_length_1 (by decide) ?_
  refine g_aload_n (pc := 2) X (i := 0) d_L_length_2 rfl rfl ?_
  refine g_iload_n (pc := 3) X (i := 1) d_L_length_3 rfl rfl ?_
  refine g_callVx (pc := 4) (q0 := 0) X (x_D_length (m_l M) B da q x hst h) wd_564 wd_565 wd_566 wd_1 wd_567 hd_D_length [0, 1] rfl rfl rfl rfl (by rw [hR]; decide) (by rw [hR]; decide) rfl (Nat.le_of_ble_eq_true rfl) d_L_length_4 ?_
  refine g_catch X hTab [] ⟨0, 9, 12, 19⟩ [] rfl (fun z hz => absurd hz List.not_mem_nil) (by decide) (by decide) wd_231 (by decide) (fun q9 => ?_)
  refine g_astore_n (pc := 12) X (i := 3) d_L_length_12 rfl (by decide) ?_
  refine g_lv [(0, .ref da), (1, .int x), (2, .ref oa), (3, .ref q9)] rfl ?_
  refine g_iconst (pc := 13) X (v := nI 1) d_L_length_13 (by decide) ?_
  exact kret _ () _ _ _ 14 (by decide) (by decide) rfl d_L_length_14

theorem w_x_D_word_1 (l : Launch) (B : Bx) (da : Nat) (q : Nat → Nat) (x : Int32) (y : Int32) (oa : Nat) (ot : Nat → Int64) (hst : l.stackTraces = false) (h : inR x (nI 0) (nI 7) = nI 0) : Ch (S := Unit) l B y_L_word b_L_word 5 [(0, 9, 12, 19), (0, 9, 16, 13)] (Rm 9 1 6) [.ref da, .int x, .int y, .ref oa] [co da 3 [.ref (q 0), .ref (q 1), .ref (q 3), .ref (q 7), .ref (q 12), .ref (q 17), .ref (q 18), .ref (q 19), .ref (q 20)], cr B (q 0) 8 (fun z9 => some (q (21 + 2 * z9))), cj B oa 1 ot] (fun r _ => r = nI 1) (fun _ => [co da 3 [.ref (q 0), .ref (q 1), .ref (q 3), .ref (q 7), .ref (q 12), .ref (q 17), .ref (q 18), .ref (q 19), .ref (q 20)], cr B (q 0) 8 (fun z9 => some (q (21 + 2 * z9))), cj B oa 1 ot]) := by
  refine ctr_h (by decide) (Nat.le_of_ble_eq_true rfl) ?_
  intro M Q hl hR hTab X kret
  subst hl
  refine g_lv [(0, .ref da), (1, .int x), (2, .int y), (3, .ref oa)] rfl ?_
  refine g_aload_n (pc := 0) X (i := 3) d_L_word_0 rfl rfl ?_
  refine g_iconst (pc := 1) X (v := nI 0) d_L_word_1 (by decide) ?_
  refine g_aload_n (pc := 2) X (i := 0) d_L_word_2 rfl rfl ?_
  refine g_iload_n (pc := 3) X (i := 1) d_L_word_3 rfl rfl ?_
  refine g_iload_n (pc := 4) X (i := 2) d_L_word_4 rfl rfl ?_
  refine g_callVx (pc := 5) (q0 := 0) X (x_D_word_1 (m_l M) B da q x y hst h) wd_571 wd_572 wd_573 wd_1 wd_574 hd_D_word [0, 1] rfl rfl rfl rfl (by rw [hR]; decide) (by rw [hR]; decide) rfl (Nat.le_of_ble_eq_true rfl) d_L_word_5 ?_
  refine g_catch X hTab [] ⟨0, 9, 12, 19⟩ [⟨0, 9, 16, 13⟩] rfl (fun z hz => absurd hz List.not_mem_nil) (by decide) (by decide) wd_231 (by decide) (fun q9 => ?_)
  refine g_astore (pc := 12) X d_L_word_12 (by decide) ?_
  refine g_lv [(0, .ref da), (1, .int x), (2, .int y), (3, .ref oa), (4, .ref q9)] rfl ?_
  refine g_iconst (pc := 14) X (v := nI 1) d_L_word_14 (by decide) ?_
  exact kret _ () _ _ _ 15 (by decide) (by decide) rfl d_L_word_15

theorem w_x_D_word_2 (l : Launch) (B : Bx) (da : Nat) (q : Nat → Nat) (i : Nat) (n : Nat) (y : Int32) (f : Nat → Int8) (oa : Nat) (ot : Nat → Int64) (hst : l.stackTraces = false) (h1 : i < 8) (h2 : n ≤ 8192) (h : inR y (nI 0) (nI n - nI 1) = nI 0) : Ch (S := Unit) l B y_L_word b_L_word 5 [(0, 9, 12, 19), (0, 9, 16, 13)] (Rm 9 1 6) [.ref da, .int (nI i), .int y, .ref oa] [co da 3 [.ref (q 0), .ref (q 1), .ref (q 3), .ref (q 7), .ref (q 12), .ref (q 17), .ref (q 18), .ref (q 19), .ref (q 20)], cr B (q 0) 8 (fun z9 => some (q (21 + 2 * z9))), co (q (21 + 2 * i)) 1 [.ref (q (22 + 2 * i)), .int (nI n)], cb B (q (22 + 2 * i)) 8192 f, cj B oa 1 ot] (fun r _ => r = nI 2) (fun _ => [co da 3 [.ref (q 0), .ref (q 1), .ref (q 3), .ref (q 7), .ref (q 12), .ref (q 17), .ref (q 18), .ref (q 19), .ref (q 20)], cr B (q 0) 8 (fun z9 => some (q (21 + 2 * z9))), co (q (21 + 2 * i)) 1 [.ref (q (22 + 2 * i)), .int (nI n)], cb B (q (22 + 2 * i)) 8192 f, cj B oa 1 ot]) := by
  refine ctr_h (by decide) (Nat.le_of_ble_eq_true rfl) ?_
  intro M Q hl hR hTab X kret
  subst hl
  refine g_lv [(0, .ref da), (1, .int (nI i)), (2, .int y), (3, .ref oa)] rfl ?_
  refine g_aload_n (pc := 0) X (i := 3) d_L_word_0 rfl rfl ?_
  refine g_iconst (pc := 1) X (v := nI 0) d_L_word_1 (by decide) ?_
  refine g_aload_n (pc := 2) X (i := 0) d_L_word_2 rfl rfl ?_
  refine g_iload_n (pc := 3) X (i := 1) d_L_word_3 rfl rfl ?_
  refine g_iload_n (pc := 4) X (i := 2) d_L_word_4 rfl rfl ?_
  refine g_callVx (pc := 5) (q0 := 0) X (x_D_word_2 (m_l M) B da q i n y f hst h1 h2 h) wd_571 wd_572 wd_573 wd_1 wd_574 hd_D_word [0, 1, 2, 3] rfl rfl rfl rfl (by rw [hR]; decide) (by rw [hR]; decide) rfl (Nat.le_of_ble_eq_true rfl) d_L_word_5 ?_
  refine g_catch X hTab [⟨0, 9, 12, 19⟩] ⟨0, 9, 16, 13⟩ [] rfl (fun z hz => Or.inr (by cases List.mem_singleton.mp hz; exact ⟨by decide, nIAE, wd_231, X.s.2.2.2.2.2.2.2.1⟩)) (by decide) (by decide) wd_152 (by decide) (fun q9 => ?_)
  refine g_astore (pc := 16) X d_L_word_16 (by decide) ?_
  refine g_lv [(0, .ref da), (1, .int (nI i)), (2, .int y), (3, .ref oa), (4, .ref q9)] rfl ?_
  refine g_iconst (pc := 18) X (v := nI 2) d_L_word_18 (by decide) ?_
  exact kret _ () _ _ _ 19 (by decide) (by decide) rfl d_L_word_19

theorem w_x_D_digest_1 (l : Launch) (B : Bx) (da : Nat) (q : Nat → Nat) (x : Int32) (y : Int32) (oa : Nat) (ot : Nat → Int64) (hst : l.stackTraces = false) (h : inR x (nI 1) (nI 16) = nI 0) : Ch (S := Unit) l B y_L_digest b_L_digest 5 [(0, 10, 13, 19)] (Rm 9 1 6) [.ref da, .int x, .int y, .ref oa] [co da 3 [.ref (q 0), .ref (q 1), .ref (q 3), .ref (q 7), .ref (q 12), .ref (q 17), .ref (q 18), .ref (q 19), .ref (q 20)], cr B (q 0) 8 (fun z9 => some (q (21 + 2 * z9))), cj B oa 1 ot] (fun r _ => r = nI 1) (fun _ => [co da 3 [.ref (q 0), .ref (q 1), .ref (q 3), .ref (q 7), .ref (q 12), .ref (q 17), .ref (q 18), .ref (q 19), .ref (q 20)], cr B (q 0) 8 (fun z9 => some (q (21 + 2 * z9))), cj B oa 1 ot]) := by
  refine ctr_h (by decide) (Nat.le_of_ble_eq_true rfl) ?_
  intro M Q hl hR hTab X kret
  subst hl
  refine g_lv [(0, .ref da), (1, .int x), (2, .int y), (3, .ref oa)] rfl ?_
  refine g_aload_n (pc := 0) X (i := 3) d_L_digest_0 rfl rfl ?_
  refine g_iconst (pc := 1) X (v := nI 0) d_L_digest_1 (by decide) ?_
  refine g_aload_n (pc := 2) X (i := 0) d_L_digest_2 rfl rfl ?_
  refine g_iload_n (pc := 3) X (i := 1) d_L_digest_3 rfl rfl ?_
  refine g_iload_n (pc := 4) X (i := 2) d_L_digest_4 rfl rfl ?_
  refine g_callVx (pc := 5) (q0 := 0) X (x_D_digest_1 (m_l M) B da q x y hst h) wd_593 wd_594 wd_595 wd_1 wd_596 hd_D_digest [0, 1] rfl rfl rfl rfl (by rw [hR]; decide) (by rw [hR]; decide) rfl (Nat.le_of_ble_eq_true rfl) d_L_digest_5 ?_
  refine g_catch X hTab [] ⟨0, 10, 13, 19⟩ [] rfl (fun z hz => absurd hz List.not_mem_nil) (by decide) (by decide) wd_231 (by decide) (fun q9 => ?_)
  refine g_astore (pc := 13) X d_L_digest_13 (by decide) ?_
  refine g_lv [(0, .ref da), (1, .int x), (2, .int y), (3, .ref oa), (4, .ref q9)] rfl ?_
  refine g_iconst (pc := 15) X (v := nI 1) d_L_digest_15 (by decide) ?_
  exact kret _ () _ _ _ 16 (by decide) (by decide) rfl d_L_digest_16

theorem w_x_D_digest_2 (l : Launch) (B : Bx) (da : Nat) (q : Nat → Nat) (k : Nat) (y : Int32) (oa : Nat) (ot : Nat → Int64) (hst : l.stackTraces = false) (h1 : 1 ≤ k) (h2 : k ≤ 16) (h : inR y (nI 0) (nI 8192) = nI 0) : Ch (S := Unit) l B y_L_digest b_L_digest 5 [(0, 10, 13, 19)] (Rm 9 1 6) [.ref da, .int (nI k), .int y, .ref oa] [co da 3 [.ref (q 0), .ref (q 1), .ref (q 3), .ref (q 7), .ref (q 12), .ref (q 17), .ref (q 18), .ref (q 19), .ref (q 20)], cr B (q 0) 8 (fun z9 => some (q (21 + 2 * z9))), cj B oa 1 ot] (fun r _ => r = nI 1) (fun _ => [co da 3 [.ref (q 0), .ref (q 1), .ref (q 3), .ref (q 7), .ref (q 12), .ref (q 17), .ref (q 18), .ref (q 19), .ref (q 20)], cr B (q 0) 8 (fun z9 => some (q (21 + 2 * z9))), cj B oa 1 ot]) := by
  refine ctr_h (by decide) (Nat.le_of_ble_eq_true rfl) ?_
  intro M Q hl hR hTab X kret
  subst hl
  refine g_lv [(0, .ref da), (1, .int (nI k)), (2, .int y), (3, .ref oa)] rfl ?_
  refine g_aload_n (pc := 0) X (i := 3) d_L_digest_0 rfl rfl ?_
  refine g_iconst (pc := 1) X (v := nI 0) d_L_digest_1 (by decide) ?_
  refine g_aload_n (pc := 2) X (i := 0) d_L_digest_2 rfl rfl ?_
  refine g_iload_n (pc := 3) X (i := 1) d_L_digest_3 rfl rfl ?_
  refine g_iload_n (pc := 4) X (i := 2) d_L_digest_4 rfl rfl ?_
  refine g_callVx (pc := 5) (q0 := 0) X (x_D_digest_2 (m_l M) B da q k y hst h1 h2 h) wd_593 wd_594 wd_595 wd_1 wd_596 hd_D_digest [0, 1] rfl rfl rfl rfl (by rw [hR]; decide) (by rw [hR]; decide) rfl (Nat.le_of_ble_eq_true rfl) d_L_digest_5 ?_
  refine g_catch X hTab [] ⟨0, 10, 13, 19⟩ [] rfl (fun z hz => absurd hz List.not_mem_nil) (by decide) (by decide) wd_231 (by decide) (fun q9 => ?_)
  refine g_astore (pc := 13) X d_L_digest_13 (by decide) ?_
  refine g_lv [(0, .ref da), (1, .int (nI k)), (2, .int y), (3, .ref oa), (4, .ref q9)] rfl ?_
  refine g_iconst (pc := 15) X (v := nI 1) d_L_digest_15 (by decide) ?_
  exact kret _ () _ _ _ 16 (by decide) (by decide) rfl d_L_digest_16
