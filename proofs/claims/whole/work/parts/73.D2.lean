theorem c_D_requireWithin (l : Launch) (B : Bx) (x : Nat) (lo : Nat) (hi : Nat) (h1 : lo ≤ x) (h2 : x ≤ hi) (h3 : hi < 2 ^ 31) : Cv (S := Unit) l B y_D_requireWithin b_D_requireWithin 3 (Rm 1 0 0) [.int (nI x), .int (nI lo), .int (nI hi)] [] (fun _ => True) (fun _ => []) := by
  refine ctr_v (by decide) (Nat.le_of_ble_eq_true rfl) ?_
  intro M Q hl hR hin X kret
  subst hl
  refine g_lv [(0, .int (nI x)), (1, .int (nI lo)), (2, .int (nI hi))] rfl ?_
  refine g_iload_n (pc := 0) X (i := 0) d_D_requireWithin_0 rfl rfl ?_
  refine g_iload_n (pc := 1) X (i := 1) d_D_requireWithin_1 rfl rfl ?_
  refine g_icmp_ltN (pc := 2) X (tgt := 10) d_D_requireWithin_2 (by decide) (by omega) (by omega) (fun h_2 => absurd h_2 (by omega)) (fun h_2 => ?_)
  refine g_iload_n (pc := 5) X (i := 0) d_D_requireWithin_5 rfl rfl ?_
  refine g_iload_n (pc := 6) X (i := 2) d_D_requireWithin_6 rfl rfl ?_
  refine g_icmp_leN (pc := 7) X (tgt := 20) d_D_requireWithin_7 (by decide) (by omega) (by omega) (fun h_7 => ?_) (fun h_7 => absurd h_7 (by omega))
  exact kret () _ 20 trivial d_D_requireWithin_20

theorem c_D_slotAt (l : Launch) (B : Bx) (da : Nat) (q : Nat → Nat) (i : Nat) (h1 : i < 8) : Cr (S := Unit) l B y_D_slotAt b_D_slotAt 2 (.object "SpongeDigests$Bytes") (Rm 2 0 0) [.ref da, .int (nI i)] [co da 3 [.ref (q 0), .ref (q 1), .ref (q 3), .ref (q 7), .ref (q 12), .ref (q 17), .ref (q 18), .ref (q 19), .ref (q 20)], cr B (q 0) 8 (fun z9 => some (q (21 + 2 * z9)))] (fun _ => True) (fun _ => q (21 + 2 * i)) (fun _ => [co da 3 [.ref (q 0), .ref (q 1), .ref (q 3), .ref (q 7), .ref (q 12), .ref (q 17), .ref (q 18), .ref (q 19), .ref (q 20)], cr B (q 0) 8 (fun z9 => some (q (21 + 2 * z9)))]) := by
  refine ctr_r (by decide) (Or.inl ⟨_, rfl⟩) (Nat.le_of_ble_eq_true rfl) ?_
  intro M Q hl hR hin X kret
  subst hl
  refine g_lv [(0, .ref da), (1, .int (nI i))] rfl ?_
  refine g_iload_n (pc := 0) X (i := 1) d_D_slotAt_0 rfl rfl ?_
  refine g_iconst (pc := 1) X (v := nI 0) d_D_slotAt_1 (by decide) ?_
  refine g_bipush (pc := 2) X (v := nI 7) d_D_slotAt_2 (by decide) ?_
  refine g_callSv (pc := 4) X (c_D_requireWithin (m_l M) B i 0 7 (by omega) (by omega) (by omega)) wd_240 wd_241 wd_1 wd_242 hd_D_requireWithin [] rfl rfl [] (fun _ => rfl) rfl (by rw [hR]; decide) (by rw [hR]; decide) rfl (Nat.le_of_ble_eq_true rfl) d_D_slotAt_4 (fun _ _ => ?_)
  refine g_wsq [co da 3 [.ref (q 0), .ref (q 1), .ref (q 3), .ref (q 7), .ref (q 12), .ref (q 17), .ref (q 18), .ref (q 19), .ref (q 20)], cr B (q 0) 8 (fun z9 => some (q (21 + 2 * z9)))] rfl ?_
  refine g_aload_n (pc := 7) X (i := 0) d_D_slotAt_7 rfl rfl ?_
  refine g_get (pc := 8) X in_D 0 rfl rfl 0 (by decide) wd_121 rfl d_D_slotAt_8 ?_
  refine g_iload_n (pc := 11) X (i := 1) d_D_slotAt_11 rfl rfl ?_
  refine g_rald (pc := 12) X 1 rfl i rfl (by omega) (by omega) (r := q (21 + 2 * i)) rfl d_D_slotAt_12 ?_
  exact kret () _ 13 trivial d_D_slotAt_13

theorem c_D_requirePlace (l : Launch) (B : Bx) (y : Nat) (d : Nat) (n : Nat) (p : Nat) (h1 : p < n) (h2 : n ≤ 8192) : Cv (S := Unit) l B y_D_requirePlace b_D_requirePlace 2 (Rm 1 0 0) [.ref y, .int (nI p)] [co y 1 [.ref d, .int (nI n)]] (fun _ => True) (fun _ => [co y 1 [.ref d, .int (nI n)]]) := by
  refine ctr_v (by decide) (Nat.le_of_ble_eq_true rfl) ?_
  intro M Q hl hR hin X kret
  subst hl
  refine g_lv [(0, .ref y), (1, .int (nI p))] rfl ?_
  refine g_iload_n (pc := 0) X (i := 1) d_D_requirePlace_0 rfl rfl ?_
  refine g_if_ltN (pc := 1) X (tgt := 12) d_D_requirePlace_1 (by decide) (by omega) ?_
  refine g_iload_n (pc := 4) X (i := 1) d_D_requirePlace_4 rfl rfl ?_
  refine g_aload_n (pc := 5) X (i := 0) d_D_requirePlace_5 rfl rfl ?_
  refine g_getN (pc := 6) X in_Y 0 rfl rfl 1 (by decide) wn_2 rfl d_D_requirePlace_6 ?_
  refine g_icmp_ltN (pc := 9) X (tgt := 22) d_D_requirePlace_9 (by decide) (by omega) (by omega) (fun h_9 => ?_) (fun h_9 => absurd h_9 (by omega))
  exact kret () _ 22 trivial d_D_requirePlace_22

theorem c_D_feed (l : Launch) (B : Bx) (da : Nat) (q : Nat → Nat) (n : Nat) (f : Nat → Int8) (p0 : Int32) (p1 : Int32) (p2 : Int32) (p3 : Int32) (p4 : Int32) (h1 : n + 20 ≤ 8192) : Ci (S := Unit) l B y_D_feed b_D_feed 6 .int (Rm 3 0 0) [.ref da, .int p0, .int p1, .int p2, .int p3, .int p4] [co da 3 [.ref (q 0), .ref (q 1), .ref (q 3), .ref (q 7), .ref (q 12), .ref (q 17), .ref (q 18), .ref (q 19), .ref (q 20)], co (q 1) 1 [.ref (q 2), .int (nI n)], cb B (q 2) 8192 f] (fun r _ => r = nI (n + 20)) (fun _ => [co da 3 [.ref (q 0), .ref (q 1), .ref (q 3), .ref (q 7), .ref (q 12), .ref (q 17), .ref (q 18), .ref (q 19), .ref (q 20)], co (q 1) 1 [.ref (q 2), .int (nI (n + 20))], cb B (q 2) 8192 (app4 (app4 (app4 (app4 (app4 f n p0) (n + 4) p1) (n + 8) p2) (n + 12) p3) (n + 16) p4)]) := by
  refine ctr_i (by decide) (Nat.le_of_ble_eq_true rfl) ?_
  intro M Q hl hR hin X kret
  subst hl
  refine g_lv [(0, .ref da), (1, .int p0), (2, .int p1), (3, .int p2), (4, .int p3), (5, .int p4)] rfl ?_
  refine g_aload_n (pc := 0) X (i := 0) d_D_feed_0 rfl rfl ?_
  refine g_get (pc := 1) X in_D 0 rfl rfl 1 (by decide) wd_122 rfl d_D_feed_1 ?_
  refine g_getN (pc := 4) X in_Y 1 rfl rfl 1 (by decide) wn_2 rfl d_D_feed_4 ?_
  refine g_sipush (pc := 7) X (v := nI 8172) d_D_feed_7 (by decide) ?_
  refine g_icmp_leN (pc := 10) X (tgt := 23) d_D_feed_10 (by decide) (by omega) (by omega) (fun h_10 => ?_) (fun h_10 => absurd h_10 (by omega))
  refine g_aload_n (pc := 23) X (i := 0) d_D_feed_23 rfl rfl ?_
  refine g_get (pc := 24) X in_D 0 rfl rfl 1 (by decide) wd_122 rfl d_D_feed_24 ?_
  refine g_iload_n (pc := 27) X (i := 1) d_D_feed_27 rfl rfl ?_
  refine g_callVNv (pc := 28) (q0 := 1) X (c_Y_append (m_l M) B (q 1) (q 2) n f p0 (by omega)) wn_7 wd_226 wp_Y_append wd_2 wd_227 hd_Y_append [1, 2] rfl rfl [q 1, q 2] (fun _ => rfl) rfl rfl rfl (by rw [hR]; decide) (by rw [hR]; decide) rfl (Nat.le_of_ble_eq_true rfl) d_D_feed_28 (fun _ _ => ?_)
  refine g_wsq [co da 3 [.ref (q 0), .ref (q 1), .ref (q 3), .ref (q 7), .ref (q 12), .ref (q 17), .ref (q 18), .ref (q 19), .ref (q 20)], co (q 1) 1 [.ref (q 2), .int (nI (n + 4))], cb B (q 2) 8192 (app4 f n p0)] rfl ?_
  refine g_aload_n (pc := 31) X (i := 0) d_D_feed_31 rfl rfl ?_
  refine g_get (pc := 32) X in_D 0 rfl rfl 1 (by decide) wd_122 rfl d_D_feed_32 ?_
  refine g_iload_n (pc := 35) X (i := 2) d_D_feed_35 rfl rfl ?_
  refine g_callVNv (pc := 36) (q0 := 1) X (c_Y_append (m_l M) B (q 1) (q 2) (n + 4) (app4 f n p0) p1 (by omega)) wn_7 wd_226 wp_Y_append wd_2 wd_227 hd_Y_append [1, 2] rfl rfl [q 1, q 2] (fun _ => rfl) rfl rfl rfl (by rw [hR]; decide) (by rw [hR]; decide) rfl (Nat.le_of_ble_eq_true rfl) d_D_feed_36 (fun _ _ => ?_)
  refine g_wsq [co da 3 [.ref (q 0), .ref (q 1), .ref (q 3), .ref (q 7), .ref (q 12), .ref (q 17), .ref (q 18), .ref (q 19), .ref (q 20)], co (q 1) 1 [.ref (q 2), .int (nI ((n + 4) + 4))], cb B (q 2) 8192 (app4 (app4 f n p0) (n + 4) p1)] rfl ?_
  refine g_aload_n (pc := 39) X (i := 0) d_D_feed_39 rfl rfl ?_
  refine g_get (pc := 40) X in_D 0 rfl rfl 1 (by decide) wd_122 rfl d_D_feed_40 ?_
  refine g_iload_n (pc := 43) X (i := 3) d_D_feed_43 rfl rfl ?_
  refine g_callVNv (pc := 44) (q0 := 1) X (c_Y_append (m_l M) B (q 1) (q 2) ((n + 4) + 4) (app4 (app4 f n p0) (n + 4) p1) p2 (by omega)) wn_7 wd_226 wp_Y_append wd_2 wd_227 hd_Y_append [1, 2] rfl rfl [q 1, q 2] (fun _ => rfl) rfl rfl rfl (by rw [hR]; decide) (by rw [hR]; decide) rfl (Nat.le_of_ble_eq_true rfl) d_D_feed_44 (fun _ _ => ?_)
  refine g_wsq [co da 3 [.ref (q 0), .ref (q 1), .ref (q 3), .ref (q 7), .ref (q 12), .ref (q 17), .ref (q 18), .ref (q 19), .ref (q 20)], co (q 1) 1 [.ref (q 2), .int (nI (((n + 4) + 4) + 4))], cb B (q 2) 8192 (app4 (app4 (app4 f n p0) (n + 4) p1) ((n + 4) + 4) p2)] rfl ?_
  refine g_aload_n (pc := 47) X (i := 0) d_D_feed_47 rfl rfl ?_
  refine g_get (pc := 48) X in_D 0 rfl rfl 1 (by decide) wd_122 rfl d_D_feed_48 ?_
  refine g_iload (pc := 51) X d_D_feed_51 rfl ?_
  refine g_callVNv (pc := 53) (q0 := 1) X (c_Y_append (m_l M) B (q 1) (q 2) (((n + 4) + 4) + 4) (app4 (app4 (app4 f n p0) (n + 4) p1) ((n + 4) + 4) p2) p3 (by omega)) wn_7 wd_226 wp_Y_append wd_2 wd_227 hd_Y_append [1, 2] rfl rfl [q 1, q 2] (fun _ => rfl) rfl rfl rfl (by rw [hR]; decide) (by rw [hR]; decide) rfl (Nat.le_of_ble_eq_true rfl) d_D_feed_53 (fun _ _ => ?_)
  refine g_wsq [co da 3 [.ref (q 0), .ref (q 1), .ref (q 3), .ref (q 7), .ref (q 12), .ref (q 17), .ref (q 18), .ref (q 19), .ref (q 20)], co (q 1) 1 [.ref (q 2), .int (nI ((((n + 4) + 4) + 4) + 4))], cb B (q 2) 8192 (app4 (app4 (app4 (app4 f n p0) (n + 4) p1) ((n + 4) + 4) p2) (((n + 4) + 4) + 4) p3)] rfl ?_
  refine g_aload_n (pc := 56) X (i := 0) d_D_feed_56 rfl rfl ?_
  refine g_get (pc := 57) X in_D 0 rfl rfl 1 (by decide) wd_122 rfl d_D_feed_57 ?_
  refine g_iload (pc := 60) X d_D_feed_60 rfl ?_
  refine g_callVNv (pc := 62) (q0 := 1) X (c_Y_append (m_l M) B (q 1) (q 2) ((((n + 4) + 4) + 4) + 4) (app4 (app4 (app4 (app4 f n p0) (n + 4) p1) ((n + 4) + 4) p2) (((n + 4) + 4) + 4) p3) p4 (by omega)) wn_7 wd_226 wp_Y_append wd_2 wd_227 hd_Y_append [1, 2] rfl rfl [q 1, q 2] (fun _ => rfl) rfl rfl rfl (by rw [hR]; decide) (by rw [hR]; decide) rfl (Nat.le_of_ble_eq_true rfl) d_D_feed_62 (fun _ _ => ?_)
  refine g_wsq [co da 3 [.ref (q 0), .ref (q 1), .ref (q 3), .ref (q 7), .ref (q 12), .ref (q 17), .ref (q 18), .ref (q 19), .ref (q 20)], co (q 1) 1 [.ref (q 2), .int (nI (((((n + 4) + 4) + 4) + 4) + 4))], cb B (q 2) 8192 (app4 (app4 (app4 (app4 (app4 f n p0) (n + 4) p1) ((n + 4) + 4) p2) (((n + 4) + 4) + 4) p3) ((((n + 4) + 4) + 4) + 4) p4)] rfl ?_
  refine g_aload_n (pc := 65) X (i := 0) d_D_feed_65 rfl rfl ?_
  refine g_get (pc := 66) X in_D 0 rfl rfl 1 (by decide) wd_122 rfl d_D_feed_66 ?_
  refine g_getN (pc := 69) X in_Y 1 rfl rfl 1 (by decide) wn_2 rfl d_D_feed_69 ?_
  exact kret _ () _ 72 rfl d_D_feed_72

theorem c_D_end (l : Launch) (B : Bx) (da : Nat) (q : Nat → Nat) (i : Nat) (m : Nat) (n : Nat) (t : Nat) (g : Nat → Int8) (f : Nat → Int8) (h1 : i < 8) (h2 : n ≤ 8192) (h3 : n ≤ t) (h4 : t ≤ 8192) : Ci (S := Unit) l B y_D_end b_D_end 4 .int (Rm 4 0 0) [.ref da, .int (nI i), .int (nI n)] [co da 3 [.ref (q 0), .ref (q 1), .ref (q 3), .ref (q 7), .ref (q 12), .ref (q 17), .ref (q 18), .ref (q 19), .ref (q 20)], cr B (q 0) 8 (fun z9 => some (q (21 + 2 * z9))), co (q (21 + 2 * i)) 1 [.ref (q (22 + 2 * i)), .int (nI m)], cb B (q (22 + 2 * i)) 8192 g, co (q 1) 1 [.ref (q 2), .int (nI t)], cb B (q 2) 8192 f] (fun r _ => r = nI n) (fun _ => [co da 3 [.ref (q 0), .ref (q 1), .ref (q 3), .ref (q 7), .ref (q 12), .ref (q 17), .ref (q 18), .ref (q 19), .ref (q 20)], cr B (q 0) 8 (fun z9 => some (q (21 + 2 * z9))), co (q (21 + 2 * i)) 1 [.ref (q (22 + 2 * i)), .int (nI n)], cb B (q (22 + 2 * i)) 8192 (va_cpy f g 0 0 n), co (q 1) 1 [.ref (q 2), .int (nI 0)], cb B (q 2) 8192 f]) := by
  refine ctr_i (by decide) (Nat.le_of_ble_eq_true rfl) ?_
  intro M Q hl hR hin X kret
  subst hl
  refine g_lv [(0, .ref da), (1, .int (nI i)), (2, .int (nI n))] rfl ?_
  refine g_aload_n (pc := 0) X (i := 0) d_D_end_0 rfl rfl ?_
  refine g_iload_n (pc := 1) X (i := 1) d_D_end_1 rfl rfl ?_
  refine g_callVr (pc := 2) (q0 := 0) X (c_D_slotAt (m_l M) B da q i (by omega)) wd_236 wd_238 wp_D_slotAt wd_1 wd_239 hd_D_slotAt [0, 1] rfl rfl [da, q 0] (fun _ => rfl) rfl rfl rfl (by rw [hR]; decide) (by rw [hR]; decide) rfl (Nat.le_of_ble_eq_true rfl) d_D_end_2 (fun _ _ => ?_)
  refine g_wsq [co da 3 [.ref (q 0), .ref (q 1), .ref (q 3), .ref (q 7), .ref (q 12), .ref (q 17), .ref (q 18), .ref (q 19), .ref (q 20)], cr B (q 0) 8 (fun z9 => some (q (21 + 2 * z9))), co (q (21 + 2 * i)) 1 [.ref (q (22 + 2 * i)), .int (nI m)], cb B (q (22 + 2 * i)) 8192 g, co (q 1) 1 [.ref (q 2), .int (nI t)], cb B (q 2) 8192 f] rfl ?_
  refine g_astore_n (pc := 5) X (i := 3) d_D_end_5 rfl (by decide) ?_
  refine g_lv [(0, .ref da), (1, .int (nI i)), (2, .int (nI n)), (3, .ref (q (21 + 2 * i)))] rfl ?_
  refine g_iload_n (pc := 6) X (i := 2) d_D_end_6 rfl rfl ?_
  refine g_iconst (pc := 7) X (v := nI 0) d_D_end_7 (by decide) ?_
  refine g_sipush (pc := 8) X (v := nI 8192) d_D_end_8 (by decide) ?_
  refine g_callSv (pc := 11) X (c_D_requireWithin (m_l M) B n 0 8192 (by omega) (by omega) (by omega)) wd_240 wd_241 wd_1 wd_242 hd_D_requireWithin [] rfl rfl [] (fun _ => rfl) rfl (by rw [hR]; decide) (by rw [hR]; decide) rfl (Nat.le_of_ble_eq_true rfl) d_D_end_11 (fun _ _ => ?_)
  refine g_wsq [co da 3 [.ref (q 0), .ref (q 1), .ref (q 3), .ref (q 7), .ref (q 12), .ref (q 17), .ref (q 18), .ref (q 19), .ref (q 20)], cr B (q 0) 8 (fun z9 => some (q (21 + 2 * z9))), co (q (21 + 2 * i)) 1 [.ref (q (22 + 2 * i)), .int (nI m)], cb B (q (22 + 2 * i)) 8192 g, co (q 1) 1 [.ref (q 2), .int (nI t)], cb B (q 2) 8192 f] rfl ?_
  refine g_aload_n (pc := 14) X (i := 0) d_D_end_14 rfl rfl ?_
  refine g_get (pc := 15) X in_D 0 rfl rfl 1 (by decide) wd_122 rfl d_D_end_15 ?_
  refine g_getN (pc := 18) X in_Y 4 rfl rfl 1 (by decide) wn_2 rfl d_D_end_18 ?_
  refine g_iload_n (pc := 21) X (i := 2) d_D_end_21 rfl rfl ?_
  refine g_icmp_geN (pc := 22) X (tgt := 35) d_D_end_22 (by decide) (by omega) (by omega) (fun h_22 => ?_) (fun h_22 => absurd h_22 (by omega))
  refine g_aload_n (pc := 35) X (i := 3) d_D_end_35 rfl rfl ?_
  refine g_aload_n (pc := 36) X (i := 0) d_D_end_36 rfl rfl ?_
  refine g_get (pc := 37) X in_D 0 rfl rfl 1 (by decide) wd_122 rfl d_D_end_37 ?_
  refine g_iload_n (pc := 40) X (i := 2) d_D_end_40 rfl rfl ?_
  refine g_callVNv (pc := 41) (q0 := 2) X (c_Y_take (m_l M) B (q (21 + 2 * i)) (q (22 + 2 * i)) m (q 1) (q 2) t n g f (by omega)) wn_8 wd_262 wp_Y_take wd_2 wd_263 hd_Y_take [2, 3, 4, 5] rfl rfl [q (21 + 2 * i), q (22 + 2 * i), q 1, q 2] (fun _ => rfl) rfl rfl rfl (by rw [hR]; decide) (by rw [hR]; decide) rfl (Nat.le_of_ble_eq_true rfl) d_D_end_41 (fun _ _ => ?_)
  refine g_wsq [co da 3 [.ref (q 0), .ref (q 1), .ref (q 3), .ref (q 7), .ref (q 12), .ref (q 17), .ref (q 18), .ref (q 19), .ref (q 20)], cr B (q 0) 8 (fun z9 => some (q (21 + 2 * z9))), co (q (21 + 2 * i)) 1 [.ref (q (22 + 2 * i)), .int (nI n)], cb B (q (22 + 2 * i)) 8192 (va_cpy f g 0 0 n), co (q 1) 1 [.ref (q 2), .int (nI t)], cb B (q 2) 8192 f] rfl ?_
  refine g_aload_n (pc := 44) X (i := 0) d_D_end_44 rfl rfl ?_
  refine g_get (pc := 45) X in_D 0 rfl rfl 1 (by decide) wd_122 rfl d_D_end_45 ?_
  refine g_iconst (pc := 48) X (v := nI 0) d_D_end_48 (by decide) ?_
  refine g_putN (pc := 49) X in_Y ty_Y ok_Y nm_Y 4 rfl rfl 1 (by decide) wn_2 rfl rfl rfl (Nat.le_of_ble_eq_true rfl) d_D_end_49 ?_
  refine g_wsq [co da 3 [.ref (q 0), .ref (q 1), .ref (q 3), .ref (q 7), .ref (q 12), .ref (q 17), .ref (q 18), .ref (q 19), .ref (q 20)], cr B (q 0) 8 (fun z9 => some (q (21 + 2 * z9))), co (q (21 + 2 * i)) 1 [.ref (q (22 + 2 * i)), .int (nI n)], cb B (q (22 + 2 * i)) 8192 (va_cpy f g 0 0 n), co (q 1) 1 [.ref (q 2), .int (nI 0)], cb B (q 2) 8192 f] rfl ?_
  refine g_iload_n (pc := 52) X (i := 2) d_D_end_52 rfl rfl ?_
  exact kret _ () _ 53 rfl d_D_end_53

theorem c_D_copy (l : Launch) (B : Bx) (da : Nat) (q : Nat → Nat) (i : Nat) (j : Nat) (n : Nat) (m : Nat) (f : Nat → Int8) (g : Nat → Int8) (h1 : i < 8) (h2 : j < 8) (h3 : n ≤ 8192) : Ci (S := Unit) l B y_D_copy b_D_copy 5 .int (Rm 4 0 0) [.ref da, .int (nI i), .int (nI j)] [co da 3 [.ref (q 0), .ref (q 1), .ref (q 3), .ref (q 7), .ref (q 12), .ref (q 17), .ref (q 18), .ref (q 19), .ref (q 20)], cr B (q 0) 8 (fun z9 => some (q (21 + 2 * z9))), co (q (21 + 2 * i)) 1 [.ref (q (22 + 2 * i)), .int (nI n)], cb B (q (22 + 2 * i)) 8192 f, co (q (21 + 2 * j)) 1 [.ref (q (22 + 2 * j)), .int (nI m)], cb B (q (22 + 2 * j)) 8192 g] (fun r _ => r = nI n) (fun _ => [co da 3 [.ref (q 0), .ref (q 1), .ref (q 3), .ref (q 7), .ref (q 12), .ref (q 17), .ref (q 18), .ref (q 19), .ref (q 20)], cr B (q 0) 8 (fun z9 => some (q (21 + 2 * z9))), co (q (21 + 2 * i)) 1 [.ref (q (22 + 2 * i)), .int (nI n)], cb B (q (22 + 2 * i)) 8192 f, co (q (21 + 2 * j)) 1 [.ref (q (22 + 2 * j)), .int (nI n)], cb B (q (22 + 2 * j)) 8192 (va_cpy f g 0 0 n)]) := by
  refine ctr_i (by decide) (Nat.le_of_ble_eq_true rfl) ?_
  intro M Q hl hR hin X kret
  subst hl
  refine g_lv [(0, .ref da), (1, .int (nI i)), (2, .int (nI j))] rfl ?_
  refine g_aload_n (pc := 0) X (i := 0) d_D_copy_0 rfl rfl ?_
  refine g_iload_n (pc := 1) X (i := 1) d_D_copy_1 rfl rfl ?_
  refine g_callVr (pc := 2) (q0 := 0) X (c_D_slotAt (m_l M) B da q i (by omega)) wd_236 wd_238 wp_D_slotAt wd_1 wd_239 hd_D_slotAt [0, 1] rfl rfl [da, q 0] (fun _ => rfl) rfl rfl rfl (by rw [hR]; decide) (by rw [hR]; decide) rfl (Nat.le_of_ble_eq_true rfl) d_D_copy_2 (fun _ _ => ?_)
  refine g_wsq [co da 3 [.ref (q 0), .ref (q 1), .ref (q 3), .ref (q 7), .ref (q 12), .ref (q 17), .ref (q 18), .ref (q 19), .ref (q 20)], cr B (q 0) 8 (fun z9 => some (q (21 + 2 * z9))), co (q (21 + 2 * i)) 1 [.ref (q (22 + 2 * i)), .int (nI n)], cb B (q (22 + 2 * i)) 8192 f, co (q (21 + 2 * j)) 1 [.ref (q (22 + 2 * j)), .int (nI m)], cb B (q (22 + 2 * j)) 8192 g] rfl ?_
  refine g_astore_n (pc := 5) X (i := 3) d_D_copy_5 rfl (by decide) ?_
  refine g_lv [(0, .ref da), (1, .int (nI i)), (2, .int (nI j)), (3, .ref (q (21 + 2 * i)))] rfl ?_
  refine g_aload_n (pc := 6) X (i := 0) d_D_copy_6 rfl rfl ?_
  refine g_iload_n (pc := 7) X (i := 2) d_D_copy_7 rfl rfl ?_
  refine g_callVr (pc := 8) (q0 := 0) X (c_D_slotAt (m_l M) B da q j (by omega)) wd_236 wd_238 wp_D_slotAt wd_1 wd_239 hd_D_slotAt [0, 1] rfl rfl [da, q 0] (fun _ => rfl) rfl rfl rfl (by rw [hR]; decide) (by rw [hR]; decide) rfl (Nat.le_of_ble_eq_true rfl) d_D_copy_8 (fun _ _ => ?_)
  refine g_wsq [co da 3 [.ref (q 0), .ref (q 1), .ref (q 3), .ref (q 7), .ref (q 12), .ref (q 17), .ref (q 18), .ref (q 19), .ref (q 20)], cr B (q 0) 8 (fun z9 => some (q (21 + 2 * z9))), co (q (21 + 2 * i)) 1 [.ref (q (22 + 2 * i)), .int (nI n)], cb B (q (22 + 2 * i)) 8192 f, co (q (21 + 2 * j)) 1 [.ref (q (22 + 2 * j)), .int (nI m)], cb B (q (22 + 2 * j)) 8192 g] rfl ?_
  refine g_astore (pc := 11) X d_D_copy_11 (by decide) ?_
  refine g_lv [(0, .ref da), (1, .int (nI i)), (2, .int (nI j)), (3, .ref (q (21 + 2 * i))), (4, .ref (q (21 + 2 * j)))] rfl ?_
  refine g_aload (pc := 13) X d_D_copy_13 rfl ?_
  refine g_aload_n (pc := 15) X (i := 3) d_D_copy_15 rfl rfl ?_
  refine g_aload_n (pc := 16) X (i := 3) d_D_copy_16 rfl rfl ?_
  refine g_getN (pc := 17) X in_Y 2 rfl rfl 1 (by decide) wn_2 rfl d_D_copy_17 ?_
  refine g_callVNv (pc := 20) (q0 := 4) X (c_Y_take (m_l M) B (q (21 + 2 * j)) (q (22 + 2 * j)) m (q (21 + 2 * i)) (q (22 + 2 * i)) n n g f (by omega)) wn_8 wd_262 wp_Y_take wd_2 wd_263 hd_Y_take [4, 5, 2, 3] rfl rfl [q (21 + 2 * j), q (22 + 2 * j), q (21 + 2 * i), q (22 + 2 * i)] (fun _ => rfl) rfl rfl rfl (by rw [hR]; decide) (by rw [hR]; decide) rfl (Nat.le_of_ble_eq_true rfl) d_D_copy_20 (fun _ _ => ?_)
  refine g_wsq [co da 3 [.ref (q 0), .ref (q 1), .ref (q 3), .ref (q 7), .ref (q 12), .ref (q 17), .ref (q 18), .ref (q 19), .ref (q 20)], cr B (q 0) 8 (fun z9 => some (q (21 + 2 * z9))), co (q (21 + 2 * i)) 1 [.ref (q (22 + 2 * i)), .int (nI n)], cb B (q (22 + 2 * i)) 8192 f, co (q (21 + 2 * j)) 1 [.ref (q (22 + 2 * j)), .int (nI n)], cb B (q (22 + 2 * j)) 8192 (va_cpy f g 0 0 n)] rfl ?_
  refine g_aload (pc := 23) X d_D_copy_23 rfl ?_
  refine g_getN (pc := 25) X in_Y 4 rfl rfl 1 (by decide) wn_2 rfl d_D_copy_25 ?_
  exact kret _ () _ 28 rfl d_D_copy_28

theorem c_D_copy_self (l : Launch) (B : Bx) (da : Nat) (q : Nat → Nat) (i : Nat) (n : Nat) (f : Nat → Int8) (h1 : i < 8) (h3 : n ≤ 8192) : Ci (S := Unit) l B y_D_copy b_D_copy 5 .int (Rm 4 0 0) [.ref da, .int (nI i), .int (nI i)] [co da 3 [.ref (q 0), .ref (q 1), .ref (q 3), .ref (q 7), .ref (q 12), .ref (q 17), .ref (q 18), .ref (q 19), .ref (q 20)], cr B (q 0) 8 (fun z9 => some (q (21 + 2 * z9))), co (q (21 + 2 * i)) 1 [.ref (q (22 + 2 * i)), .int (nI n)], cb B (q (22 + 2 * i)) 8192 f] (fun r _ => r = nI n) (fun _ => [co da 3 [.ref (q 0), .ref (q 1), .ref (q 3), .ref (q 7), .ref (q 12), .ref (q 17), .ref (q 18), .ref (q 19), .ref (q 20)], cr B (q 0) 8 (fun z9 => some (q (21 + 2 * z9))), co (q (21 + 2 * i)) 1 [.ref (q (22 + 2 * i)), .int (nI n)], cb B (q (22 + 2 * i)) 8192 (va_cpy f f 0 0 n)]) := by
  refine ctr_i (by decide) (Nat.le_of_ble_eq_true rfl) ?_
  intro M Q hl hR hin X kret
  subst hl
  refine g_lv [(0, .ref da), (1, .int (nI i)), (2, .int (nI i))] rfl ?_
  refine g_aload_n (pc := 0) X (i := 0) d_D_copy_0 rfl rfl ?_
  refine g_iload_n (pc := 1) X (i := 1) d_D_copy_1 rfl rfl ?_
  refine g_callVr (pc := 2) (q0 := 0) X (c_D_slotAt (m_l M) B da q i (by omega)) wd_236 wd_238 wp_D_slotAt wd_1 wd_239 hd_D_slotAt [0, 1] rfl rfl [da, q 0] (fun _ => rfl) rfl rfl rfl (by rw [hR]; decide) (by rw [hR]; decide) rfl (Nat.le_of_ble_eq_true rfl) d_D_copy_2 (fun _ _ => ?_)
  refine g_wsq [co da 3 [.ref (q 0), .ref (q 1), .ref (q 3), .ref (q 7), .ref (q 12), .ref (q 17), .ref (q 18), .ref (q 19), .ref (q 20)], cr B (q 0) 8 (fun z9 => some (q (21 + 2 * z9))), co (q (21 + 2 * i)) 1 [.ref (q (22 + 2 * i)), .int (nI n)], cb B (q (22 + 2 * i)) 8192 f] rfl ?_
  refine g_astore_n (pc := 5) X (i := 3) d_D_copy_5 rfl (by decide) ?_
  refine g_lv [(0, .ref da), (1, .int (nI i)), (2, .int (nI i)), (3, .ref (q (21 + 2 * i)))] rfl ?_
  refine g_aload_n (pc := 6) X (i := 0) d_D_copy_6 rfl rfl ?_
  refine g_iload_n (pc := 7) X (i := 2) d_D_copy_7 rfl rfl ?_
  refine g_callVr (pc := 8) (q0 := 0) X (c_D_slotAt (m_l M) B da q i (by omega)) wd_236 wd_238 wp_D_slotAt wd_1 wd_239 hd_D_slotAt [0, 1] rfl rfl [da, q 0] (fun _ => rfl) rfl rfl rfl (by rw [hR]; decide) (by rw [hR]; decide) rfl (Nat.le_of_ble_eq_true rfl) d_D_copy_8 (fun _ _ => ?_)
  refine g_wsq [co da 3 [.ref (q 0), .ref (q 1), .ref (q 3), .ref (q 7), .ref (q 12), .ref (q 17), .ref (q 18), .ref (q 19), .ref (q 20)], cr B (q 0) 8 (fun z9 => some (q (21 + 2 * z9))), co (q (21 + 2 * i)) 1 [.ref (q (22 + 2 * i)), .int (nI n)], cb B (q (22 + 2 * i)) 8192 f] rfl ?_
  refine g_astore (pc := 11) X d_D_copy_11 (by decide) ?_
  refine g_lv [(0, .ref da), (1, .int (nI i)), (2, .int (nI i)), (3, .ref (q (21 + 2 * i))), (4, .ref (q (21 + 2 * i)))] rfl ?_
  refine g_aload (pc := 13) X d_D_copy_13 rfl ?_
  refine g_aload_n (pc := 15) X (i := 3) d_D_copy_15 rfl rfl ?_
  refine g_aload_n (pc := 16) X (i := 3) d_D_copy_16 rfl rfl ?_
  refine g_getN (pc := 17) X in_Y 2 rfl rfl 1 (by decide) wn_2 rfl d_D_copy_17 ?_
  refine g_callVNv (pc := 20) (q0 := 2) X (c_Y_take_self (m_l M) B (q (21 + 2 * i)) (q (22 + 2 * i)) n n f (by omega)) wn_8 wd_262 wp_Y_take wd_2 wd_263 hd_Y_take [2, 3] rfl rfl [q (21 + 2 * i), q (22 + 2 * i)] (fun _ => rfl) rfl rfl rfl (by rw [hR]; decide) (by rw [hR]; decide) rfl (Nat.le_of_ble_eq_true rfl) d_D_copy_20 (fun _ _ => ?_)
  refine g_wsq [co da 3 [.ref (q 0), .ref (q 1), .ref (q 3), .ref (q 7), .ref (q 12), .ref (q 17), .ref (q 18), .ref (q 19), .ref (q 20)], cr B (q 0) 8 (fun z9 => some (q (21 + 2 * z9))), co (q (21 + 2 * i)) 1 [.ref (q (22 + 2 * i)), .int (nI n)], cb B (q (22 + 2 * i)) 8192 (va_cpy f f 0 0 n)] rfl ?_
  refine g_aload (pc := 23) X d_D_copy_23 rfl ?_
  refine g_getN (pc := 25) X in_Y 2 rfl rfl 1 (by decide) wn_2 rfl d_D_copy_25 ?_
  exact kret _ () _ 28 rfl d_D_copy_28

theorem c_D_resize (l : Launch) (B : Bx) (da : Nat) (q : Nat → Nat) (i : Nat) (m : Nat) (n : Nat) (f : Nat → Int8) (h1 : i < 8) (h2 : n ≤ 8192) (h3 : m ≤ 8192) : Ci (S := Unit) l B y_D_resize b_D_resize 5 .int (Rm 4 0 0) [.ref da, .int (nI i), .int (nI n)] [co da 3 [.ref (q 0), .ref (q 1), .ref (q 3), .ref (q 7), .ref (q 12), .ref (q 17), .ref (q 18), .ref (q 19), .ref (q 20)], cr B (q 0) 8 (fun z9 => some (q (21 + 2 * z9))), co (q (21 + 2 * i)) 1 [.ref (q (22 + 2 * i)), .int (nI m)], cb B (q (22 + 2 * i)) 8192 f] (fun r _ => r = nI m) (fun _ => [co da 3 [.ref (q 0), .ref (q 1), .ref (q 3), .ref (q 7), .ref (q 12), .ref (q 17), .ref (q 18), .ref (q 19), .ref (q 20)], cr B (q 0) 8 (fun z9 => some (q (21 + 2 * z9))), co (q (21 + 2 * i)) 1 [.ref (q (22 + 2 * i)), .int (nI n)], cb B (q (22 + 2 * i)) 8192 (if m < n then fil f m n (nI 0).toInt8 else f)]) := by
  refine ctr_i (by decide) (Nat.le_of_ble_eq_true rfl) ?_
  intro M Q hl hR hin X kret
  subst hl
  refine g_lv [(0, .ref da), (1, .int (nI i)), (2, .int (nI n))] rfl ?_
  refine g_aload_n (pc := 0) X (i := 0) d_D_resize_0 rfl rfl ?_
  refine g_iload_n (pc := 1) X (i := 1) d_D_resize_1 rfl rfl ?_
  refine g_callVr (pc := 2) (q0 := 0) X (c_D_slotAt (m_l M) B da q i (by omega)) wd_236 wd_238 wp_D_slotAt wd_1 wd_239 hd_D_slotAt [0, 1] rfl rfl [da, q 0] (fun _ => rfl) rfl rfl rfl (by rw [hR]; decide) (by rw [hR]; decide) rfl (Nat.le_of_ble_eq_true rfl) d_D_resize_2 (fun _ _ => ?_)
  refine g_wsq [co da 3 [.ref (q 0), .ref (q 1), .ref (q 3), .ref (q 7), .ref (q 12), .ref (q 17), .ref (q 18), .ref (q 19), .ref (q 20)], cr B (q 0) 8 (fun z9 => some (q (21 + 2 * z9))), co (q (21 + 2 * i)) 1 [.ref (q (22 + 2 * i)), .int (nI m)], cb B (q (22 + 2 * i)) 8192 f] rfl ?_
  refine g_astore_n (pc := 5) X (i := 3) d_D_resize_5 rfl (by decide) ?_
  refine g_lv [(0, .ref da), (1, .int (nI i)), (2, .int (nI n)), (3, .ref (q (21 + 2 * i)))] rfl ?_
  refine g_iload_n (pc := 6) X (i := 2) d_D_resize_6 rfl rfl ?_
  refine g_iconst (pc := 7) X (v := nI 0) d_D_resize_7 (by decide) ?_
  refine g_sipush (pc := 8) X (v := nI 8192) d_D_resize_8 (by decide) ?_
  refine g_callSv (pc := 11) X (c_D_requireWithin (m_l M) B n 0 8192 (by omega) (by omega) (by omega)) wd_240 wd_241 wd_1 wd_242 hd_D_requireWithin [] rfl rfl [] (fun _ => rfl) rfl (by rw [hR]; decide) (by rw [hR]; decide) rfl (Nat.le_of_ble_eq_true rfl) d_D_resize_11 (fun _ _ => ?_)
  refine g_wsq [co da 3 [.ref (q 0), .ref (q 1), .ref (q 3), .ref (q 7), .ref (q 12), .ref (q 17), .ref (q 18), .ref (q 19), .ref (q 20)], cr B (q 0) 8 (fun z9 => some (q (21 + 2 * z9))), co (q (21 + 2 * i)) 1 [.ref (q (22 + 2 * i)), .int (nI m)], cb B (q (22 + 2 * i)) 8192 f] rfl ?_
  refine g_aload_n (pc := 14) X (i := 3) d_D_resize_14 rfl rfl ?_
  refine g_getN (pc := 15) X in_Y 2 rfl rfl 1 (by decide) wn_2 rfl d_D_resize_15 ?_
  refine g_istore (pc := 18) X d_D_resize_18 (by decide) ?_
  refine g_lv [(0, .ref da), (1, .int (nI i)), (2, .int (nI n)), (3, .ref (q (21 + 2 * i))), (4, .int (nI m))] rfl ?_
  refine g_aload_n (pc := 20) X (i := 3) d_D_resize_20 rfl rfl ?_
  refine g_iload_n (pc := 21) X (i := 2) d_D_resize_21 rfl rfl ?_
  refine g_callVNv (pc := 22) (q0 := 2) X (c_Y_cutOrFill (m_l M) B (q (21 + 2 * i)) (q (22 + 2 * i)) m n f (by omega) (by omega)) wn_9 wd_283 wp_Y_cutOrFill wd_2 wd_284 hd_Y_cutOrFill [2, 3] rfl rfl [q (21 + 2 * i), q (22 + 2 * i)] (fun _ => rfl) rfl rfl rfl (by rw [hR]; decide) (by rw [hR]; decide) rfl (Nat.le_of_ble_eq_true rfl) d_D_resize_22 (fun _ _ => ?_)
  refine g_wsq [co da 3 [.ref (q 0), .ref (q 1), .ref (q 3), .ref (q 7), .ref (q 12), .ref (q 17), .ref (q 18), .ref (q 19), .ref (q 20)], cr B (q 0) 8 (fun z9 => some (q (21 + 2 * z9))), co (q (21 + 2 * i)) 1 [.ref (q (22 + 2 * i)), .int (nI n)], cb B (q (22 + 2 * i)) 8192 (if m < n then fil f m n (nI 0).toInt8 else f)] rfl ?_
  refine g_iload (pc := 25) X d_D_resize_25 rfl ?_
  exact kret _ () _ 27 rfl d_D_resize_27

theorem c_D_alter (l : Launch) (B : Bx) (da : Nat) (q : Nat → Nat) (i : Nat) (m : Nat) (p : Nat) (v : Nat) (f : Nat → Int8) (h1 : i < 8) (h2 : p < m) (h3 : m ≤ 8192) (h4 : v ≤ 255) : Ci (S := Unit) l B y_D_alter b_D_alter 5 .int (Rm 4 0 0) [.ref da, .int (nI i), .int (nI p), .int (nI v)] [co da 3 [.ref (q 0), .ref (q 1), .ref (q 3), .ref (q 7), .ref (q 12), .ref (q 17), .ref (q 18), .ref (q 19), .ref (q 20)], cr B (q 0) 8 (fun z9 => some (q (21 + 2 * z9))), co (q (21 + 2 * i)) 1 [.ref (q (22 + 2 * i)), .int (nI m)], cb B (q (22 + 2 * i)) 8192 f] (fun r _ => r = (va_up f p ((f p).toInt32 ^^^ nI v).toInt8 p).toInt32 &&& nI 255) (fun _ => [co da 3 [.ref (q 0), .ref (q 1), .ref (q 3), .ref (q 7), .ref (q 12), .ref (q 17), .ref (q 18), .ref (q 19), .ref (q 20)], cr B (q 0) 8 (fun z9 => some (q (21 + 2 * z9))), co (q (21 + 2 * i)) 1 [.ref (q (22 + 2 * i)), .int (nI m)], cb B (q (22 + 2 * i)) 8192 (va_up f p ((f p).toInt32 ^^^ nI v).toInt8)]) := by
  refine ctr_i (by decide) (Nat.le_of_ble_eq_true rfl) ?_
  intro M Q hl hR hin X kret
  subst hl
  refine g_lv [(0, .ref da), (1, .int (nI i)), (2, .int (nI p)), (3, .int (nI v))] rfl ?_
  refine g_aload_n (pc := 0) X (i := 0) d_D_alter_0 rfl rfl ?_
  refine g_iload_n (pc := 1) X (i := 1) d_D_alter_1 rfl rfl ?_
  refine g_callVr (pc := 2) (q0 := 0) X (c_D_slotAt (m_l M) B da q i (by omega)) wd_236 wd_238 wp_D_slotAt wd_1 wd_239 hd_D_slotAt [0, 1] rfl rfl [da, q 0] (fun _ => rfl) rfl rfl rfl (by rw [hR]; decide) (by rw [hR]; decide) rfl (Nat.le_of_ble_eq_true rfl) d_D_alter_2 (fun _ _ => ?_)
  refine g_wsq [co da 3 [.ref (q 0), .ref (q 1), .ref (q 3), .ref (q 7), .ref (q 12), .ref (q 17), .ref (q 18), .ref (q 19), .ref (q 20)], cr B (q 0) 8 (fun z9 => some (q (21 + 2 * z9))), co (q (21 + 2 * i)) 1 [.ref (q (22 + 2 * i)), .int (nI m)], cb B (q (22 + 2 * i)) 8192 f] rfl ?_
  refine g_astore (pc := 5) X d_D_alter_5 (by decide) ?_
  refine g_lv [(0, .ref da), (1, .int (nI i)), (2, .int (nI p)), (3, .int (nI v)), (4, .ref (q (21 + 2 * i)))] rfl ?_
  refine g_iload_n (pc := 7) X (i := 3) d_D_alter_7 rfl rfl ?_
  refine g_iconst (pc := 8) X (v := nI 0) d_D_alter_8 (by decide) ?_
  refine g_sipush (pc := 9) X (v := nI 255) d_D_alter_9 (by decide) ?_
  refine g_callSv (pc := 12) X (c_D_requireWithin (m_l M) B v 0 255 (by omega) (by omega) (by omega)) wd_240 wd_241 wd_1 wd_242 hd_D_requireWithin [] rfl rfl [] (fun _ => rfl) rfl (by rw [hR]; decide) (by rw [hR]; decide) rfl (Nat.le_of_ble_eq_true rfl) d_D_alter_12 (fun _ _ => ?_)
  refine g_wsq [co da 3 [.ref (q 0), .ref (q 1), .ref (q 3), .ref (q 7), .ref (q 12), .ref (q 17), .ref (q 18), .ref (q 19), .ref (q 20)], cr B (q 0) 8 (fun z9 => some (q (21 + 2 * z9))), co (q (21 + 2 * i)) 1 [.ref (q (22 + 2 * i)), .int (nI m)], cb B (q (22 + 2 * i)) 8192 f] rfl ?_
  refine g_aload (pc := 15) X d_D_alter_15 rfl ?_
  refine g_iload_n (pc := 17) X (i := 2) d_D_alter_17 rfl rfl ?_
  refine g_callSv (pc := 18) X (c_D_requirePlace (m_l M) B (q (21 + 2 * i)) (q (22 + 2 * i)) m p (by omega) (by omega)) wd_557 wd_558 wd_1 wd_559 hd_D_requirePlace [2] rfl rfl [q (21 + 2 * i)] (fun _ => rfl) rfl (by rw [hR]; decide) (by rw [hR]; decide) rfl (Nat.le_of_ble_eq_true rfl) d_D_alter_18 (fun _ _ => ?_)
  refine g_wsq [co da 3 [.ref (q 0), .ref (q 1), .ref (q 3), .ref (q 7), .ref (q 12), .ref (q 17), .ref (q 18), .ref (q 19), .ref (q 20)], cr B (q 0) 8 (fun z9 => some (q (21 + 2 * z9))), co (q (21 + 2 * i)) 1 [.ref (q (22 + 2 * i)), .int (nI m)], cb B (q (22 + 2 * i)) 8192 f] rfl ?_
  refine g_aload (pc := 21) X d_D_alter_21 rfl ?_
  refine g_getN (pc := 23) X in_Y 2 rfl rfl 0 (by decide) wn_1 rfl d_D_alter_23 ?_
  refine g_iload_n (pc := 26) X (i := 2) d_D_alter_26 rfl rfl ?_
  refine g_aload (pc := 27) X d_D_alter_27 rfl ?_
  refine g_getN (pc := 29) X in_Y 2 rfl rfl 0 (by decide) wn_1 rfl d_D_alter_29 ?_
  refine g_iload_n (pc := 32) X (i := 2) d_D_alter_32 rfl rfl ?_
  refine g_bald (pc := 33) X 3 rfl p rfl (by omega) (by omega) d_D_alter_33 ?_
  refine g_iload_n (pc := 34) X (i := 3) d_D_alter_34 rfl rfl ?_
  refine g_ixor (pc := 35) X d_D_alter_35 ?_
  refine g_i2b (pc := 36) X d_D_alter_36 rfl ?_
  refine g_bastB (pc := 37) X 3 rfl p rfl (by omega) (by omega) d_D_alter_37 ?_
  refine g_wsq [co da 3 [.ref (q 0), .ref (q 1), .ref (q 3), .ref (q 7), .ref (q 12), .ref (q 17), .ref (q 18), .ref (q 19), .ref (q 20)], cr B (q 0) 8 (fun z9 => some (q (21 + 2 * z9))), co (q (21 + 2 * i)) 1 [.ref (q (22 + 2 * i)), .int (nI m)], cb B (q (22 + 2 * i)) 8192 (va_up f p ((((f p).toInt32) ^^^ (nI v)).toInt8))] rfl ?_
  refine g_aload (pc := 38) X d_D_alter_38 rfl ?_
  refine g_getN (pc := 40) X in_Y 2 rfl rfl 0 (by decide) wn_1 rfl d_D_alter_40 ?_
  refine g_iload_n (pc := 43) X (i := 2) d_D_alter_43 rfl rfl ?_
  refine g_bald (pc := 44) X 3 rfl p rfl (by omega) (by omega) d_D_alter_44 ?_
  refine g_sipush (pc := 45) X (v := nI 255) d_D_alter_45 (by decide) ?_
  refine g_iand (pc := 48) X d_D_alter_48 ?_
  exact kret _ () _ 49 rfl d_D_alter_49

theorem c_D_length (l : Launch) (B : Bx) (da : Nat) (q : Nat → Nat) (i : Nat) (m : Nat) (f : Nat → Int8) (h1 : i < 8) : Ci (S := Unit) l B y_D_length b_D_length 2 .int (Rm 4 0 0) [.ref da, .int (nI i)] [co da 3 [.ref (q 0), .ref (q 1), .ref (q 3), .ref (q 7), .ref (q 12), .ref (q 17), .ref (q 18), .ref (q 19), .ref (q 20)], cr B (q 0) 8 (fun z9 => some (q (21 + 2 * z9))), co (q (21 + 2 * i)) 1 [.ref (q (22 + 2 * i)), .int (nI m)], cb B (q (22 + 2 * i)) 8192 f] (fun r _ => r = nI m) (fun _ => [co da 3 [.ref (q 0), .ref (q 1), .ref (q 3), .ref (q 7), .ref (q 12), .ref (q 17), .ref (q 18), .ref (q 19), .ref (q 20)], cr B (q 0) 8 (fun z9 => some (q (21 + 2 * z9))), co (q (21 + 2 * i)) 1 [.ref (q (22 + 2 * i)), .int (nI m)], cb B (q (22 + 2 * i)) 8192 f]) := by
  refine ctr_i (by decide) (Nat.le_of_ble_eq_true rfl) ?_
  intro M Q hl hR hin X kret
  subst hl
  refine g_lv [(0, .ref da), (1, .int (nI i))] rfl ?_
  refine g_aload_n (pc := 0) X (i := 0) d_D_length_0 rfl rfl ?_
  refine g_iload_n (pc := 1) X (i := 1) d_D_length_1 rfl rfl ?_
  refine g_callVr (pc := 2) (q0 := 0) X (c_D_slotAt (m_l M) B da q i (by omega)) wd_236 wd_238 wp_D_slotAt wd_1 wd_239 hd_D_slotAt [0, 1] rfl rfl [da, q 0] (fun _ => rfl) rfl rfl rfl (by rw [hR]; decide) (by rw [hR]; decide) rfl (Nat.le_of_ble_eq_true rfl) d_D_length_2 (fun _ _ => ?_)
  refine g_wsq [co da 3 [.ref (q 0), .ref (q 1), .ref (q 3), .ref (q 7), .ref (q 12), .ref (q 17), .ref (q 18), .ref (q 19), .ref (q 20)], cr B (q 0) 8 (fun z9 => some (q (21 + 2 * z9))), co (q (21 + 2 * i)) 1 [.ref (q (22 + 2 * i)), .int (nI m)], cb B (q (22 + 2 * i)) 8192 f] rfl ?_
  refine g_getN (pc := 5) X in_Y 2 rfl rfl 1 (by decide) wn_2 rfl d_D_length_5 ?_
  exact kret _ () _ 8 rfl d_D_length_8

theorem c_D_word (l : Launch) (B : Bx) (da : Nat) (q : Nat → Nat) (i : Nat) (m : Nat) (p : Nat) (f : Nat → Int8) (h1 : i < 8) (h2 : p < m) (h3 : m ≤ 8192) : Cl (S := Unit) l B y_D_word b_D_word 4 (Rm 4 0 0) [.ref da, .int (nI i), .int (nI p)] [co da 3 [.ref (q 0), .ref (q 1), .ref (q 3), .ref (q 7), .ref (q 12), .ref (q 17), .ref (q 18), .ref (q 19), .ref (q 20)], cr B (q 0) 8 (fun z9 => some (q (21 + 2 * z9))), co (q (21 + 2 * i)) 1 [.ref (q (22 + 2 * i)), .int (nI m)], cb B (q (22 + 2 * i)) 8192 f] (fun r _ => r = it (eig f m p) 8 0) (fun _ => [co da 3 [.ref (q 0), .ref (q 1), .ref (q 3), .ref (q 7), .ref (q 12), .ref (q 17), .ref (q 18), .ref (q 19), .ref (q 20)], cr B (q 0) 8 (fun z9 => some (q (21 + 2 * z9))), co (q (21 + 2 * i)) 1 [.ref (q (22 + 2 * i)), .int (nI m)], cb B (q (22 + 2 * i)) 8192 f]) := by
  refine ctr_l (by decide) (Nat.le_of_ble_eq_true rfl) ?_
  intro M Q hl hR hin X kret
  subst hl
  refine g_lv [(0, .ref da), (1, .int (nI i)), (2, .int (nI p))] rfl ?_
  refine g_aload_n (pc := 0) X (i := 0) d_D_word_0 rfl rfl ?_
  refine g_iload_n (pc := 1) X (i := 1) d_D_word_1 rfl rfl ?_
  refine g_callVr (pc := 2) (q0 := 0) X (c_D_slotAt (m_l M) B da q i (by omega)) wd_236 wd_238 wp_D_slotAt wd_1 wd_239 hd_D_slotAt [0, 1] rfl rfl [da, q 0] (fun _ => rfl) rfl rfl rfl (by rw [hR]; decide) (by rw [hR]; decide) rfl (Nat.le_of_ble_eq_true rfl) d_D_word_2 (fun _ _ => ?_)
  refine g_wsq [co da 3 [.ref (q 0), .ref (q 1), .ref (q 3), .ref (q 7), .ref (q 12), .ref (q 17), .ref (q 18), .ref (q 19), .ref (q 20)], cr B (q 0) 8 (fun z9 => some (q (21 + 2 * z9))), co (q (21 + 2 * i)) 1 [.ref (q (22 + 2 * i)), .int (nI m)], cb B (q (22 + 2 * i)) 8192 f] rfl ?_
  refine g_astore_n (pc := 5) X (i := 3) d_D_word_5 rfl (by decide) ?_
  refine g_lv [(0, .ref da), (1, .int (nI i)), (2, .int (nI p)), (3, .ref (q (21 + 2 * i)))] rfl ?_
  refine g_aload_n (pc := 6) X (i := 3) d_D_word_6 rfl rfl ?_
  refine g_iload_n (pc := 7) X (i := 2) d_D_word_7 rfl rfl ?_
  refine g_callSv (pc := 8) X (c_D_requirePlace (m_l M) B (q (21 + 2 * i)) (q (22 + 2 * i)) m p (by omega) (by omega)) wd_557 wd_558 wd_1 wd_559 hd_D_requirePlace [2] rfl rfl [q (21 + 2 * i)] (fun _ => rfl) rfl (by rw [hR]; decide) (by rw [hR]; decide) rfl (Nat.le_of_ble_eq_true rfl) d_D_word_8 (fun _ _ => ?_)
  refine g_wsq [co da 3 [.ref (q 0), .ref (q 1), .ref (q 3), .ref (q 7), .ref (q 12), .ref (q 17), .ref (q 18), .ref (q 19), .ref (q 20)], cr B (q 0) 8 (fun z9 => some (q (21 + 2 * z9))), co (q (21 + 2 * i)) 1 [.ref (q (22 + 2 * i)), .int (nI m)], cb B (q (22 + 2 * i)) 8192 f] rfl ?_
  refine g_aload_n (pc := 11) X (i := 3) d_D_word_11 rfl rfl ?_
  refine g_iload_n (pc := 12) X (i := 2) d_D_word_12 rfl rfl ?_
  refine g_callVNl (pc := 13) (q0 := 2) X (c_Y_eightFrom (m_l M) B (q (21 + 2 * i)) (q (22 + 2 * i)) m p f (by omega) (by omega)) wn_10 wd_577 wp_Y_eightFrom wd_2 wd_578 hd_Y_eightFrom [2, 3] rfl rfl [q (21 + 2 * i), q (22 + 2 * i)] (fun _ => rfl) rfl rfl rfl (by rw [hR]; decide) (by rw [hR]; decide) rfl (Nat.le_of_ble_eq_true rfl) d_D_word_13 (fun r9 _ hr9 => ?_)
  subst hr9
  refine g_wsq [co da 3 [.ref (q 0), .ref (q 1), .ref (q 3), .ref (q 7), .ref (q 12), .ref (q 17), .ref (q 18), .ref (q 19), .ref (q 20)], cr B (q 0) 8 (fun z9 => some (q (21 + 2 * z9))), co (q (21 + 2 * i)) 1 [.ref (q (22 + 2 * i)), .int (nI m)], cb B (q (22 + 2 * i)) 8192 f] rfl ?_
  exact kret _ () _ 16 rfl d_D_word_16

theorem c_D_same (l : Launch) (B : Bx) (da : Nat) (q : Nat → Nat) (i : Nat) (j : Nat) (n : Nat) (m : Nat) (f : Nat → Int8) (g : Nat → Int8) (h1 : i < 8) (h2 : j < 8) (h3 : n ≤ 8192) (h4 : m ≤ 8192) : Ci (S := Unit) l B y_D_same b_D_same 3 .boolean (Rm 4 0 0) [.ref da, .int (nI i), .int (nI j)] [co da 3 [.ref (q 0), .ref (q 1), .ref (q 3), .ref (q 7), .ref (q 12), .ref (q 17), .ref (q 18), .ref (q 19), .ref (q 20)], cr B (q 0) 8 (fun z9 => some (q (21 + 2 * z9))), co (q (21 + 2 * i)) 1 [.ref (q (22 + 2 * i)), .int (nI n)], cb B (q (22 + 2 * i)) 8192 f, co (q (21 + 2 * j)) 1 [.ref (q (22 + 2 * j)), .int (nI m)], cb B (q (22 + 2 * j)) 8192 g] (fun r _ => r = mtC f g n m) (fun _ => [co da 3 [.ref (q 0), .ref (q 1), .ref (q 3), .ref (q 7), .ref (q 12), .ref (q 17), .ref (q 18), .ref (q 19), .ref (q 20)], cr B (q 0) 8 (fun z9 => some (q (21 + 2 * z9))), co (q (21 + 2 * i)) 1 [.ref (q (22 + 2 * i)), .int (nI n)], cb B (q (22 + 2 * i)) 8192 f, co (q (21 + 2 * j)) 1 [.ref (q (22 + 2 * j)), .int (nI m)], cb B (q (22 + 2 * j)) 8192 g]) := by
  refine ctr_z (by decide) (Nat.le_of_ble_eq_true rfl) ?_
  intro M Q hl hR hin X kret
  subst hl
  refine g_lv [(0, .ref da), (1, .int (nI i)), (2, .int (nI j))] rfl ?_
  refine g_aload_n (pc := 0) X (i := 0) d_D_same_0 rfl rfl ?_
  refine g_iload_n (pc := 1) X (i := 1) d_D_same_1 rfl rfl ?_
  refine g_callVr (pc := 2) (q0 := 0) X (c_D_slotAt (m_l M) B da q i (by omega)) wd_236 wd_238 wp_D_slotAt wd_1 wd_239 hd_D_slotAt [0, 1] rfl rfl [da, q 0] (fun _ => rfl) rfl rfl rfl (by rw [hR]; decide) (by rw [hR]; decide) rfl (Nat.le_of_ble_eq_true rfl) d_D_same_2 (fun _ _ => ?_)
  refine g_wsq [co da 3 [.ref (q 0), .ref (q 1), .ref (q 3), .ref (q 7), .ref (q 12), .ref (q 17), .ref (q 18), .ref (q 19), .ref (q 20)], cr B (q 0) 8 (fun z9 => some (q (21 + 2 * z9))), co (q (21 + 2 * i)) 1 [.ref (q (22 + 2 * i)), .int (nI n)], cb B (q (22 + 2 * i)) 8192 f, co (q (21 + 2 * j)) 1 [.ref (q (22 + 2 * j)), .int (nI m)], cb B (q (22 + 2 * j)) 8192 g] rfl ?_
  refine g_aload_n (pc := 5) X (i := 0) d_D_same_5 rfl rfl ?_
  refine g_iload_n (pc := 6) X (i := 2) d_D_same_6 rfl rfl ?_
  refine g_callVr (pc := 7) (q0 := 0) X (c_D_slotAt (m_l M) B da q j (by omega)) wd_236 wd_238 wp_D_slotAt wd_1 wd_239 hd_D_slotAt [0, 1] rfl rfl [da, q 0] (fun _ => rfl) rfl rfl rfl (by rw [hR]; decide) (by rw [hR]; decide) rfl (Nat.le_of_ble_eq_true rfl) d_D_same_7 (fun _ _ => ?_)
  refine g_wsq [co da 3 [.ref (q 0), .ref (q 1), .ref (q 3), .ref (q 7), .ref (q 12), .ref (q 17), .ref (q 18), .ref (q 19), .ref (q 20)], cr B (q 0) 8 (fun z9 => some (q (21 + 2 * z9))), co (q (21 + 2 * i)) 1 [.ref (q (22 + 2 * i)), .int (nI n)], cb B (q (22 + 2 * i)) 8192 f, co (q (21 + 2 * j)) 1 [.ref (q (22 + 2 * j)), .int (nI m)], cb B (q (22 + 2 * j)) 8192 g] rfl ?_
  refine g_callVNi (pc := 10) (q0 := 2) X (c_Y_matches (m_l M) B (q (21 + 2 * i)) (q (22 + 2 * i)) n (q (21 + 2 * j)) (q (22 + 2 * j)) m f g (by omega) (by omega)) wn_11 wd_588 wp_Y_matches wd_2 wd_589 hd_Y_matches [2, 3, 4, 5] rfl rfl [q (21 + 2 * i), q (22 + 2 * i), q (21 + 2 * j), q (22 + 2 * j)] (fun _ => rfl) rfl rfl rfl (by rw [hR]; decide) (by rw [hR]; decide) rfl (Nat.le_of_ble_eq_true rfl) d_D_same_10 (fun r9 _ hr9 => ?_)
  subst hr9
  refine g_wsq [co da 3 [.ref (q 0), .ref (q 1), .ref (q 3), .ref (q 7), .ref (q 12), .ref (q 17), .ref (q 18), .ref (q 19), .ref (q 20)], cr B (q 0) 8 (fun z9 => some (q (21 + 2 * z9))), co (q (21 + 2 * i)) 1 [.ref (q (22 + 2 * i)), .int (nI n)], cb B (q (22 + 2 * i)) 8192 f, co (q (21 + 2 * j)) 1 [.ref (q (22 + 2 * j)), .int (nI m)], cb B (q (22 + 2 * j)) 8192 g] rfl ?_
  exact kret _ () _ 13 ⟨mtC_nz _ _ _ _, rfl⟩ d_D_same_13

theorem c_D_same_self (l : Launch) (B : Bx) (da : Nat) (q : Nat → Nat) (i : Nat) (n : Nat) (f : Nat → Int8) (h1 : i < 8) (h3 : n ≤ 8192) : Ci (S := Unit) l B y_D_same b_D_same 3 .boolean (Rm 4 0 0) [.ref da, .int (nI i), .int (nI i)] [co da 3 [.ref (q 0), .ref (q 1), .ref (q 3), .ref (q 7), .ref (q 12), .ref (q 17), .ref (q 18), .ref (q 19), .ref (q 20)], cr B (q 0) 8 (fun z9 => some (q (21 + 2 * z9))), co (q (21 + 2 * i)) 1 [.ref (q (22 + 2 * i)), .int (nI n)], cb B (q (22 + 2 * i)) 8192 f] (fun r _ => r = mtC f f n n) (fun _ => [co da 3 [.ref (q 0), .ref (q 1), .ref (q 3), .ref (q 7), .ref (q 12), .ref (q 17), .ref (q 18), .ref (q 19), .ref (q 20)], cr B (q 0) 8 (fun z9 => some (q (21 + 2 * z9))), co (q (21 + 2 * i)) 1 [.ref (q (22 + 2 * i)), .int (nI n)], cb B (q (22 + 2 * i)) 8192 f]) := by
  refine ctr_z (by decide) (Nat.le_of_ble_eq_true rfl) ?_
  intro M Q hl hR hin X kret
  subst hl
  refine g_lv [(0, .ref da), (1, .int (nI i)), (2, .int (nI i))] rfl ?_
  refine g_aload_n (pc := 0) X (i := 0) d_D_same_0 rfl rfl ?_
  refine g_iload_n (pc := 1) X (i := 1) d_D_same_1 rfl rfl ?_
  refine g_callVr (pc := 2) (q0 := 0) X (c_D_slotAt (m_l M) B da q i (by omega)) wd_236 wd_238 wp_D_slotAt wd_1 wd_239 hd_D_slotAt [0, 1] rfl rfl [da, q 0] (fun _ => rfl) rfl rfl rfl (by rw [hR]; decide) (by rw [hR]; decide) rfl (Nat.le_of_ble_eq_true rfl) d_D_same_2 (fun _ _ => ?_)
  refine g_wsq [co da 3 [.ref (q 0), .ref (q 1), .ref (q 3), .ref (q 7), .ref (q 12), .ref (q 17), .ref (q 18), .ref (q 19), .ref (q 20)], cr B (q 0) 8 (fun z9 => some (q (21 + 2 * z9))), co (q (21 + 2 * i)) 1 [.ref (q (22 + 2 * i)), .int (nI n)], cb B (q (22 + 2 * i)) 8192 f] rfl ?_
  refine g_aload_n (pc := 5) X (i := 0) d_D_same_5 rfl rfl ?_
  refine g_iload_n (pc := 6) X (i := 2) d_D_same_6 rfl rfl ?_
  refine g_callVr (pc := 7) (q0 := 0) X (c_D_slotAt (m_l M) B da q i (by omega)) wd_236 wd_238 wp_D_slotAt wd_1 wd_239 hd_D_slotAt [0, 1] rfl rfl [da, q 0] (fun _ => rfl) rfl rfl rfl (by rw [hR]; decide) (by rw [hR]; decide) rfl (Nat.le_of_ble_eq_true rfl) d_D_same_7 (fun _ _ => ?_)
  refine g_wsq [co da 3 [.ref (q 0), .ref (q 1), .ref (q 3), .ref (q 7), .ref (q 12), .ref (q 17), .ref (q 18), .ref (q 19), .ref (q 20)], cr B (q 0) 8 (fun z9 => some (q (21 + 2 * z9))), co (q (21 + 2 * i)) 1 [.ref (q (22 + 2 * i)), .int (nI n)], cb B (q (22 + 2 * i)) 8192 f] rfl ?_
  refine g_callVNi (pc := 10) (q0 := 2) X (c_Y_matches_self (m_l M) B (q (21 + 2 * i)) (q (22 + 2 * i)) n f (by omega)) wn_11 wd_588 wp_Y_matches wd_2 wd_589 hd_Y_matches [2, 3] rfl rfl [q (21 + 2 * i), q (22 + 2 * i)] (fun _ => rfl) rfl rfl rfl (by rw [hR]; decide) (by rw [hR]; decide) rfl (Nat.le_of_ble_eq_true rfl) d_D_same_10 (fun r9 _ hr9 => ?_)
  subst hr9
  refine g_wsq [co da 3 [.ref (q 0), .ref (q 1), .ref (q 3), .ref (q 7), .ref (q 12), .ref (q 17), .ref (q 18), .ref (q 19), .ref (q 20)], cr B (q 0) 8 (fun z9 => some (q (21 + 2 * z9))), co (q (21 + 2 * i)) 1 [.ref (q (22 + 2 * i)), .int (nI n)], cb B (q (22 + 2 * i)) 8192 f] rfl ?_
  exact kret _ () _ 13 ⟨mtC_nz _ _ _ _, rfl⟩ d_D_same_13
