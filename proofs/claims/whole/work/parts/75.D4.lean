theorem x_D_requireWithin (l : Launch) (B : Bx) (x : Int32) (lo : Int32) (hi : Int32) (hst : l.stackTraces = false) (h : inR x lo hi = nI 0) : Cx l B y_D_requireWithin b_D_requireWithin 3 none (Rm 6 1 6) [.int x, .int lo, .int hi] [] nIAE := by
  refine ctr_x hst (by decide) (Nat.le_of_ble_eq_true rfl) ?_
  intro M Q hl hR X kout kthr
  subst hl
  refine g_lv [(0, .int x), (1, .int lo), (2, .int hi)] rfl ?_
  refine g_iload_n (pc := 0) X (i := 0) d_D_requireWithin_0 rfl rfl ?_
  refine g_iload_n (pc := 1) X (i := 1) d_D_requireWithin_1 rfl rfl ?_
  refine g_icmp_lt (pc := 2) X (tgt := 10) d_D_requireWithin_2 (by decide) (fun h_2 => ?_) (fun h_2 => ?_)
  · exact kthr 2 144 148 10 0 0 _ _ (by decide) rfl (by decide) wd_243 wd_10 at_IAE an_IAE ag_IAE d_D_requireWithin_10 d_D_requireWithin_13 d_D_requireWithin_14 d_D_requireWithin_16 d_D_requireWithin_19 (by decide) (Nat.le_of_ble_eq_true rfl) (by decide) (by decide)
  · refine g_iload_n (pc := 5) X (i := 0) d_D_requireWithin_5 rfl rfl ?_
    refine g_iload_n (pc := 6) X (i := 2) d_D_requireWithin_6 rfl rfl ?_
    refine g_icmp_le (pc := 7) X (tgt := 20) d_D_requireWithin_7 (by decide) (fun hz => absurd hz (inR_n2 h (by assumption))) (fun hz => ?_)
    exact kthr 2 144 148 10 0 0 _ _ (by decide) rfl (by decide) wd_243 wd_10 at_IAE an_IAE ag_IAE d_D_requireWithin_10 d_D_requireWithin_13 d_D_requireWithin_14 d_D_requireWithin_16 d_D_requireWithin_19 (by decide) (Nat.le_of_ble_eq_true rfl) (by decide) (by decide)

theorem x_D_requirePlace (l : Launch) (B : Bx) (y : Nat) (d : Nat) (n : Nat) (p : Int32) (hst : l.stackTraces = false) (h : inR p (nI 0) (nI n - nI 1) = nI 0) (h2 : n ≤ 8192) : Cx l B y_D_requirePlace b_D_requirePlace 2 none (Rm 6 1 6) [.ref y, .int p] [co y 1 [.ref d, .int (nI n)]] nIOO := by
  refine ctr_x hst (by decide) (Nat.le_of_ble_eq_true rfl) ?_
  intro M Q hl hR X kout kthr
  subst hl
  refine g_lv [(0, .ref y), (1, .int p)] rfl ?_
  refine g_iload_n (pc := 0) X (i := 1) d_D_requirePlace_0 rfl rfl ?_
  refine g_if_lt (pc := 1) X (tgt := 12) d_D_requirePlace_1 (by decide) (fun h_1 => ?_) (fun h_1 => ?_)
  · exact kthr 3 69 73 12 0 0 _ _ (by decide) rfl (by decide) wd_157 wd_9 at_IOO an_IOO ag_IOO d_D_requirePlace_12 d_D_requirePlace_15 d_D_requirePlace_16 d_D_requirePlace_18 d_D_requirePlace_21 (by decide) (Nat.le_of_ble_eq_true rfl) (by decide) (by decide)
  · refine g_iload_n (pc := 4) X (i := 1) d_D_requirePlace_4 rfl rfl ?_
    refine g_aload_n (pc := 5) X (i := 0) d_D_requirePlace_5 rfl rfl ?_
    refine g_getN (pc := 6) X in_Y 0 rfl rfl 1 (by decide) wn_2 rfl d_D_requirePlace_6 ?_
    refine g_icmp_lt (pc := 9) X (tgt := 22) d_D_requirePlace_9 (by decide) (fun hz => absurd hz (inR_pl h h2 (by assumption))) (fun hz => ?_)
    exact kthr 3 69 73 12 0 0 _ _ (by decide) rfl (by decide) wd_157 wd_9 at_IOO an_IOO ag_IOO d_D_requirePlace_12 d_D_requirePlace_15 d_D_requirePlace_16 d_D_requirePlace_18 d_D_requirePlace_21 (by decide) (Nat.le_of_ble_eq_true rfl) (by decide) (by decide)

theorem x_D_slotAt (l : Launch) (B : Bx) (da : Nat) (q : Nat → Nat) (x : Int32) (hst : l.stackTraces = false) (h : inR x (nI 0) (nI 7) = nI 0) : Cx l B y_D_slotAt b_D_slotAt 2 (some (.object "SpongeDigests$Bytes")) (Rm 7 1 6) [.ref da, .int x] [co da 3 [.ref (q 0), .ref (q 1), .ref (q 3), .ref (q 7), .ref (q 12), .ref (q 17), .ref (q 18), .ref (q 19), .ref (q 20)], cr B (q 0) 8 (fun z9 => some (q (21 + 2 * z9)))] nIAE := by
  refine ctr_x hst (by decide) (Nat.le_of_ble_eq_true rfl) ?_
  intro M Q hl hR X kout kthr
  subst hl
  refine g_lv [(0, .ref da), (1, .int x)] rfl ?_
  refine g_iload_n (pc := 0) X (i := 1) d_D_slotAt_0 rfl rfl ?_
  refine g_iconst (pc := 1) X (v := nI 0) d_D_slotAt_1 (by decide) ?_
  refine g_bipush (pc := 2) X (v := nI 7) d_D_slotAt_2 (by decide) ?_
  refine g_callSx (pc := 4) X (x_D_requireWithin (m_l M) B x (nI 0) (nI 7) hst h) wd_240 wd_241 wd_1 wd_242 hd_D_requireWithin [] rfl rfl (by rw [hR]; decide) (by rw [hR]; decide) rfl (Nat.le_of_ble_eq_true rfl) d_D_slotAt_4 ?_
  exact kout _ _ _ _ _ (by decide) (by decide)

theorem x_D_feed (l : Launch) (B : Bx) (da : Nat) (q : Nat → Nat) (n : Nat) (f : Nat → Int8) (p0 : Int32) (p1 : Int32) (p2 : Int32) (p3 : Int32) (p4 : Int32) (hst : l.stackTraces = false) (h1 : 8192 < n + 20) (h2 : n ≤ 8192) : Cx l B y_D_feed b_D_feed 6 (some .int) (Rm 8 1 6) [.ref da, .int p0, .int p1, .int p2, .int p3, .int p4] [co da 3 [.ref (q 0), .ref (q 1), .ref (q 3), .ref (q 7), .ref (q 12), .ref (q 17), .ref (q 18), .ref (q 19), .ref (q 20)], co (q 1) 1 [.ref (q 2), .int (nI n)], cb B (q 2) 8192 f] nIOO := by
  refine ctr_x hst (by decide) (Nat.le_of_ble_eq_true rfl) ?_
  intro M Q hl hR X kout kthr
  subst hl
  refine g_lv [(0, .ref da), (1, .int p0), (2, .int p1), (3, .int p2), (4, .int p3), (5, .int p4)] rfl ?_
  refine g_aload_n (pc := 0) X (i := 0) d_D_feed_0 rfl rfl ?_
  refine g_get (pc := 1) X in_D 0 rfl rfl 1 (by decide) wd_122 rfl d_D_feed_1 ?_
  refine g_getN (pc := 4) X in_Y 1 rfl rfl 1 (by decide) wn_2 rfl d_D_feed_4 ?_
  refine g_sipush (pc := 7) X (v := nI 8172) d_D_feed_7 (by decide) ?_
  refine g_icmp_leN (pc := 10) X (tgt := 23) d_D_feed_10 (by decide) (by omega) (by omega) (fun h_10 => absurd h_10 (by omega)) (fun h_10 => ?_)
  exact kthr 0 69 73 13 0 0 _ _ (by decide) rfl (by decide) wd_157 wd_9 at_IOO an_IOO ag_IOO d_D_feed_13 d_D_feed_16 d_D_feed_17 d_D_feed_19 d_D_feed_22 (by decide) (Nat.le_of_ble_eq_true rfl) (by decide) (by decide)

theorem x_D_end_1 (l : Launch) (B : Bx) (da : Nat) (q : Nat → Nat) (x : Int32) (y : Int32) (hst : l.stackTraces = false) (h : inR x (nI 0) (nI 7) = nI 0) : Cx l B y_D_end b_D_end 4 (some .int) (Rm 8 1 6) [.ref da, .int x, .int y] [co da 3 [.ref (q 0), .ref (q 1), .ref (q 3), .ref (q 7), .ref (q 12), .ref (q 17), .ref (q 18), .ref (q 19), .ref (q 20)], cr B (q 0) 8 (fun z9 => some (q (21 + 2 * z9)))] nIAE := by
  refine ctr_x hst (by decide) (Nat.le_of_ble_eq_true rfl) ?_
  intro M Q hl hR X kout kthr
  subst hl
  refine g_lv [(0, .ref da), (1, .int x), (2, .int y)] rfl ?_
  refine g_aload_n (pc := 0) X (i := 0) d_D_end_0 rfl rfl ?_
  refine g_iload_n (pc := 1) X (i := 1) d_D_end_1 rfl rfl ?_
  refine g_callVx (pc := 2) (q0 := 0) X (x_D_slotAt (m_l M) B da q x hst h) wd_236 wd_238 wp_D_slotAt wd_1 wd_239 hd_D_slotAt [0, 1] rfl rfl rfl rfl (by rw [hR]; decide) (by rw [hR]; decide) rfl (Nat.le_of_ble_eq_true rfl) d_D_end_2 ?_
  exact kout _ _ _ _ _ (by decide) (by decide)

theorem x_D_end_2 (l : Launch) (B : Bx) (da : Nat) (q : Nat → Nat) (i : Nat) (y : Int32) (hst : l.stackTraces = false) (h1 : i < 8) (h : inR y (nI 0) (nI 8192) = nI 0) : Cx l B y_D_end b_D_end 4 (some .int) (Rm 8 1 6) [.ref da, .int (nI i), .int y] [co da 3 [.ref (q 0), .ref (q 1), .ref (q 3), .ref (q 7), .ref (q 12), .ref (q 17), .ref (q 18), .ref (q 19), .ref (q 20)], cr B (q 0) 8 (fun z9 => some (q (21 + 2 * z9)))] nIAE := by
  refine ctr_x hst (by decide) (Nat.le_of_ble_eq_true rfl) ?_
  intro M Q hl hR X kout kthr
  subst hl
  refine g_lv [(0, .ref da), (1, .int (nI i)), (2, .int y)] rfl ?_
  refine g_aload_n (pc := 0) X (i := 0) d_D_end_0 rfl rfl ?_
  refine g_iload_n (pc := 1) X (i := 1) d_D_end_1 rfl rfl ?_
  refine g_callVr (pc := 2) (q0 := 0) X (c_D_slotAt (m_l M) B da q i (by omega)) wd_236 wd_238 wp_D_slotAt wd_1 wd_239 hd_D_slotAt [0, 1] rfl rfl [da, q 0] (fun _ => rfl) rfl rfl rfl (by rw [hR]; decide) (by rw [hR]; decide) rfl (Nat.le_of_ble_eq_true rfl) d_D_end_2 (fun _ _ => ?_)
  refine g_wsq [co da 3 [.ref (q 0), .ref (q 1), .ref (q 3), .ref (q 7), .ref (q 12), .ref (q 17), .ref (q 18), .ref (q 19), .ref (q 20)], cr B (q 0) 8 (fun z9 => some (q (21 + 2 * z9)))] rfl ?_
  refine g_astore_n (pc := 5) X (i := 3) d_D_end_5 rfl (by decide) ?_
  refine g_lv [(0, .ref da), (1, .int (nI i)), (2, .int y), (3, .ref (q (21 + 2 * i)))] rfl ?_
  refine g_iload_n (pc := 6) X (i := 2) d_D_end_6 rfl rfl ?_
  refine g_iconst (pc := 7) X (v := nI 0) d_D_end_7 (by decide) ?_
  refine g_sipush (pc := 8) X (v := nI 8192) d_D_end_8 (by decide) ?_
  refine g_callSx (pc := 11) X (x_D_requireWithin (m_l M) B y (nI 0) (nI 8192) hst h) wd_240 wd_241 wd_1 wd_242 hd_D_requireWithin [] rfl rfl (by rw [hR]; decide) (by rw [hR]; decide) rfl (Nat.le_of_ble_eq_true rfl) d_D_end_11 ?_
  exact kout _ _ _ _ _ (by decide) (by decide)

theorem x_D_end_3 (l : Launch) (B : Bx) (da : Nat) (q : Nat → Nat) (i : Nat) (n : Nat) (t : Nat) (f : Nat → Int8) (hst : l.stackTraces = false) (h1 : i < 8) (h2 : n ≤ 8192) (h3 : t < n) : Cx l B y_D_end b_D_end 4 (some .int) (Rm 8 1 6) [.ref da, .int (nI i), .int (nI n)] [co da 3 [.ref (q 0), .ref (q 1), .ref (q 3), .ref (q 7), .ref (q 12), .ref (q 17), .ref (q 18), .ref (q 19), .ref (q 20)], cr B (q 0) 8 (fun z9 => some (q (21 + 2 * z9))), co (q 1) 1 [.ref (q 2), .int (nI t)], cb B (q 2) 8192 f] nIOO := by
  refine ctr_x hst (by decide) (Nat.le_of_ble_eq_true rfl) ?_
  intro M Q hl hR X kout kthr
  subst hl
  refine g_lv [(0, .ref da), (1, .int (nI i)), (2, .int (nI n))] rfl ?_
  refine g_aload_n (pc := 0) X (i := 0) d_D_end_0 rfl rfl ?_
  refine g_iload_n (pc := 1) X (i := 1) d_D_end_1 rfl rfl ?_
  refine g_callVr (pc := 2) (q0 := 0) X (c_D_slotAt (m_l M) B da q i (by omega)) wd_236 wd_238 wp_D_slotAt wd_1 wd_239 hd_D_slotAt [0, 1] rfl rfl [da, q 0] (fun _ => rfl) rfl rfl rfl (by rw [hR]; decide) (by rw [hR]; decide) rfl (Nat.le_of_ble_eq_true rfl) d_D_end_2 (fun _ _ => ?_)
  refine g_wsq [co da 3 [.ref (q 0), .ref (q 1), .ref (q 3), .ref (q 7), .ref (q 12), .ref (q 17), .ref (q 18), .ref (q 19), .ref (q 20)], cr B (q 0) 8 (fun z9 => some (q (21 + 2 * z9))), co (q 1) 1 [.ref (q 2), .int (nI t)], cb B (q 2) 8192 f] rfl ?_
  refine g_astore_n (pc := 5) X (i := 3) d_D_end_5 rfl (by decide) ?_
  refine g_lv [(0, .ref da), (1, .int (nI i)), (2, .int (nI n)), (3, .ref (q (21 + 2 * i)))] rfl ?_
  refine g_iload_n (pc := 6) X (i := 2) d_D_end_6 rfl rfl ?_
  refine g_iconst (pc := 7) X (v := nI 0) d_D_end_7 (by decide) ?_
  refine g_sipush (pc := 8) X (v := nI 8192) d_D_end_8 (by decide) ?_
  refine g_callSv (pc := 11) X (c_D_requireWithin (m_l M) B n 0 8192 (by omega) (by omega) (by omega)) wd_240 wd_241 wd_1 wd_242 hd_D_requireWithin [] rfl rfl [] (fun _ => rfl) rfl (by rw [hR]; decide) (by rw [hR]; decide) rfl (Nat.le_of_ble_eq_true rfl) d_D_end_11 (fun _ _ => ?_)
  refine g_wsq [co da 3 [.ref (q 0), .ref (q 1), .ref (q 3), .ref (q 7), .ref (q 12), .ref (q 17), .ref (q 18), .ref (q 19), .ref (q 20)], cr B (q 0) 8 (fun z9 => some (q (21 + 2 * z9))), co (q 1) 1 [.ref (q 2), .int (nI t)], cb B (q 2) 8192 f] rfl ?_
  refine g_aload_n (pc := 14) X (i := 0) d_D_end_14 rfl rfl ?_
  refine g_get (pc := 15) X in_D 0 rfl rfl 1 (by decide) wd_122 rfl d_D_end_15 ?_
  refine g_getN (pc := 18) X in_Y 2 rfl rfl 1 (by decide) wn_2 rfl d_D_end_18 ?_
  refine g_iload_n (pc := 21) X (i := 2) d_D_end_21 rfl rfl ?_
  refine g_icmp_geN (pc := 22) X (tgt := 35) d_D_end_22 (by decide) (by omega) (by omega) (fun h_22 => absurd h_22 (by omega)) (fun h_22 => ?_)
  exact kthr 1 69 73 25 0 0 _ _ (by decide) rfl (by decide) wd_157 wd_9 at_IOO an_IOO ag_IOO d_D_end_25 d_D_end_28 d_D_end_29 d_D_end_31 d_D_end_34 (by decide) (Nat.le_of_ble_eq_true rfl) (by decide) (by decide)

theorem x_D_copy_1 (l : Launch) (B : Bx) (da : Nat) (q : Nat → Nat) (x : Int32) (y : Int32) (hst : l.stackTraces = false) (h : inR x (nI 0) (nI 7) = nI 0) : Cx l B y_D_copy b_D_copy 5 (some .int) (Rm 8 1 6) [.ref da, .int x, .int y] [co da 3 [.ref (q 0), .ref (q 1), .ref (q 3), .ref (q 7), .ref (q 12), .ref (q 17), .ref (q 18), .ref (q 19), .ref (q 20)], cr B (q 0) 8 (fun z9 => some (q (21 + 2 * z9)))] nIAE := by
  refine ctr_x hst (by decide) (Nat.le_of_ble_eq_true rfl) ?_
  intro M Q hl hR X kout kthr
  subst hl
  refine g_lv [(0, .ref da), (1, .int x), (2, .int y)] rfl ?_
  refine g_aload_n (pc := 0) X (i := 0) d_D_copy_0 rfl rfl ?_
  refine g_iload_n (pc := 1) X (i := 1) d_D_copy_1 rfl rfl ?_
  refine g_callVx (pc := 2) (q0 := 0) X (x_D_slotAt (m_l M) B da q x hst h) wd_236 wd_238 wp_D_slotAt wd_1 wd_239 hd_D_slotAt [0, 1] rfl rfl rfl rfl (by rw [hR]; decide) (by rw [hR]; decide) rfl (Nat.le_of_ble_eq_true rfl) d_D_copy_2 ?_
  exact kout _ _ _ _ _ (by decide) (by decide)

theorem x_D_copy_2 (l : Launch) (B : Bx) (da : Nat) (q : Nat → Nat) (i : Nat) (x : Int32) (hst : l.stackTraces = false) (h1 : i < 8) (h : inR x (nI 0) (nI 7) = nI 0) : Cx l B y_D_copy b_D_copy 5 (some .int) (Rm 8 1 6) [.ref da, .int (nI i), .int x] [co da 3 [.ref (q 0), .ref (q 1), .ref (q 3), .ref (q 7), .ref (q 12), .ref (q 17), .ref (q 18), .ref (q 19), .ref (q 20)], cr B (q 0) 8 (fun z9 => some (q (21 + 2 * z9)))] nIAE := by
  refine ctr_x hst (by decide) (Nat.le_of_ble_eq_true rfl) ?_
  intro M Q hl hR X kout kthr
  subst hl
  refine g_lv [(0, .ref da), (1, .int (nI i)), (2, .int x)] rfl ?_
  refine g_aload_n (pc := 0) X (i := 0) d_D_copy_0 rfl rfl ?_
  refine g_iload_n (pc := 1) X (i := 1) d_D_copy_1 rfl rfl ?_
  refine g_callVr (pc := 2) (q0 := 0) X (c_D_slotAt (m_l M) B da q i (by omega)) wd_236 wd_238 wp_D_slotAt wd_1 wd_239 hd_D_slotAt [0, 1] rfl rfl [da, q 0] (fun _ => rfl) rfl rfl rfl (by rw [hR]; decide) (by rw [hR]; decide) rfl (Nat.le_of_ble_eq_true rfl) d_D_copy_2 (fun _ _ => ?_)
  refine g_wsq [co da 3 [.ref (q 0), .ref (q 1), .ref (q 3), .ref (q 7), .ref (q 12), .ref (q 17), .ref (q 18), .ref (q 19), .ref (q 20)], cr B (q 0) 8 (fun z9 => some (q (21 + 2 * z9)))] rfl ?_
  refine g_astore_n (pc := 5) X (i := 3) d_D_copy_5 rfl (by decide) ?_
  refine g_lv [(0, .ref da), (1, .int (nI i)), (2, .int x), (3, .ref (q (21 + 2 * i)))] rfl ?_
  refine g_aload_n (pc := 6) X (i := 0) d_D_copy_6 rfl rfl ?_
  refine g_iload_n (pc := 7) X (i := 2) d_D_copy_7 rfl rfl ?_
  refine g_callVx (pc := 8) (q0 := 0) X (x_D_slotAt (m_l M) B da q x hst h) wd_236 wd_238 wp_D_slotAt wd_1 wd_239 hd_D_slotAt [0, 1] rfl rfl rfl rfl (by rw [hR]; decide) (by rw [hR]; decide) rfl (Nat.le_of_ble_eq_true rfl) d_D_copy_8 ?_
  exact kout _ _ _ _ _ (by decide) (by decide)

theorem x_D_same_1 (l : Launch) (B : Bx) (da : Nat) (q : Nat → Nat) (x : Int32) (y : Int32) (hst : l.stackTraces = false) (h : inR x (nI 0) (nI 7) = nI 0) : Cx l B y_D_same b_D_same 3 (some .boolean) (Rm 8 1 6) [.ref da, .int x, .int y] [co da 3 [.ref (q 0), .ref (q 1), .ref (q 3), .ref (q 7), .ref (q 12), .ref (q 17), .ref (q 18), .ref (q 19), .ref (q 20)], cr B (q 0) 8 (fun z9 => some (q (21 + 2 * z9)))] nIAE := by
  refine ctr_x hst (by decide) (Nat.le_of_ble_eq_true rfl) ?_
  intro M Q hl hR X kout kthr
  subst hl
  refine g_lv [(0, .ref da), (1, .int x), (2, .int y)] rfl ?_
  refine g_aload_n (pc := 0) X (i := 0) d_D_same_0 rfl rfl ?_
  refine g_iload_n (pc := 1) X (i := 1) d_D_same_1 rfl rfl ?_
  refine g_callVx (pc := 2) (q0 := 0) X (x_D_slotAt (m_l M) B da q x hst h) wd_236 wd_238 wp_D_slotAt wd_1 wd_239 hd_D_slotAt [0, 1] rfl rfl rfl rfl (by rw [hR]; decide) (by rw [hR]; decide) rfl (Nat.le_of_ble_eq_true rfl) d_D_same_2 ?_
  exact kout _ _ _ _ _ (by decide) (by decide)

theorem x_D_same_2 (l : Launch) (B : Bx) (da : Nat) (q : Nat → Nat) (i : Nat) (x : Int32) (hst : l.stackTraces = false) (h1 : i < 8) (h : inR x (nI 0) (nI 7) = nI 0) : Cx l B y_D_same b_D_same 3 (some .boolean) (Rm 8 1 6) [.ref da, .int (nI i), .int x] [co da 3 [.ref (q 0), .ref (q 1), .ref (q 3), .ref (q 7), .ref (q 12), .ref (q 17), .ref (q 18), .ref (q 19), .ref (q 20)], cr B (q 0) 8 (fun z9 => some (q (21 + 2 * z9)))] nIAE := by
  refine ctr_x hst (by decide) (Nat.le_of_ble_eq_true rfl) ?_
  intro M Q hl hR X kout kthr
  subst hl
  refine g_lv [(0, .ref da), (1, .int (nI i)), (2, .int x)] rfl ?_
  refine g_aload_n (pc := 0) X (i := 0) d_D_same_0 rfl rfl ?_
  refine g_iload_n (pc := 1) X (i := 1) d_D_same_1 rfl rfl ?_
  refine g_callVr (pc := 2) (q0 := 0) X (c_D_slotAt (m_l M) B da q i (by omega)) wd_236 wd_238 wp_D_slotAt wd_1 wd_239 hd_D_slotAt [0, 1] rfl rfl [da, q 0] (fun _ => rfl) rfl rfl rfl (by rw [hR]; decide) (by rw [hR]; decide) rfl (Nat.le_of_ble_eq_true rfl) d_D_same_2 (fun _ _ => ?_)
  refine g_wsq [co da 3 [.ref (q 0), .ref (q 1), .ref (q 3), .ref (q 7), .ref (q 12), .ref (q 17), .ref (q 18), .ref (q 19), .ref (q 20)], cr B (q 0) 8 (fun z9 => some (q (21 + 2 * z9)))] rfl ?_
  refine g_aload_n (pc := 5) X (i := 0) d_D_same_5 rfl rfl ?_
  refine g_iload_n (pc := 6) X (i := 2) d_D_same_6 rfl rfl ?_
  refine g_callVx (pc := 7) (q0 := 0) X (x_D_slotAt (m_l M) B da q x hst h) wd_236 wd_238 wp_D_slotAt wd_1 wd_239 hd_D_slotAt [0, 1] rfl rfl rfl rfl (by rw [hR]; decide) (by rw [hR]; decide) rfl (Nat.le_of_ble_eq_true rfl) d_D_same_7 ?_
  exact kout _ _ _ _ _ (by decide) (by decide)

theorem x_D_resize_1 (l : Launch) (B : Bx) (da : Nat) (q : Nat → Nat) (x : Int32) (y : Int32) (hst : l.stackTraces = false) (h : inR x (nI 0) (nI 7) = nI 0) : Cx l B y_D_resize b_D_resize 5 (some .int) (Rm 8 1 6) [.ref da, .int x, .int y] [co da 3 [.ref (q 0), .ref (q 1), .ref (q 3), .ref (q 7), .ref (q 12), .ref (q 17), .ref (q 18), .ref (q 19), .ref (q 20)], cr B (q 0) 8 (fun z9 => some (q (21 + 2 * z9)))] nIAE := by
  refine ctr_x hst (by decide) (Nat.le_of_ble_eq_true rfl) ?_
  intro M Q hl hR X kout kthr
  subst hl
  refine g_lv [(0, .ref da), (1, .int x), (2, .int y)] rfl ?_
  refine g_aload_n (pc := 0) X (i := 0) d_D_resize_0 rfl rfl ?_
  refine g_iload_n (pc := 1) X (i := 1) d_D_resize_1 rfl rfl ?_
  refine g_callVx (pc := 2) (q0 := 0) X (x_D_slotAt (m_l M) B da q x hst h) wd_236 wd_238 wp_D_slotAt wd_1 wd_239 hd_D_slotAt [0, 1] rfl rfl rfl rfl (by rw [hR]; decide) (by rw [hR]; decide) rfl (Nat.le_of_ble_eq_true rfl) d_D_resize_2 ?_
  exact kout _ _ _ _ _ (by decide) (by decide)

theorem x_D_resize_2 (l : Launch) (B : Bx) (da : Nat) (q : Nat → Nat) (i : Nat) (y : Int32) (hst : l.stackTraces = false) (h1 : i < 8) (h : inR y (nI 0) (nI 8192) = nI 0) : Cx l B y_D_resize b_D_resize 5 (some .int) (Rm 8 1 6) [.ref da, .int (nI i), .int y] [co da 3 [.ref (q 0), .ref (q 1), .ref (q 3), .ref (q 7), .ref (q 12), .ref (q 17), .ref (q 18), .ref (q 19), .ref (q 20)], cr B (q 0) 8 (fun z9 => some (q (21 + 2 * z9)))] nIAE := by
  refine ctr_x hst (by decide) (Nat.le_of_ble_eq_true rfl) ?_
  intro M Q hl hR X kout kthr
  subst hl
  refine g_lv [(0, .ref da), (1, .int (nI i)), (2, .int y)] rfl ?_
  refine g_aload_n (pc := 0) X (i := 0) d_D_resize_0 rfl rfl ?_
  refine g_iload_n (pc := 1) X (i := 1) d_D_resize_1 rfl rfl ?_
  refine g_callVr (pc := 2) (q0 := 0) X (c_D_slotAt (m_l M) B da q i (by omega)) wd_236 wd_238 wp_D_slotAt wd_1 wd_239 hd_D_slotAt [0, 1] rfl rfl [da, q 0] (fun _ => rfl) rfl rfl rfl (by rw [hR]; decide) (by rw [hR]; decide) rfl (Nat.le_of_ble_eq_true rfl) d_D_resize_2 (fun _ _ => ?_)
  refine g_wsq [co da 3 [.ref (q 0), .ref (q 1), .ref (q 3), .ref (q 7), .ref (q 12), .ref (q 17), .ref (q 18), .ref (q 19), .ref (q 20)], cr B (q 0) 8 (fun z9 => some (q (21 + 2 * z9)))] rfl ?_
  refine g_astore_n (pc := 5) X (i := 3) d_D_resize_5 rfl (by decide) ?_
  refine g_lv [(0, .ref da), (1, .int (nI i)), (2, .int y), (3, .ref (q (21 + 2 * i)))] rfl ?_
  refine g_iload_n (pc := 6) X (i := 2) d_D_resize_6 rfl rfl ?_
  refine g_iconst (pc := 7) X (v := nI 0) d_D_resize_7 (by decide) ?_
  refine g_sipush (pc := 8) X (v := nI 8192) d_D_resize_8 (by decide) ?_
  refine g_callSx (pc := 11) X (x_D_requireWithin (m_l M) B y (nI 0) (nI 8192) hst h) wd_240 wd_241 wd_1 wd_242 hd_D_requireWithin [] rfl rfl (by rw [hR]; decide) (by rw [hR]; decide) rfl (Nat.le_of_ble_eq_true rfl) d_D_resize_11 ?_
  exact kout _ _ _ _ _ (by decide) (by decide)

theorem x_D_alter_1 (l : Launch) (B : Bx) (da : Nat) (q : Nat → Nat) (x : Int32) (y : Int32) (z : Int32) (hst : l.stackTraces = false) (h : inR x (nI 0) (nI 7) = nI 0) : Cx l B y_D_alter b_D_alter 5 (some .int) (Rm 8 1 6) [.ref da, .int x, .int y, .int z] [co da 3 [.ref (q 0), .ref (q 1), .ref (q 3), .ref (q 7), .ref (q 12), .ref (q 17), .ref (q 18), .ref (q 19), .ref (q 20)], cr B (q 0) 8 (fun z9 => some (q (21 + 2 * z9)))] nIAE := by
  refine ctr_x hst (by decide) (Nat.le_of_ble_eq_true rfl) ?_
  intro M Q hl hR X kout kthr
  subst hl
  refine g_lv [(0, .ref da), (1, .int x), (2, .int y), (3, .int z)] rfl ?_
  refine g_aload_n (pc := 0) X (i := 0) d_D_alter_0 rfl rfl ?_
  refine g_iload_n (pc := 1) X (i := 1) d_D_alter_1 rfl rfl ?_
  refine g_callVx (pc := 2) (q0 := 0) X (x_D_slotAt (m_l M) B da q x hst h) wd_236 wd_238 wp_D_slotAt wd_1 wd_239 hd_D_slotAt [0, 1] rfl rfl rfl rfl (by rw [hR]; decide) (by rw [hR]; decide) rfl (Nat.le_of_ble_eq_true rfl) d_D_alter_2 ?_
  exact kout _ _ _ _ _ (by decide) (by decide)

theorem x_D_alter_2 (l : Launch) (B : Bx) (da : Nat) (q : Nat → Nat) (i : Nat) (y : Int32) (z : Int32) (hst : l.stackTraces = false) (h1 : i < 8) (h : inR z (nI 0) (nI 255) = nI 0) : Cx l B y_D_alter b_D_alter 5 (some .int) (Rm 8 1 6) [.ref da, .int (nI i), .int y, .int z] [co da 3 [.ref (q 0), .ref (q 1), .ref (q 3), .ref (q 7), .ref (q 12), .ref (q 17), .ref (q 18), .ref (q 19), .ref (q 20)], cr B (q 0) 8 (fun z9 => some (q (21 + 2 * z9)))] nIAE := by
  refine ctr_x hst (by decide) (Nat.le_of_ble_eq_true rfl) ?_
  intro M Q hl hR X kout kthr
  subst hl
  refine g_lv [(0, .ref da), (1, .int (nI i)), (2, .int y), (3, .int z)] rfl ?_
  refine g_aload_n (pc := 0) X (i := 0) d_D_alter_0 rfl rfl ?_
  refine g_iload_n (pc := 1) X (i := 1) d_D_alter_1 rfl rfl ?_
  refine g_callVr (pc := 2) (q0 := 0) X (c_D_slotAt (m_l M) B da q i (by omega)) wd_236 wd_238 wp_D_slotAt wd_1 wd_239 hd_D_slotAt [0, 1] rfl rfl [da, q 0] (fun _ => rfl) rfl rfl rfl (by rw [hR]; decide) (by rw [hR]; decide) rfl (Nat.le_of_ble_eq_true rfl) d_D_alter_2 (fun _ _ => ?_)
  refine g_wsq [co da 3 [.ref (q 0), .ref (q 1), .ref (q 3), .ref (q 7), .ref (q 12), .ref (q 17), .ref (q 18), .ref (q 19), .ref (q 20)], cr B (q 0) 8 (fun z9 => some (q (21 + 2 * z9)))] rfl ?_
  refine g_astore (pc := 5) X d_D_alter_5 (by decide) ?_
  refine g_lv [(0, .ref da), (1, .int (nI i)), (2, .int y), (3, .int z), (4, .ref (q (21 + 2 * i)))] rfl ?_
  refine g_iload_n (pc := 7) X (i := 3) d_D_alter_7 rfl rfl ?_
  refine g_iconst (pc := 8) X (v := nI 0) d_D_alter_8 (by decide) ?_
  refine g_sipush (pc := 9) X (v := nI 255) d_D_alter_9 (by decide) ?_
  refine g_callSx (pc := 12) X (x_D_requireWithin (m_l M) B z (nI 0) (nI 255) hst h) wd_240 wd_241 wd_1 wd_242 hd_D_requireWithin [] rfl rfl (by rw [hR]; decide) (by rw [hR]; decide) rfl (Nat.le_of_ble_eq_true rfl) d_D_alter_12 ?_
  exact kout _ _ _ _ _ (by decide) (by decide)

theorem x_D_alter_3 (l : Launch) (B : Bx) (da : Nat) (q : Nat → Nat) (i : Nat) (n : Nat) (z : Nat) (y : Int32) (f : Nat → Int8) (hst : l.stackTraces = false) (h1 : i < 8) (hz : z ≤ 255) (h2 : n ≤ 8192) (h : inR y (nI 0) (nI n - nI 1) = nI 0) : Cx l B y_D_alter b_D_alter 5 (some .int) (Rm 8 1 6) [.ref da, .int (nI i), .int y, .int (nI z)] [co da 3 [.ref (q 0), .ref (q 1), .ref (q 3), .ref (q 7), .ref (q 12), .ref (q 17), .ref (q 18), .ref (q 19), .ref (q 20)], cr B (q 0) 8 (fun z9 => some (q (21 + 2 * z9))), co (q (21 + 2 * i)) 1 [.ref (q (22 + 2 * i)), .int (nI n)], cb B (q (22 + 2 * i)) 8192 f] nIOO := by
  refine ctr_x hst (by decide) (Nat.le_of_ble_eq_true rfl) ?_
  intro M Q hl hR X kout kthr
  subst hl
  refine g_lv [(0, .ref da), (1, .int (nI i)), (2, .int y), (3, .int (nI z))] rfl ?_
  refine g_aload_n (pc := 0) X (i := 0) d_D_alter_0 rfl rfl ?_
  refine g_iload_n (pc := 1) X (i := 1) d_D_alter_1 rfl rfl ?_
  refine g_callVr (pc := 2) (q0 := 0) X (c_D_slotAt (m_l M) B da q i (by omega)) wd_236 wd_238 wp_D_slotAt wd_1 wd_239 hd_D_slotAt [0, 1] rfl rfl [da, q 0] (fun _ => rfl) rfl rfl rfl (by rw [hR]; decide) (by rw [hR]; decide) rfl (Nat.le_of_ble_eq_true rfl) d_D_alter_2 (fun _ _ => ?_)
  refine g_wsq [co da 3 [.ref (q 0), .ref (q 1), .ref (q 3), .ref (q 7), .ref (q 12), .ref (q 17), .ref (q 18), .ref (q 19), .ref (q 20)], cr B (q 0) 8 (fun z9 => some (q (21 + 2 * z9))), co (q (21 + 2 * i)) 1 [.ref (q (22 + 2 * i)), .int (nI n)], cb B (q (22 + 2 * i)) 8192 f] rfl ?_
  refine g_astore (pc := 5) X d_D_alter_5 (by decide) ?_
  refine g_lv [(0, .ref da), (1, .int (nI i)), (2, .int y), (3, .int (nI z)), (4, .ref (q (21 + 2 * i)))] rfl ?_
  refine g_iload_n (pc := 7) X (i := 3) d_D_alter_7 rfl rfl ?_
  refine g_iconst (pc := 8) X (v := nI 0) d_D_alter_8 (by decide) ?_
  refine g_sipush (pc := 9) X (v := nI 255) d_D_alter_9 (by decide) ?_
  refine g_callSv (pc := 12) X (c_D_requireWithin (m_l M) B z 0 255 (by omega) (by omega) (by omega)) wd_240 wd_241 wd_1 wd_242 hd_D_requireWithin [] rfl rfl [] (fun _ => rfl) rfl (by rw [hR]; decide) (by rw [hR]; decide) rfl (Nat.le_of_ble_eq_true rfl) d_D_alter_12 (fun _ _ => ?_)
  refine g_wsq [co da 3 [.ref (q 0), .ref (q 1), .ref (q 3), .ref (q 7), .ref (q 12), .ref (q 17), .ref (q 18), .ref (q 19), .ref (q 20)], cr B (q 0) 8 (fun z9 => some (q (21 + 2 * z9))), co (q (21 + 2 * i)) 1 [.ref (q (22 + 2 * i)), .int (nI n)], cb B (q (22 + 2 * i)) 8192 f] rfl ?_
  refine g_aload (pc := 15) X d_D_alter_15 rfl ?_
  refine g_iload_n (pc := 17) X (i := 2) d_D_alter_17 rfl rfl ?_
  refine g_callSx (pc := 18) X (x_D_requirePlace (m_l M) B (q (21 + 2 * i)) (q (22 + 2 * i)) n y hst h h2) wd_557 wd_558 wd_1 wd_559 hd_D_requirePlace [2] rfl rfl (by rw [hR]; decide) (by rw [hR]; decide) rfl (Nat.le_of_ble_eq_true rfl) d_D_alter_18 ?_
  exact kout _ _ _ _ _ (by decide) (by decide)

theorem x_D_length (l : Launch) (B : Bx) (da : Nat) (q : Nat → Nat) (x : Int32) (hst : l.stackTraces = false) (h : inR x (nI 0) (nI 7) = nI 0) : Cx l B y_D_length b_D_length 2 (some .int) (Rm 8 1 6) [.ref da, .int x] [co da 3 [.ref (q 0), .ref (q 1), .ref (q 3), .ref (q 7), .ref (q 12), .ref (q 17), .ref (q 18), .ref (q 19), .ref (q 20)], cr B (q 0) 8 (fun z9 => some (q (21 + 2 * z9)))] nIAE := by
  refine ctr_x hst (by decide) (Nat.le_of_ble_eq_true rfl) ?_
  intro M Q hl hR X kout kthr
  subst hl
  refine g_lv [(0, .ref da), (1, .int x)] rfl ?_
  refine g_aload_n (pc := 0) X (i := 0) d_D_length_0 rfl rfl ?_
  refine g_iload_n (pc := 1) X (i := 1) d_D_length_1 rfl rfl ?_
  refine g_callVx (pc := 2) (q0 := 0) X (x_D_slotAt (m_l M) B da q x hst h) wd_236 wd_238 wp_D_slotAt wd_1 wd_239 hd_D_slotAt [0, 1] rfl rfl rfl rfl (by rw [hR]; decide) (by rw [hR]; decide) rfl (Nat.le_of_ble_eq_true rfl) d_D_length_2 ?_
  exact kout _ _ _ _ _ (by decide) (by decide)

theorem x_D_word_1 (l : Launch) (B : Bx) (da : Nat) (q : Nat → Nat) (x : Int32) (y : Int32) (hst : l.stackTraces = false) (h : inR x (nI 0) (nI 7) = nI 0) : Cx l B y_D_word b_D_word 4 (some .long) (Rm 8 1 6) [.ref da, .int x, .int y] [co da 3 [.ref (q 0), .ref (q 1), .ref (q 3), .ref (q 7), .ref (q 12), .ref (q 17), .ref (q 18), .ref (q 19), .ref (q 20)], cr B (q 0) 8 (fun z9 => some (q (21 + 2 * z9)))] nIAE := by
  refine ctr_x hst (by decide) (Nat.le_of_ble_eq_true rfl) ?_
  intro M Q hl hR X kout kthr
  subst hl
  refine g_lv [(0, .ref da), (1, .int x), (2, .int y)] rfl ?_
  refine g_aload_n (pc := 0) X (i := 0) d_D_word_0 rfl rfl ?_
  refine g_iload_n (pc := 1) X (i := 1) d_D_word_1 rfl rfl ?_
  refine g_callVx (pc := 2) (q0 := 0) X (x_D_slotAt (m_l M) B da q x hst h) wd_236 wd_238 wp_D_slotAt wd_1 wd_239 hd_D_slotAt [0, 1] rfl rfl rfl rfl (by rw [hR]; decide) (by rw [hR]; decide) rfl (Nat.le_of_ble_eq_true rfl) d_D_word_2 ?_
  exact kout _ _ _ _ _ (by decide) (by decide)

theorem x_D_word_2 (l : Launch) (B : Bx) (da : Nat) (q : Nat → Nat) (i : Nat) (n : Nat) (y : Int32) (f : Nat → Int8) (hst : l.stackTraces = false) (h1 : i < 8) (h2 : n ≤ 8192) (h : inR y (nI 0) (nI n - nI 1) = nI 0) : Cx l B y_D_word b_D_word 4 (some .long) (Rm 8 1 6) [.ref da, .int (nI i), .int y] [co da 3 [.ref (q 0), .ref (q 1), .ref (q 3), .ref (q 7), .ref (q 12), .ref (q 17), .ref (q 18), .ref (q 19), .ref (q 20)], cr B (q 0) 8 (fun z9 => some (q (21 + 2 * z9))), co (q (21 + 2 * i)) 1 [.ref (q (22 + 2 * i)), .int (nI n)], cb B (q (22 + 2 * i)) 8192 f] nIOO := by
  refine ctr_x hst (by decide) (Nat.le_of_ble_eq_true rfl) ?_
  intro M Q hl hR X kout kthr
  subst hl
  refine g_lv [(0, .ref da), (1, .int (nI i)), (2, .int y)] rfl ?_
  refine g_aload_n (pc := 0) X (i := 0) d_D_word_0 rfl rfl ?_
  refine g_iload_n (pc := 1) X (i := 1) d_D_word_1 rfl rfl ?_
  refine g_callVr (pc := 2) (q0 := 0) X (c_D_slotAt (m_l M) B da q i (by omega)) wd_236 wd_238 wp_D_slotAt wd_1 wd_239 hd_D_slotAt [0, 1] rfl rfl [da, q 0] (fun _ => rfl) rfl rfl rfl (by rw [hR]; decide) (by rw [hR]; decide) rfl (Nat.le_of_ble_eq_true rfl) d_D_word_2 (fun _ _ => ?_)
  refine g_wsq [co da 3 [.ref (q 0), .ref (q 1), .ref (q 3), .ref (q 7), .ref (q 12), .ref (q 17), .ref (q 18), .ref (q 19), .ref (q 20)], cr B (q 0) 8 (fun z9 => some (q (21 + 2 * z9))), co (q (21 + 2 * i)) 1 [.ref (q (22 + 2 * i)), .int (nI n)], cb B (q (22 + 2 * i)) 8192 f] rfl ?_
  refine g_astore_n (pc := 5) X (i := 3) d_D_word_5 rfl (by decide) ?_
  refine g_lv [(0, .ref da), (1, .int (nI i)), (2, .int y), (3, .ref (q (21 + 2 * i)))] rfl ?_
  refine g_aload_n (pc := 6) X (i := 3) d_D_word_6 rfl rfl ?_
  refine g_iload_n (pc := 7) X (i := 2) d_D_word_7 rfl rfl ?_
  refine g_callSx (pc := 8) X (x_D_requirePlace (m_l M) B (q (21 + 2 * i)) (q (22 + 2 * i)) n y hst h h2) wd_557 wd_558 wd_1 wd_559 hd_D_requirePlace [2] rfl rfl (by rw [hR]; decide) (by rw [hR]; decide) rfl (Nat.le_of_ble_eq_true rfl) d_D_word_8 ?_
  exact kout _ _ _ _ _ (by decide) (by decide)

theorem x_D_digest_1 (l : Launch) (B : Bx) (da : Nat) (q : Nat → Nat) (x : Int32) (y : Int32) (hst : l.stackTraces = false) (h : inR x (nI 1) (nI 16) = nI 0) : Cx l B y_D_digest b_D_digest 3 (some .int) (Rm 8 1 6) [.ref da, .int x, .int y] [co da 3 [.ref (q 0), .ref (q 1), .ref (q 3), .ref (q 7), .ref (q 12), .ref (q 17), .ref (q 18), .ref (q 19), .ref (q 20)], cr B (q 0) 8 (fun z9 => some (q (21 + 2 * z9)))] nIAE := by
  refine ctr_x hst (by decide) (Nat.le_of_ble_eq_true rfl) ?_
  intro M Q hl hR X kout kthr
  subst hl
  refine g_lv [(0, .ref da), (1, .int x), (2, .int y)] rfl ?_
  refine g_iload_n (pc := 0) X (i := 1) d_D_digest_0 rfl rfl ?_
  refine g_iconst (pc := 1) X (v := nI 1) d_D_digest_1 (by decide) ?_
  refine g_bipush (pc := 2) X (v := nI 16) d_D_digest_2 (by decide) ?_
  refine g_callSx (pc := 4) X (x_D_requireWithin (m_l M) B x (nI 1) (nI 16) hst h) wd_240 wd_241 wd_1 wd_242 hd_D_requireWithin [] rfl rfl (by rw [hR]; decide) (by rw [hR]; decide) rfl (Nat.le_of_ble_eq_true rfl) d_D_digest_4 ?_
  exact kout _ _ _ _ _ (by decide) (by decide)

theorem x_D_digest_2 (l : Launch) (B : Bx) (da : Nat) (q : Nat → Nat) (k : Nat) (y : Int32) (hst : l.stackTraces = false) (h1 : 1 ≤ k) (h2 : k ≤ 16) (h : inR y (nI 0) (nI 8192) = nI 0) : Cx l B y_D_digest b_D_digest 3 (some .int) (Rm 8 1 6) [.ref da, .int (nI k), .int y] [co da 3 [.ref (q 0), .ref (q 1), .ref (q 3), .ref (q 7), .ref (q 12), .ref (q 17), .ref (q 18), .ref (q 19), .ref (q 20)], cr B (q 0) 8 (fun z9 => some (q (21 + 2 * z9)))] nIAE := by
  refine ctr_x hst (by decide) (Nat.le_of_ble_eq_true rfl) ?_
  intro M Q hl hR X kout kthr
  subst hl
  refine g_lv [(0, .ref da), (1, .int (nI k)), (2, .int y)] rfl ?_
  refine g_iload_n (pc := 0) X (i := 1) d_D_digest_0 rfl rfl ?_
  refine g_iconst (pc := 1) X (v := nI 1) d_D_digest_1 (by decide) ?_
  refine g_bipush (pc := 2) X (v := nI 16) d_D_digest_2 (by decide) ?_
  refine g_callSv (pc := 4) X (c_D_requireWithin (m_l M) B k 1 16 (by omega) (by omega) (by omega)) wd_240 wd_241 wd_1 wd_242 hd_D_requireWithin [] rfl rfl [] (fun _ => rfl) rfl (by rw [hR]; decide) (by rw [hR]; decide) rfl (Nat.le_of_ble_eq_true rfl) d_D_digest_4 (fun _ _ => ?_)
  refine g_wsq [co da 3 [.ref (q 0), .ref (q 1), .ref (q 3), .ref (q 7), .ref (q 12), .ref (q 17), .ref (q 18), .ref (q 19), .ref (q 20)], cr B (q 0) 8 (fun z9 => some (q (21 + 2 * z9)))] rfl ?_
  refine g_iload_n (pc := 7) X (i := 2) d_D_digest_7 rfl rfl ?_
  refine g_iconst (pc := 8) X (v := nI 0) d_D_digest_8 (by decide) ?_
  refine g_sipush (pc := 9) X (v := nI 8192) d_D_digest_9 (by decide) ?_
  refine g_callSx (pc := 12) X (x_D_requireWithin (m_l M) B y (nI 0) (nI 8192) hst h) wd_240 wd_241 wd_1 wd_242 hd_D_requireWithin [] rfl rfl (by rw [hR]; decide) (by rw [hR]; decide) rfl (Nat.le_of_ble_eq_true rfl) d_D_digest_12 ?_
  exact kout _ _ _ _ _ (by decide) (by decide)
