theorem c_O_put_b (l : Launch) (B : Bx) (a : Nat) (q : Nat → Nat) (tp : Nat) (kd : Nat) (rt : Nat) (fl : Nat) (tt : Nat) (cd : Int32) (g : Nat → Int8) (S : Nat → Int64) (w : Nat → Int64) (K : Nat → Int64) (b : Int32) (hk : kd ≤ 6) (hr : rt = 64 ∨ rt = 128) (hf : fl < rt) : Cv (S := Unit) l B y_O_put b_O_put 2 (Rm 3 0 0) [.ref a, .int b] [co a 4 [.ref (q 0), .ref (q 1), .ref (q 2), .int (nI tp), .int cd, .ref (q 3), .ref (q 4), .ref (q 5), .ref (q 6), .ref (q 7), .ref (q 8), .ref (q 9), .ref (q 10), .ref (q 11), .ref (q 12), .ref (q 13), .ref (q 14), .ref (q 15), .int (nI kd), .int (nI rt), .int (nI fl), .long (lN tt), .ref (q 16), .ref (q 17)], cj B (q 11) 25 S, cb B (q 15) 128 g, cj B (q 14) 80 w, cj B (q 4) 80 K] (fun _ => True) (fun _ => [co a 4 [.ref (q 0), .ref (q 1), .ref (q 2), .int (nI tp), .int cd, .ref (q 3), .ref (q 4), .ref (q 5), .ref (q 6), .ref (q 7), .ref (q 8), .ref (q 9), .ref (q 10), .ref (q 11), .ref (q 12), .ref (q 13), .ref (q 14), .ref (q 15), .int (nI kd), .int (nI rt), .int (nI ((ptB rt K (g, fl, S, w) b).2.1)), .long (lN (tt + 1)), .ref (q 16), .ref (q 17)], cj B (q 11) 25 ((ptB rt K (g, fl, S, w) b).2.2.1), cb B (q 15) 128 ((ptB rt K (g, fl, S, w) b).1), cj B (q 14) 80 ((ptB rt K (g, fl, S, w) b).2.2.2), cj B (q 4) 80 K]) := by
  refine ctr_v (by decide) (Nat.le_of_ble_eq_true rfl) ?_
  intro M Q hl hR hin X kret
  subst hl
  refine g_lv [(0, .ref a), (1, .int b)] rfl ?_
  refine g_aload_n (pc := 0) X (i := 0) d_O_put_0 rfl rfl ?_
  refine g_callVi (pc := 1) (q0 := 0) X (c_O_sponge_b (m_l M) B a q tp kd rt fl tt cd (by omega)) wd_783 wd_785 wp_O_sponge wd_5 wd_786 hd_O_sponge [0] rfl rfl [a] (fun _ => rfl) rfl rfl rfl (by rw [hR]; decide) (by rw [hR]; decide) rfl (Nat.le_of_ble_eq_true rfl) d_O_put_1 (fun r9 _ hr9 => ?_)
  subst hr9
  refine g_wsq [co a 4 [.ref (q 0), .ref (q 1), .ref (q 2), .int (nI tp), .int cd, .ref (q 3), .ref (q 4), .ref (q 5), .ref (q 6), .ref (q 7), .ref (q 8), .ref (q 9), .ref (q 10), .ref (q 11), .ref (q 12), .ref (q 13), .ref (q 14), .ref (q 15), .int (nI kd), .int (nI rt), .int (nI fl), .long (lN tt), .ref (q 16), .ref (q 17)], cj B (q 11) 25 S, cb B (q 15) 128 g, cj B (q 14) 80 w, cj B (q 4) 80 K] rfl ?_
  refine g_if_eqN (pc := 4) X (tgt := 19) d_O_put_4 (by decide) (by omega) (fun h_4 => ?_) (fun h_4 => absurd h_4 (by omega))
  refine g_aload_n (pc := 19) X (i := 0) d_O_put_19 rfl rfl ?_
  refine g_get (pc := 20) X in_O 0 rfl rfl 17 (by decide) wd_836 rfl d_O_put_20 ?_
  refine g_aload_n (pc := 23) X (i := 0) d_O_put_23 rfl rfl ?_
  refine g_get (pc := 24) X in_O 0 rfl rfl 20 (by decide) wd_839 rfl d_O_put_24 ?_
  refine g_iload_n (pc := 27) X (i := 1) d_O_put_27 rfl rfl ?_
  refine g_i2b (pc := 28) X d_O_put_28 rfl ?_
  refine g_bastB (pc := 29) X 2 rfl fl rfl (by omega) (by omega) d_O_put_29 ?_
  refine g_wsq [co a 4 [.ref (q 0), .ref (q 1), .ref (q 2), .int (nI tp), .int cd, .ref (q 3), .ref (q 4), .ref (q 5), .ref (q 6), .ref (q 7), .ref (q 8), .ref (q 9), .ref (q 10), .ref (q 11), .ref (q 12), .ref (q 13), .ref (q 14), .ref (q 15), .int (nI kd), .int (nI rt), .int (nI fl), .long (lN tt), .ref (q 16), .ref (q 17)], cj B (q 11) 25 S, cb B (q 15) 128 (va_up g fl b.toInt8), cj B (q 14) 80 w, cj B (q 4) 80 K] rfl ?_
  refine g_aload_n (pc := 30) X (i := 0) d_O_put_30 rfl rfl ?_
  refine g_dup (pc := 31) X d_O_put_31 rfl ?_
  refine g_get (pc := 32) X in_O 0 rfl rfl 20 (by decide) wd_839 rfl d_O_put_32 ?_
  refine g_iconst (pc := 35) X (v := nI 1) d_O_put_35 (by decide) ?_
  refine g_iaddN (pc := 36) X (fl + 1) (by omega) d_O_put_36 ?_
  refine g_put (pc := 37) X in_O ty_O ok_O nm_O 0 rfl rfl 20 (by decide) wd_839 rfl rfl rfl (Nat.le_of_ble_eq_true rfl) d_O_put_37 ?_
  refine g_wsq [co a 4 [.ref (q 0), .ref (q 1), .ref (q 2), .int (nI tp), .int cd, .ref (q 3), .ref (q 4), .ref (q 5), .ref (q 6), .ref (q 7), .ref (q 8), .ref (q 9), .ref (q 10), .ref (q 11), .ref (q 12), .ref (q 13), .ref (q 14), .ref (q 15), .int (nI kd), .int (nI rt), .int (nI (fl + 1)), .long (lN tt), .ref (q 16), .ref (q 17)], cj B (q 11) 25 S, cb B (q 15) 128 (va_up g fl b.toInt8), cj B (q 14) 80 w, cj B (q 4) 80 K] rfl ?_
  refine g_aload_n (pc := 40) X (i := 0) d_O_put_40 rfl rfl ?_
  refine g_dup (pc := 41) X d_O_put_41 rfl ?_
  refine g_get (pc := 42) X in_O 0 rfl rfl 21 (by decide) wd_840 rfl d_O_put_42 ?_
  refine g_lconst (pc := 45) X (v := 1) d_O_put_45 (by decide) ?_
  refine g_ladd (pc := 46) X d_O_put_46 ?_
  refine g_setl (lN (tt + 1)) (lN_1 _) ?_
  refine g_put (pc := 47) X in_O ty_O ok_O nm_O 0 rfl rfl 21 (by decide) wd_840 rfl rfl rfl (Nat.le_of_ble_eq_true rfl) d_O_put_47 ?_
  refine g_wsq [co a 4 [.ref (q 0), .ref (q 1), .ref (q 2), .int (nI tp), .int cd, .ref (q 3), .ref (q 4), .ref (q 5), .ref (q 6), .ref (q 7), .ref (q 8), .ref (q 9), .ref (q 10), .ref (q 11), .ref (q 12), .ref (q 13), .ref (q 14), .ref (q 15), .int (nI kd), .int (nI rt), .int (nI (fl + 1)), .long (lN (tt + 1)), .ref (q 16), .ref (q 17)], cj B (q 11) 25 S, cb B (q 15) 128 (va_up g fl b.toInt8), cj B (q 14) 80 w, cj B (q 4) 80 K] rfl ?_
  refine g_aload_n (pc := 50) X (i := 0) d_O_put_50 rfl rfl ?_
  refine g_get (pc := 51) X in_O 0 rfl rfl 20 (by decide) wd_839 rfl d_O_put_51 ?_
  refine g_aload_n (pc := 54) X (i := 0) d_O_put_54 rfl rfl ?_
  refine g_get (pc := 55) X in_O 0 rfl rfl 19 (by decide) wd_838 rfl d_O_put_55 ?_
  refine g_icmp_neN (pc := 58) X (tgt := 100) d_O_put_58 (by decide) (by omega) (by omega) (fun h_58 => ?_) (fun h_58 => ?_)
  · refine g_wsq [co a 4 [.ref (q 0), .ref (q 1), .ref (q 2), .int (nI tp), .int cd, .ref (q 3), .ref (q 4), .ref (q 5), .ref (q 6), .ref (q 7), .ref (q 8), .ref (q 9), .ref (q 10), .ref (q 11), .ref (q 12), .ref (q 13), .ref (q 14), .ref (q 15), .int (nI kd), .int (nI rt), .int (nI ((ptB rt K (g, fl, S, w) b).2.1)), .long (lN (tt + 1)), .ref (q 16), .ref (q 17)], cj B (q 11) 25 ((ptB rt K (g, fl, S, w) b).2.2.1), cb B (q 15) 128 ((ptB rt K (g, fl, S, w) b).1), cj B (q 14) 80 ((ptB rt K (g, fl, S, w) b).2.2.2), cj B (q 4) 80 K] (by first | rw [ptB_n (by omega)] | rw [ptB_3 (by omega) (by omega)] | rw [ptB_6 (by omega) (by omega)]) ?_
    exact kret () _ 100 trivial d_O_put_100
  · refine g_aload_n (pc := 61) X (i := 0) d_O_put_61 rfl rfl ?_
    refine g_callVi (pc := 62) (q0 := 0) X (c_O_sponge_b (m_l M) B a q tp kd rt (fl + 1) (tt + 1) cd (by omega)) wd_783 wd_785 wp_O_sponge wd_5 wd_786 hd_O_sponge [0] rfl rfl [a] (fun _ => rfl) rfl rfl rfl (by rw [hR]; decide) (by rw [hR]; decide) rfl (Nat.le_of_ble_eq_true rfl) d_O_put_62 (fun r9 _ hr9 => ?_)
    subst hr9
    refine g_wsq [co a 4 [.ref (q 0), .ref (q 1), .ref (q 2), .int (nI tp), .int cd, .ref (q 3), .ref (q 4), .ref (q 5), .ref (q 6), .ref (q 7), .ref (q 8), .ref (q 9), .ref (q 10), .ref (q 11), .ref (q 12), .ref (q 13), .ref (q 14), .ref (q 15), .int (nI kd), .int (nI rt), .int (nI (fl + 1)), .long (lN (tt + 1)), .ref (q 16), .ref (q 17)], cj B (q 11) 25 S, cb B (q 15) 128 (va_up g fl b.toInt8), cj B (q 14) 80 w, cj B (q 4) 80 K] rfl ?_
    refine g_if_eqN (pc := 65) X (tgt := 75) d_O_put_65 (by decide) (by omega) (fun h_65 => ?_) (fun h_65 => absurd h_65 (by omega))
    refine g_aload_n (pc := 75) X (i := 0) d_O_put_75 rfl rfl ?_
    refine g_get (pc := 76) X in_O 0 rfl rfl 19 (by decide) wd_838 rfl d_O_put_76 ?_
    refine g_bipush (pc := 79) X (v := nI 64) d_O_put_79 (by decide) ?_
    refine g_icmp_neN (pc := 81) X (tgt := 91) d_O_put_81 (by decide) (by omega) (by omega) (fun h_81 => ?_) (fun h_81 => ?_)
    · refine g_aload_n (pc := 91) X (i := 0) d_O_put_91 rfl rfl ?_
      refine g_callVv (pc := 92) (q0 := 0) X (c_O_compress64 (m_l M) B a q tp kd rt (fl + 1) (tt + 1) cd (va_up g fl b.toInt8) S w K ) wd_807 wd_809 wp_O_compress64 wd_5 wd_810 hd_O_compress64 [0, 1, 2, 3, 4] rfl rfl [a, q 11, q 15, q 14, q 4] (fun _ => rfl) rfl rfl rfl (by rw [hR]; decide) (by rw [hR]; decide) rfl (Nat.le_of_ble_eq_true rfl) d_O_put_92 (fun _ _ => ?_)
      refine g_wsq [co a 4 [.ref (q 0), .ref (q 1), .ref (q 2), .int (nI tp), .int cd, .ref (q 3), .ref (q 4), .ref (q 5), .ref (q 6), .ref (q 7), .ref (q 8), .ref (q 9), .ref (q 10), .ref (q 11), .ref (q 12), .ref (q 13), .ref (q 14), .ref (q 15), .int (nI kd), .int (nI rt), .int (nI (fl + 1)), .long (lN (tt + 1)), .ref (q 16), .ref (q 17)], cj B (q 11) 25 (cmp6 K (va_up g fl b.toInt8) S w), cb B (q 15) 128 (va_up g fl b.toInt8), cj B (q 14) 80 (sch6 (va_up g fl b.toInt8) w), cj B (q 4) 80 K] rfl ?_
      refine g_aload_n (pc := 95) X (i := 0) d_O_put_95 rfl rfl ?_
      refine g_iconst (pc := 96) X (v := nI 0) d_O_put_96 (by decide) ?_
      refine g_put (pc := 97) X in_O ty_O ok_O nm_O 0 rfl rfl 20 (by decide) wd_839 rfl rfl rfl (Nat.le_of_ble_eq_true rfl) d_O_put_97 ?_
      refine g_wsq [co a 4 [.ref (q 0), .ref (q 1), .ref (q 2), .int (nI tp), .int cd, .ref (q 3), .ref (q 4), .ref (q 5), .ref (q 6), .ref (q 7), .ref (q 8), .ref (q 9), .ref (q 10), .ref (q 11), .ref (q 12), .ref (q 13), .ref (q 14), .ref (q 15), .int (nI kd), .int (nI rt), .int (nI 0), .long (lN (tt + 1)), .ref (q 16), .ref (q 17)], cj B (q 11) 25 (cmp6 K (va_up g fl b.toInt8) S w), cb B (q 15) 128 (va_up g fl b.toInt8), cj B (q 14) 80 (sch6 (va_up g fl b.toInt8) w), cj B (q 4) 80 K] rfl ?_
      refine g_wsq [co a 4 [.ref (q 0), .ref (q 1), .ref (q 2), .int (nI tp), .int cd, .ref (q 3), .ref (q 4), .ref (q 5), .ref (q 6), .ref (q 7), .ref (q 8), .ref (q 9), .ref (q 10), .ref (q 11), .ref (q 12), .ref (q 13), .ref (q 14), .ref (q 15), .int (nI kd), .int (nI rt), .int (nI ((ptB rt K (g, fl, S, w) b).2.1)), .long (lN (tt + 1)), .ref (q 16), .ref (q 17)], cj B (q 11) 25 ((ptB rt K (g, fl, S, w) b).2.2.1), cb B (q 15) 128 ((ptB rt K (g, fl, S, w) b).1), cj B (q 14) 80 ((ptB rt K (g, fl, S, w) b).2.2.2), cj B (q 4) 80 K] (by first | rw [ptB_n (by omega)] | rw [ptB_3 (by omega) (by omega)] | rw [ptB_6 (by omega) (by omega)]) ?_
      exact kret () _ 100 trivial d_O_put_100
    · refine g_aload_n (pc := 84) X (i := 0) d_O_put_84 rfl rfl ?_
      refine g_callVv (pc := 85) (q0 := 0) X (c_O_compress32 (m_l M) B a q tp kd rt (fl + 1) (tt + 1) cd (va_up g fl b.toInt8) S w K ) wd_800 wd_802 wp_O_compress32 wd_5 wd_803 hd_O_compress32 [0, 1, 2, 3, 4] rfl rfl [a, q 11, q 15, q 14, q 4] (fun _ => rfl) rfl rfl rfl (by rw [hR]; decide) (by rw [hR]; decide) rfl (Nat.le_of_ble_eq_true rfl) d_O_put_85 (fun _ _ => ?_)
      refine g_wsq [co a 4 [.ref (q 0), .ref (q 1), .ref (q 2), .int (nI tp), .int cd, .ref (q 3), .ref (q 4), .ref (q 5), .ref (q 6), .ref (q 7), .ref (q 8), .ref (q 9), .ref (q 10), .ref (q 11), .ref (q 12), .ref (q 13), .ref (q 14), .ref (q 15), .int (nI kd), .int (nI rt), .int (nI (fl + 1)), .long (lN (tt + 1)), .ref (q 16), .ref (q 17)], cj B (q 11) 25 (cmp3 K (va_up g fl b.toInt8) S w), cb B (q 15) 128 (va_up g fl b.toInt8), cj B (q 14) 80 (sch3 (va_up g fl b.toInt8) w), cj B (q 4) 80 K] rfl ?_
      refine g_goto (pc := 88) X (tgt := 95) d_O_put_88 (by decide) ?_
      refine g_aload_n (pc := 95) X (i := 0) d_O_put_95 rfl rfl ?_
      refine g_iconst (pc := 96) X (v := nI 0) d_O_put_96 (by decide) ?_
      refine g_put (pc := 97) X in_O ty_O ok_O nm_O 0 rfl rfl 20 (by decide) wd_839 rfl rfl rfl (Nat.le_of_ble_eq_true rfl) d_O_put_97 ?_
      refine g_wsq [co a 4 [.ref (q 0), .ref (q 1), .ref (q 2), .int (nI tp), .int cd, .ref (q 3), .ref (q 4), .ref (q 5), .ref (q 6), .ref (q 7), .ref (q 8), .ref (q 9), .ref (q 10), .ref (q 11), .ref (q 12), .ref (q 13), .ref (q 14), .ref (q 15), .int (nI kd), .int (nI rt), .int (nI 0), .long (lN (tt + 1)), .ref (q 16), .ref (q 17)], cj B (q 11) 25 (cmp3 K (va_up g fl b.toInt8) S w), cb B (q 15) 128 (va_up g fl b.toInt8), cj B (q 14) 80 (sch3 (va_up g fl b.toInt8) w), cj B (q 4) 80 K] rfl ?_
      refine g_wsq [co a 4 [.ref (q 0), .ref (q 1), .ref (q 2), .int (nI tp), .int cd, .ref (q 3), .ref (q 4), .ref (q 5), .ref (q 6), .ref (q 7), .ref (q 8), .ref (q 9), .ref (q 10), .ref (q 11), .ref (q 12), .ref (q 13), .ref (q 14), .ref (q 15), .int (nI kd), .int (nI rt), .int (nI ((ptB rt K (g, fl, S, w) b).2.1)), .long (lN (tt + 1)), .ref (q 16), .ref (q 17)], cj B (q 11) 25 ((ptB rt K (g, fl, S, w) b).2.2.1), cb B (q 15) 128 ((ptB rt K (g, fl, S, w) b).1), cj B (q 14) 80 ((ptB rt K (g, fl, S, w) b).2.2.2), cj B (q 4) 80 K] (by first | rw [ptB_n (by omega)] | rw [ptB_3 (by omega) (by omega)] | rw [ptB_6 (by omega) (by omega)]) ?_
      exact kret () _ 100 trivial d_O_put_100

theorem c_O_put_s (l : Launch) (B : Bx) (a : Nat) (q : Nat → Nat) (tp : Nat) (kd : Nat) (rt : Nat) (fl : Nat) (tt : Nat) (cd : Int32) (S : Nat → Int64) (o : Nat → Int64) (c : Nat → Int64) (T : Nat → Int32) (rn : Nat → Int64) (b : Int32) (hk : 6 < kd) (hk2 : kd ≤ 12) (hr : 0 < rt) (hr2 : rt ≤ 200) (hf : fl < rt) : Cv (S := Unit) l B y_O_put b_O_put 2 (Rm 3 0 0) [.ref a, .int b] [co a 4 [.ref (q 0), .ref (q 1), .ref (q 2), .int (nI tp), .int cd, .ref (q 3), .ref (q 4), .ref (q 5), .ref (q 6), .ref (q 7), .ref (q 8), .ref (q 9), .ref (q 10), .ref (q 11), .ref (q 12), .ref (q 13), .ref (q 14), .ref (q 15), .int (nI kd), .int (nI rt), .int (nI fl), .long (lN tt), .ref (q 16), .ref (q 17)], cj B (q 11) 25 S, cj B (q 12) 25 o, cj B (q 13) 5 c, cn B (q 9) 25 T, cj B (q 10) 24 rn] (fun _ => True) (fun _ => [co a 4 [.ref (q 0), .ref (q 1), .ref (q 2), .int (nI tp), .int cd, .ref (q 3), .ref (q 4), .ref (q 5), .ref (q 6), .ref (q 7), .ref (q 8), .ref (q 9), .ref (q 10), .ref (q 11), .ref (q 12), .ref (q 13), .ref (q 14), .ref (q 15), .int (nI kd), .int (nI rt), .int (nI ((ptS T rn rt (S, o, c, fl) b).2.2.2)), .long (lN (tt + 1)), .ref (q 16), .ref (q 17)], cj B (q 11) 25 ((ptS T rn rt (S, o, c, fl) b).1), cj B (q 12) 25 ((ptS T rn rt (S, o, c, fl) b).2.1), cj B (q 13) 5 ((ptS T rn rt (S, o, c, fl) b).2.2.1), cn B (q 9) 25 T, cj B (q 10) 24 rn]) := by
  refine ctr_v (by decide) (Nat.le_of_ble_eq_true rfl) ?_
  intro M Q hl hR hin X kret
  subst hl
  refine g_lv [(0, .ref a), (1, .int b)] rfl ?_
  refine g_aload_n (pc := 0) X (i := 0) d_O_put_0 rfl rfl ?_
  refine g_callVi (pc := 1) (q0 := 0) X (c_O_sponge_s (m_l M) B a q tp kd rt fl tt cd (by omega) (by omega)) wd_783 wd_785 wp_O_sponge wd_5 wd_786 hd_O_sponge [0] rfl rfl [a] (fun _ => rfl) rfl rfl rfl (by rw [hR]; decide) (by rw [hR]; decide) rfl (Nat.le_of_ble_eq_true rfl) d_O_put_1 (fun r9 _ hr9 => ?_)
  subst hr9
  refine g_wsq [co a 4 [.ref (q 0), .ref (q 1), .ref (q 2), .int (nI tp), .int cd, .ref (q 3), .ref (q 4), .ref (q 5), .ref (q 6), .ref (q 7), .ref (q 8), .ref (q 9), .ref (q 10), .ref (q 11), .ref (q 12), .ref (q 13), .ref (q 14), .ref (q 15), .int (nI kd), .int (nI rt), .int (nI fl), .long (lN tt), .ref (q 16), .ref (q 17)], cj B (q 11) 25 S, cj B (q 12) 25 o, cj B (q 13) 5 c, cn B (q 9) 25 T, cj B (q 10) 24 rn] rfl ?_
  refine g_if_eqN (pc := 4) X (tgt := 19) d_O_put_4 (by decide) (by omega) (fun h_4 => absurd h_4 (by omega)) (fun h_4 => ?_)
  refine g_aload_n (pc := 7) X (i := 0) d_O_put_7 rfl rfl ?_
  refine g_aload_n (pc := 8) X (i := 0) d_O_put_8 rfl rfl ?_
  refine g_get (pc := 9) X in_O 0 rfl rfl 20 (by decide) wd_839 rfl d_O_put_9 ?_
  refine g_iload_n (pc := 12) X (i := 1) d_O_put_12 rfl rfl ?_
  refine g_callVv (pc := 13) (q0 := 0) X (c_O_flip (m_l M) B a q tp kd rt fl tt cd fl b S (by omega)) wd_787 wd_789 wp_O_flip wd_5 wd_790 hd_O_flip [0, 1] rfl rfl [a, q 11] (fun _ => rfl) rfl rfl rfl (by rw [hR]; decide) (by rw [hR]; decide) rfl (Nat.le_of_ble_eq_true rfl) d_O_put_13 (fun _ _ => ?_)
  refine g_wsq [co a 4 [.ref (q 0), .ref (q 1), .ref (q 2), .int (nI tp), .int cd, .ref (q 3), .ref (q 4), .ref (q 5), .ref (q 6), .ref (q 7), .ref (q 8), .ref (q 9), .ref (q 10), .ref (q 11), .ref (q 12), .ref (q 13), .ref (q 14), .ref (q 15), .int (nI kd), .int (nI rt), .int (nI fl), .long (lN tt), .ref (q 16), .ref (q 17)], cj B (q 11) 25 (flipR S fl b), cj B (q 12) 25 o, cj B (q 13) 5 c, cn B (q 9) 25 T, cj B (q 10) 24 rn] rfl ?_
  refine g_goto (pc := 16) X (tgt := 30) d_O_put_16 (by decide) ?_
  refine g_aload_n (pc := 30) X (i := 0) d_O_put_30 rfl rfl ?_
  refine g_dup (pc := 31) X d_O_put_31 rfl ?_
  refine g_get (pc := 32) X in_O 0 rfl rfl 20 (by decide) wd_839 rfl d_O_put_32 ?_
  refine g_iconst (pc := 35) X (v := nI 1) d_O_put_35 (by decide) ?_
  refine g_iaddN (pc := 36) X (fl + 1) (by omega) d_O_put_36 ?_
  refine g_put (pc := 37) X in_O ty_O ok_O nm_O 0 rfl rfl 20 (by decide) wd_839 rfl rfl rfl (Nat.le_of_ble_eq_true rfl) d_O_put_37 ?_
  refine g_wsq [co a 4 [.ref (q 0), .ref (q 1), .ref (q 2), .int (nI tp), .int cd, .ref (q 3), .ref (q 4), .ref (q 5), .ref (q 6), .ref (q 7), .ref (q 8), .ref (q 9), .ref (q 10), .ref (q 11), .ref (q 12), .ref (q 13), .ref (q 14), .ref (q 15), .int (nI kd), .int (nI rt), .int (nI (fl + 1)), .long (lN tt), .ref (q 16), .ref (q 17)], cj B (q 11) 25 (flipR S fl b), cj B (q 12) 25 o, cj B (q 13) 5 c, cn B (q 9) 25 T, cj B (q 10) 24 rn] rfl ?_
  refine g_aload_n (pc := 40) X (i := 0) d_O_put_40 rfl rfl ?_
  refine g_dup (pc := 41) X d_O_put_41 rfl ?_
  refine g_get (pc := 42) X in_O 0 rfl rfl 21 (by decide) wd_840 rfl d_O_put_42 ?_
  refine g_lconst (pc := 45) X (v := 1) d_O_put_45 (by decide) ?_
  refine g_ladd (pc := 46) X d_O_put_46 ?_
  refine g_setl (lN (tt + 1)) (lN_1 _) ?_
  refine g_put (pc := 47) X in_O ty_O ok_O nm_O 0 rfl rfl 21 (by decide) wd_840 rfl rfl rfl (Nat.le_of_ble_eq_true rfl) d_O_put_47 ?_
  refine g_wsq [co a 4 [.ref (q 0), .ref (q 1), .ref (q 2), .int (nI tp), .int cd, .ref (q 3), .ref (q 4), .ref (q 5), .ref (q 6), .ref (q 7), .ref (q 8), .ref (q 9), .ref (q 10), .ref (q 11), .ref (q 12), .ref (q 13), .ref (q 14), .ref (q 15), .int (nI kd), .int (nI rt), .int (nI (fl + 1)), .long (lN (tt + 1)), .ref (q 16), .ref (q 17)], cj B (q 11) 25 (flipR S fl b), cj B (q 12) 25 o, cj B (q 13) 5 c, cn B (q 9) 25 T, cj B (q 10) 24 rn] rfl ?_
  refine g_aload_n (pc := 50) X (i := 0) d_O_put_50 rfl rfl ?_
  refine g_get (pc := 51) X in_O 0 rfl rfl 20 (by decide) wd_839 rfl d_O_put_51 ?_
  refine g_aload_n (pc := 54) X (i := 0) d_O_put_54 rfl rfl ?_
  refine g_get (pc := 55) X in_O 0 rfl rfl 19 (by decide) wd_838 rfl d_O_put_55 ?_
  refine g_icmp_neN (pc := 58) X (tgt := 100) d_O_put_58 (by decide) (by omega) (by omega) (fun h_58 => ?_) (fun h_58 => ?_)
  · refine g_wsq [co a 4 [.ref (q 0), .ref (q 1), .ref (q 2), .int (nI tp), .int cd, .ref (q 3), .ref (q 4), .ref (q 5), .ref (q 6), .ref (q 7), .ref (q 8), .ref (q 9), .ref (q 10), .ref (q 11), .ref (q 12), .ref (q 13), .ref (q 14), .ref (q 15), .int (nI kd), .int (nI rt), .int (nI ((ptS T rn rt (S, o, c, fl) b).2.2.2)), .long (lN (tt + 1)), .ref (q 16), .ref (q 17)], cj B (q 11) 25 ((ptS T rn rt (S, o, c, fl) b).1), cj B (q 12) 25 ((ptS T rn rt (S, o, c, fl) b).2.1), cj B (q 13) 5 ((ptS T rn rt (S, o, c, fl) b).2.2.1), cn B (q 9) 25 T, cj B (q 10) 24 rn] (by first | rw [ptS_n (by omega)] | rw [ptS_f (by omega)]) ?_
    exact kret () _ 100 trivial d_O_put_100
  · refine g_aload_n (pc := 61) X (i := 0) d_O_put_61 rfl rfl ?_
    refine g_callVi (pc := 62) (q0 := 0) X (c_O_sponge_s (m_l M) B a q tp kd rt (fl + 1) (tt + 1) cd (by omega) (by omega)) wd_783 wd_785 wp_O_sponge wd_5 wd_786 hd_O_sponge [0] rfl rfl [a] (fun _ => rfl) rfl rfl rfl (by rw [hR]; decide) (by rw [hR]; decide) rfl (Nat.le_of_ble_eq_true rfl) d_O_put_62 (fun r9 _ hr9 => ?_)
    subst hr9
    refine g_wsq [co a 4 [.ref (q 0), .ref (q 1), .ref (q 2), .int (nI tp), .int cd, .ref (q 3), .ref (q 4), .ref (q 5), .ref (q 6), .ref (q 7), .ref (q 8), .ref (q 9), .ref (q 10), .ref (q 11), .ref (q 12), .ref (q 13), .ref (q 14), .ref (q 15), .int (nI kd), .int (nI rt), .int (nI (fl + 1)), .long (lN (tt + 1)), .ref (q 16), .ref (q 17)], cj B (q 11) 25 (flipR S fl b), cj B (q 12) 25 o, cj B (q 13) 5 c, cn B (q 9) 25 T, cj B (q 10) 24 rn] rfl ?_
    refine g_if_eqN (pc := 65) X (tgt := 75) d_O_put_65 (by decide) (by omega) (fun h_65 => absurd h_65 (by omega)) (fun h_65 => ?_)
    refine g_aload_n (pc := 68) X (i := 0) d_O_put_68 rfl rfl ?_
    refine g_callVv (pc := 69) (q0 := 0) X (c_O_permute (m_l M) B a q tp kd rt (fl + 1) (tt + 1) cd (flipR S fl b) o c T rn ) wd_792 wd_794 wp_O_permute wd_5 wd_795 hd_O_permute [0, 1, 2, 3, 4, 5] rfl rfl [a, q 11, q 12, q 13, q 9, q 10] (fun _ => rfl) rfl rfl rfl (by rw [hR]; decide) (by rw [hR]; decide) rfl (Nat.le_of_ble_eq_true rfl) d_O_put_69 (fun _ _ => ?_)
    refine g_wsq [co a 4 [.ref (q 0), .ref (q 1), .ref (q 2), .int (nI tp), .int cd, .ref (q 3), .ref (q 4), .ref (q 5), .ref (q 6), .ref (q 7), .ref (q 8), .ref (q 9), .ref (q 10), .ref (q 11), .ref (q 12), .ref (q 13), .ref (q 14), .ref (q 15), .int (nI kd), .int (nI rt), .int (nI (fl + 1)), .long (lN (tt + 1)), .ref (q 16), .ref (q 17)], cj B (q 11) 25 ((rprm T rn ((flipR S fl b), o, c)).1), cj B (q 12) 25 ((rprm T rn ((flipR S fl b), o, c)).2.1), cj B (q 13) 5 ((rprm T rn ((flipR S fl b), o, c)).2.2), cn B (q 9) 25 T, cj B (q 10) 24 rn] rfl ?_
    refine g_goto (pc := 72) X (tgt := 95) d_O_put_72 (by decide) ?_
    refine g_aload_n (pc := 95) X (i := 0) d_O_put_95 rfl rfl ?_
    refine g_iconst (pc := 96) X (v := nI 0) d_O_put_96 (by decide) ?_
    refine g_put (pc := 97) X in_O ty_O ok_O nm_O 0 rfl rfl 20 (by decide) wd_839 rfl rfl rfl (Nat.le_of_ble_eq_true rfl) d_O_put_97 ?_
    refine g_wsq [co a 4 [.ref (q 0), .ref (q 1), .ref (q 2), .int (nI tp), .int cd, .ref (q 3), .ref (q 4), .ref (q 5), .ref (q 6), .ref (q 7), .ref (q 8), .ref (q 9), .ref (q 10), .ref (q 11), .ref (q 12), .ref (q 13), .ref (q 14), .ref (q 15), .int (nI kd), .int (nI rt), .int (nI 0), .long (lN (tt + 1)), .ref (q 16), .ref (q 17)], cj B (q 11) 25 ((rprm T rn ((flipR S fl b), o, c)).1), cj B (q 12) 25 ((rprm T rn ((flipR S fl b), o, c)).2.1), cj B (q 13) 5 ((rprm T rn ((flipR S fl b), o, c)).2.2), cn B (q 9) 25 T, cj B (q 10) 24 rn] rfl ?_
    refine g_wsq [co a 4 [.ref (q 0), .ref (q 1), .ref (q 2), .int (nI tp), .int cd, .ref (q 3), .ref (q 4), .ref (q 5), .ref (q 6), .ref (q 7), .ref (q 8), .ref (q 9), .ref (q 10), .ref (q 11), .ref (q 12), .ref (q 13), .ref (q 14), .ref (q 15), .int (nI kd), .int (nI rt), .int (nI ((ptS T rn rt (S, o, c, fl) b).2.2.2)), .long (lN (tt + 1)), .ref (q 16), .ref (q 17)], cj B (q 11) 25 ((ptS T rn rt (S, o, c, fl) b).1), cj B (q 12) 25 ((ptS T rn rt (S, o, c, fl) b).2.1), cj B (q 13) 5 ((ptS T rn rt (S, o, c, fl) b).2.2.1), cn B (q 9) 25 T, cj B (q 10) 24 rn] (by first | rw [ptS_n (by omega)] | rw [ptS_f (by omega)]) ?_
    exact kret () _ 100 trivial d_O_put_100

theorem c_O_put2_b (l : Launch) (B : Bx) (a : Nat) (q : Nat → Nat) (tp : Nat) (kd : Nat) (rt : Nat) (fl : Nat) (tt : Nat) (cd : Int32) (g : Nat → Int8) (S : Nat → Int64) (w : Nat → Int64) (K : Nat → Int64) (xa : Nat) (xn : Nat) (fr : Nat) (n : Nat) (x : Nat → Int8) (hk : kd ≤ 6) (hr : rt = 64 ∨ rt = 128) (hf : fl < rt) (hx : fr + n ≤ xn) (hx2 : xn < 2 ^ 31) : Cv (S := Unit) l B y_O_put2 b_O_put2 5 (Rm 4 0 0) [.ref a, .ref xa, .int (nI fr), .int (nI n)] [co a 4 [.ref (q 0), .ref (q 1), .ref (q 2), .int (nI tp), .int cd, .ref (q 3), .ref (q 4), .ref (q 5), .ref (q 6), .ref (q 7), .ref (q 8), .ref (q 9), .ref (q 10), .ref (q 11), .ref (q 12), .ref (q 13), .ref (q 14), .ref (q 15), .int (nI kd), .int (nI rt), .int (nI fl), .long (lN tt), .ref (q 16), .ref (q 17)], cj B (q 11) 25 S, cb B (q 15) 128 g, cj B (q 14) 80 w, cj B (q 4) 80 K, cb B xa xn x] (fun _ => True) (fun _ => [co a 4 [.ref (q 0), .ref (q 1), .ref (q 2), .int (nI tp), .int cd, .ref (q 3), .ref (q 4), .ref (q 5), .ref (q 6), .ref (q 7), .ref (q 8), .ref (q 9), .ref (q 10), .ref (q 11), .ref (q 12), .ref (q 13), .ref (q 14), .ref (q 15), .int (nI kd), .int (nI rt), .int (nI ((rPut rt K x fr n (g, fl, S, w)).2.1)), .long (lN (tt + n)), .ref (q 16), .ref (q 17)], cj B (q 11) 25 ((rPut rt K x fr n (g, fl, S, w)).2.2.1), cb B (q 15) 128 ((rPut rt K x fr n (g, fl, S, w)).1), cj B (q 14) 80 ((rPut rt K x fr n (g, fl, S, w)).2.2.2), cj B (q 4) 80 K, cb B xa xn x]) := by
  refine ctr_v (by decide) (Nat.le_of_ble_eq_true rfl) ?_
  intro M Q hl hR hin X kret
  subst hl
  refine g_lv [(0, .ref a), (1, .ref xa), (2, .int (nI fr)), (3, .int (nI n))] rfl ?_
  refine g_iconst (pc := 0) X (v := nI 0) d_O_put2_0 (by decide) ?_
  refine g_istore (pc := 1) X d_O_put2_1 (by decide) ?_
  refine g_lv [(0, .ref a), (1, .ref xa), (2, .int (nI fr)), (3, .int (nI n)), (4, .int (nI 0))] rfl ?_
  refine g_lv [(0, .ref a), (1, .ref xa), (2, .int (nI fr)), (3, .int (nI n)), (4, .int (nI 0))] rfl ?_
  refine loopI (σ := H4) (pbF rt K x fr) (fun k s => s.2.1 < rt) (fun k s => G B M 5 0 0 Q [co a 4 [.ref (q 0), .ref (q 1), .ref (q 2), .int (nI tp), .int cd, .ref (q 3), .ref (q 4), .ref (q 5), .ref (q 6), .ref (q 7), .ref (q 8), .ref (q 9), .ref (q 10), .ref (q 11), .ref (q 12), .ref (q 13), .ref (q 14), .ref (q 15), .int (nI kd), .int (nI rt), .int (nI s.2.1), .long (lN (tt + k)), .ref (q 16), .ref (q 17)], cj B (q 11) 25 s.2.2.1, cb B (q 15) 128 s.1, cj B (q 14) 80 s.2.2.2, cj B (q 4) 80 K, cb B xa xn x] [(0, .ref a), (1, .ref xa), (2, .int (nI fr)), (3, .int (nI n)), (4, .int (nI k))] 3 []) n (g, fl, S, w) hf (fun k s _ h => ptB_lt K _ h) ?_ ?_
  · intro k s hk3 hI3 kk3
    show G B M 5 0 0 Q [co a 4 [.ref (q 0), .ref (q 1), .ref (q 2), .int (nI tp), .int cd, .ref (q 3), .ref (q 4), .ref (q 5), .ref (q 6), .ref (q 7), .ref (q 8), .ref (q 9), .ref (q 10), .ref (q 11), .ref (q 12), .ref (q 13), .ref (q 14), .ref (q 15), .int (nI kd), .int (nI rt), .int (nI s.2.1), .long (lN (tt + k)), .ref (q 16), .ref (q 17)], cj B (q 11) 25 s.2.2.1, cb B (q 15) 128 s.1, cj B (q 14) 80 s.2.2.2, cj B (q 4) 80 K, cb B xa xn x] [(0, .ref a), (1, .ref xa), (2, .int (nI fr)), (3, .int (nI n)), (4, .int (nI k))] 3 []
    refine g_iload (pc := 3) X d_O_put2_3 rfl ?_
    refine g_iload_n (pc := 5) X (i := 3) d_O_put2_5 rfl rfl ?_
    refine g_icmp_geN (pc := 6) X (tgt := 25) d_O_put2_6 (by decide) (by omega) (by omega) (fun h_6 => absurd h_6 (by omega)) (fun h_6 => ?_)
    refine g_aload_n (pc := 9) X (i := 0) d_O_put2_9 rfl rfl ?_
    refine g_aload_n (pc := 10) X (i := 1) d_O_put2_10 rfl rfl ?_
    refine g_iload_n (pc := 11) X (i := 2) d_O_put2_11 rfl rfl ?_
    refine g_iload (pc := 12) X d_O_put2_12 rfl ?_
    refine g_iaddN (pc := 14) X (fr + k) (by omega) d_O_put2_14 ?_
    refine g_bald (pc := 15) X 5 rfl (fr + k) rfl (by omega) (by omega) d_O_put2_15 ?_
    refine g_callVv (pc := 16) (q0 := 0) X (c_O_put_b (m_l M) B a q tp kd rt s.2.1 (tt + k) cd s.1 s.2.2.1 s.2.2.2 K ((x (fr + k)).toInt32) (by omega) (by omega) (by omega)) wd_779 wd_781 wp_O_put wd_5 wd_782 hd_O_put [0, 1, 2, 3, 4] rfl rfl [a, q 11, q 15, q 14, q 4] (fun _ => rfl) rfl rfl rfl (by rw [hR]; decide) (by rw [hR]; decide) rfl (Nat.le_of_ble_eq_true rfl) d_O_put2_16 (fun _ _ => ?_)
    refine g_wsq [co a 4 [.ref (q 0), .ref (q 1), .ref (q 2), .int (nI tp), .int cd, .ref (q 3), .ref (q 4), .ref (q 5), .ref (q 6), .ref (q 7), .ref (q 8), .ref (q 9), .ref (q 10), .ref (q 11), .ref (q 12), .ref (q 13), .ref (q 14), .ref (q 15), .int (nI kd), .int (nI rt), .int (nI ((ptB rt K s ((x (fr + k)).toInt32)).2.1)), .long (lN ((tt + k) + 1)), .ref (q 16), .ref (q 17)], cj B (q 11) 25 ((ptB rt K s ((x (fr + k)).toInt32)).2.2.1), cb B (q 15) 128 ((ptB rt K s ((x (fr + k)).toInt32)).1), cj B (q 14) 80 ((ptB rt K s ((x (fr + k)).toInt32)).2.2.2), cj B (q 4) 80 K, cb B xa xn x] rfl ?_
    refine g_iincN (pc := 19) X (a := k) (k + 1) d_O_put2_19 rfl 1 rfl (by omega) (by decide) ?_
    refine g_lv [(0, .ref a), (1, .ref xa), (2, .int (nI fr)), (3, .int (nI n)), (4, .int (nI (k + 1)))] rfl ?_
    refine g_goto (pc := 22) X (tgt := 3) d_O_put2_22 (by decide) ?_
    refine g_lv [(0, .ref a), (1, .ref xa), (2, .int (nI fr)), (3, .int (nI n)), (4, .int (nI (k + 1)))] rfl ?_
    exact kk3 _ (by rfl)
  · intro hI3
    rw [show it (pbF rt K x fr) n (g, fl, S, w) = rPut rt K x fr n (g, fl, S, w) from rfl] at hI3 ⊢
    show G B M 5 0 0 Q [co a 4 [.ref (q 0), .ref (q 1), .ref (q 2), .int (nI tp), .int cd, .ref (q 3), .ref (q 4), .ref (q 5), .ref (q 6), .ref (q 7), .ref (q 8), .ref (q 9), .ref (q 10), .ref (q 11), .ref (q 12), .ref (q 13), .ref (q 14), .ref (q 15), .int (nI kd), .int (nI rt), .int (nI ((rPut rt K x fr n (g, fl, S, w)).2.1)), .long (lN (tt + n)), .ref (q 16), .ref (q 17)], cj B (q 11) 25 ((rPut rt K x fr n (g, fl, S, w)).2.2.1), cb B (q 15) 128 ((rPut rt K x fr n (g, fl, S, w)).1), cj B (q 14) 80 ((rPut rt K x fr n (g, fl, S, w)).2.2.2), cj B (q 4) 80 K, cb B xa xn x] [(0, .ref a), (1, .ref xa), (2, .int (nI fr)), (3, .int (nI n)), (4, .int (nI n))] 3 []
    refine g_iload (pc := 3) X d_O_put2_3 rfl ?_
    refine g_iload_n (pc := 5) X (i := 3) d_O_put2_5 rfl rfl ?_
    refine g_icmp_geN (pc := 6) X (tgt := 25) d_O_put2_6 (by decide) (by omega) (by omega) (fun h_6 => ?_) (fun h_6 => absurd h_6 (by omega))
    exact kret () _ 25 trivial d_O_put2_25

theorem c_O_put2_s (l : Launch) (B : Bx) (a : Nat) (q : Nat → Nat) (tp : Nat) (kd : Nat) (rt : Nat) (fl : Nat) (tt : Nat) (cd : Int32) (S : Nat → Int64) (o : Nat → Int64) (c : Nat → Int64) (T : Nat → Int32) (rn : Nat → Int64) (xa : Nat) (xn : Nat) (fr : Nat) (n : Nat) (x : Nat → Int8) (hk : 6 < kd) (hk2 : kd ≤ 12) (hr : 0 < rt) (hr2 : rt ≤ 200) (hf : fl < rt) (hx : fr + n ≤ xn) (hx2 : xn < 2 ^ 31) : Cv (S := Unit) l B y_O_put2 b_O_put2 5 (Rm 4 0 0) [.ref a, .ref xa, .int (nI fr), .int (nI n)] [co a 4 [.ref (q 0), .ref (q 1), .ref (q 2), .int (nI tp), .int cd, .ref (q 3), .ref (q 4), .ref (q 5), .ref (q 6), .ref (q 7), .ref (q 8), .ref (q 9), .ref (q 10), .ref (q 11), .ref (q 12), .ref (q 13), .ref (q 14), .ref (q 15), .int (nI kd), .int (nI rt), .int (nI fl), .long (lN tt), .ref (q 16), .ref (q 17)], cj B (q 11) 25 S, cj B (q 12) 25 o, cj B (q 13) 5 c, cn B (q 9) 25 T, cj B (q 10) 24 rn, cb B xa xn x] (fun _ => True) (fun _ => [co a 4 [.ref (q 0), .ref (q 1), .ref (q 2), .int (nI tp), .int cd, .ref (q 3), .ref (q 4), .ref (q 5), .ref (q 6), .ref (q 7), .ref (q 8), .ref (q 9), .ref (q 10), .ref (q 11), .ref (q 12), .ref (q 13), .ref (q 14), .ref (q 15), .int (nI kd), .int (nI rt), .int (nI ((sPut T rn rt x fr n (S, o, c, fl)).2.2.2)), .long (lN (tt + n)), .ref (q 16), .ref (q 17)], cj B (q 11) 25 ((sPut T rn rt x fr n (S, o, c, fl)).1), cj B (q 12) 25 ((sPut T rn rt x fr n (S, o, c, fl)).2.1), cj B (q 13) 5 ((sPut T rn rt x fr n (S, o, c, fl)).2.2.1), cn B (q 9) 25 T, cj B (q 10) 24 rn, cb B xa xn x]) := by
  refine ctr_v (by decide) (Nat.le_of_ble_eq_true rfl) ?_
  intro M Q hl hR hin X kret
  subst hl
  refine g_lv [(0, .ref a), (1, .ref xa), (2, .int (nI fr)), (3, .int (nI n))] rfl ?_
  refine g_iconst (pc := 0) X (v := nI 0) d_O_put2_0 (by decide) ?_
  refine g_istore (pc := 1) X d_O_put2_1 (by decide) ?_
  refine g_lv [(0, .ref a), (1, .ref xa), (2, .int (nI fr)), (3, .int (nI n)), (4, .int (nI 0))] rfl ?_
  refine g_lv [(0, .ref a), (1, .ref xa), (2, .int (nI fr)), (3, .int (nI n)), (4, .int (nI 0))] rfl ?_
  refine loopI (σ := S4) (psF T rn rt x fr) (fun k s => s.2.2.2 < rt) (fun k s => G B M 5 0 0 Q [co a 4 [.ref (q 0), .ref (q 1), .ref (q 2), .int (nI tp), .int cd, .ref (q 3), .ref (q 4), .ref (q 5), .ref (q 6), .ref (q 7), .ref (q 8), .ref (q 9), .ref (q 10), .ref (q 11), .ref (q 12), .ref (q 13), .ref (q 14), .ref (q 15), .int (nI kd), .int (nI rt), .int (nI s.2.2.2), .long (lN (tt + k)), .ref (q 16), .ref (q 17)], cj B (q 11) 25 s.1, cj B (q 12) 25 s.2.1, cj B (q 13) 5 s.2.2.1, cn B (q 9) 25 T, cj B (q 10) 24 rn, cb B xa xn x] [(0, .ref a), (1, .ref xa), (2, .int (nI fr)), (3, .int (nI n)), (4, .int (nI k))] 3 []) n (S, o, c, fl) hf (fun k s _ h => ptS_lt _ h) ?_ ?_
  · intro k s hk3 hI3 kk3
    show G B M 5 0 0 Q [co a 4 [.ref (q 0), .ref (q 1), .ref (q 2), .int (nI tp), .int cd, .ref (q 3), .ref (q 4), .ref (q 5), .ref (q 6), .ref (q 7), .ref (q 8), .ref (q 9), .ref (q 10), .ref (q 11), .ref (q 12), .ref (q 13), .ref (q 14), .ref (q 15), .int (nI kd), .int (nI rt), .int (nI s.2.2.2), .long (lN (tt + k)), .ref (q 16), .ref (q 17)], cj B (q 11) 25 s.1, cj B (q 12) 25 s.2.1, cj B (q 13) 5 s.2.2.1, cn B (q 9) 25 T, cj B (q 10) 24 rn, cb B xa xn x] [(0, .ref a), (1, .ref xa), (2, .int (nI fr)), (3, .int (nI n)), (4, .int (nI k))] 3 []
    refine g_iload (pc := 3) X d_O_put2_3 rfl ?_
    refine g_iload_n (pc := 5) X (i := 3) d_O_put2_5 rfl rfl ?_
    refine g_icmp_geN (pc := 6) X (tgt := 25) d_O_put2_6 (by decide) (by omega) (by omega) (fun h_6 => absurd h_6 (by omega)) (fun h_6 => ?_)
    refine g_aload_n (pc := 9) X (i := 0) d_O_put2_9 rfl rfl ?_
    refine g_aload_n (pc := 10) X (i := 1) d_O_put2_10 rfl rfl ?_
    refine g_iload_n (pc := 11) X (i := 2) d_O_put2_11 rfl rfl ?_
    refine g_iload (pc := 12) X d_O_put2_12 rfl ?_
    refine g_iaddN (pc := 14) X (fr + k) (by omega) d_O_put2_14 ?_
    refine g_bald (pc := 15) X 6 rfl (fr + k) rfl (by omega) (by omega) d_O_put2_15 ?_
    refine g_callVv (pc := 16) (q0 := 0) X (c_O_put_s (m_l M) B a q tp kd rt s.2.2.2 (tt + k) cd s.1 s.2.1 s.2.2.1 T rn ((x (fr + k)).toInt32) (by omega) (by omega) (by omega) (by omega) (by omega)) wd_779 wd_781 wp_O_put wd_5 wd_782 hd_O_put [0, 1, 2, 3, 4, 5] rfl rfl [a, q 11, q 12, q 13, q 9, q 10] (fun _ => rfl) rfl rfl rfl (by rw [hR]; decide) (by rw [hR]; decide) rfl (Nat.le_of_ble_eq_true rfl) d_O_put2_16 (fun _ _ => ?_)
    refine g_wsq [co a 4 [.ref (q 0), .ref (q 1), .ref (q 2), .int (nI tp), .int cd, .ref (q 3), .ref (q 4), .ref (q 5), .ref (q 6), .ref (q 7), .ref (q 8), .ref (q 9), .ref (q 10), .ref (q 11), .ref (q 12), .ref (q 13), .ref (q 14), .ref (q 15), .int (nI kd), .int (nI rt), .int (nI ((ptS T rn rt s ((x (fr + k)).toInt32)).2.2.2)), .long (lN ((tt + k) + 1)), .ref (q 16), .ref (q 17)], cj B (q 11) 25 ((ptS T rn rt s ((x (fr + k)).toInt32)).1), cj B (q 12) 25 ((ptS T rn rt s ((x (fr + k)).toInt32)).2.1), cj B (q 13) 5 ((ptS T rn rt s ((x (fr + k)).toInt32)).2.2.1), cn B (q 9) 25 T, cj B (q 10) 24 rn, cb B xa xn x] rfl ?_
    refine g_iincN (pc := 19) X (a := k) (k + 1) d_O_put2_19 rfl 1 rfl (by omega) (by decide) ?_
    refine g_lv [(0, .ref a), (1, .ref xa), (2, .int (nI fr)), (3, .int (nI n)), (4, .int (nI (k + 1)))] rfl ?_
    refine g_goto (pc := 22) X (tgt := 3) d_O_put2_22 (by decide) ?_
    refine g_lv [(0, .ref a), (1, .ref xa), (2, .int (nI fr)), (3, .int (nI n)), (4, .int (nI (k + 1)))] rfl ?_
    exact kk3 _ (by rfl)
  · intro hI3
    rw [show it (psF T rn rt x fr) n (S, o, c, fl) = sPut T rn rt x fr n (S, o, c, fl) from rfl] at hI3 ⊢
    show G B M 5 0 0 Q [co a 4 [.ref (q 0), .ref (q 1), .ref (q 2), .int (nI tp), .int cd, .ref (q 3), .ref (q 4), .ref (q 5), .ref (q 6), .ref (q 7), .ref (q 8), .ref (q 9), .ref (q 10), .ref (q 11), .ref (q 12), .ref (q 13), .ref (q 14), .ref (q 15), .int (nI kd), .int (nI rt), .int (nI ((sPut T rn rt x fr n (S, o, c, fl)).2.2.2)), .long (lN (tt + n)), .ref (q 16), .ref (q 17)], cj B (q 11) 25 ((sPut T rn rt x fr n (S, o, c, fl)).1), cj B (q 12) 25 ((sPut T rn rt x fr n (S, o, c, fl)).2.1), cj B (q 13) 5 ((sPut T rn rt x fr n (S, o, c, fl)).2.2.1), cn B (q 9) 25 T, cj B (q 10) 24 rn, cb B xa xn x] [(0, .ref a), (1, .ref xa), (2, .int (nI fr)), (3, .int (nI n)), (4, .int (nI n))] 3 []
    refine g_iload (pc := 3) X d_O_put2_3 rfl ?_
    refine g_iload_n (pc := 5) X (i := 3) d_O_put2_5 rfl rfl ?_
    refine g_icmp_geN (pc := 6) X (tgt := 25) d_O_put2_6 (by decide) (by omega) (by omega) (fun h_6 => ?_) (fun h_6 => absurd h_6 (by omega))
    exact kret () _ 25 trivial d_O_put2_25
