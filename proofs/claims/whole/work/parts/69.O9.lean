theorem c_O_digest_b (l : Launch) (B : Bx) (a : Nat) (q : Nat → Nat) (tp : Nat) (kd : Nat) (rt : Nat) (fl : Nat) (tt : Nat) (cd : Int32) (g : Nat → Int8) (S : Nat → Int64) (w : Nat → Int64) (K : Nat → Int64) (k : Nat) (n : Nat) (ro : Nat → Int64) (s2 : Nat → Int64) (s5 : Nat → Int64) (ln : Nat → Nat) (x : Nat → Int8) (o : Nat → Int8) (h1 : 1 ≤ k) (h2 : k ≤ 6) (h3 : ln 3 ≤ 8192) (h4 : n ≤ 8192) : Ci (S := Unit) l B y_O_digest b_O_digest 5 .int (Rm 6 0 0) [.ref a, .int (nI k), .int (nI n)] [co a 4 [.ref (q 0), .ref (q 1), .ref (q 2), .int (nI tp), .int cd, .ref (q 3), .ref (q 4), .ref (q 5), .ref (q 6), .ref (q 7), .ref (q 8), .ref (q 9), .ref (q 10), .ref (q 11), .ref (q 12), .ref (q 13), .ref (q 14), .ref (q 15), .int (nI kd), .int (nI rt), .int (nI fl), .long (lN tt), .ref (q 16), .ref (q 17)], cj B (q 11) 25 S, cb B (q 15) 128 g, cj B (q 14) 80 w, cj B (q 4) 80 K, cj B (q 3) 16 ro, cj B (q 5) 8 s2, cj B (q 6) 8 s5, cq B (q 1) 8 (fun z9 => some (q (20 + z9))), cb B (q 23) 8192 x, cb B (q 26) 8192 o, cn B (q 2) 8 (fun z9 => nI (ln z9))] (fun r _ => r = nI (dgN k)) (fun _ => [co a 4 [.ref (q 0), .ref (q 1), .ref (q 2), .int (nI tp), .int (nI 0), .ref (q 3), .ref (q 4), .ref (q 5), .ref (q 6), .ref (q 7), .ref (q 8), .ref (q 9), .ref (q 10), .ref (q 11), .ref (q 12), .ref (q 13), .ref (q 14), .ref (q 15), .int (nI k), .int (nI (rtN k)), .int (nI ((mkH k ro s2 s5 K x 0 (ln 3) (g, fl, S, w)).2.1)), .long (lN (rFiT (rtN k) K (0 + ln 3) (rPut (rtN k) K x 0 (ln 3) (rBeg k ro s2 s5 (g, fl, S, w))))), .ref (q 16), .ref (q 17)], cj B (q 11) 25 ((mkH k ro s2 s5 K x 0 (ln 3) (g, fl, S, w)).2.2.1), cb B (q 15) 128 ((mkH k ro s2 s5 K x 0 (ln 3) (g, fl, S, w)).1), cj B (q 14) 80 ((mkH k ro s2 s5 K x 0 (ln 3) (g, fl, S, w)).2.2.2), cj B (q 4) 80 K, cj B (q 3) 16 ro, cj B (q 5) 8 s2, cj B (q 6) 8 s5, cq B (q 1) 8 (fun z9 => some (q (20 + z9))), cb B (q 23) 8192 x, cb B (q 26) 8192 (gvS (rtN k) (mkH k ro s2 s5 K x 0 (ln 3) (g, fl, S, w)).2.2.1 o 0 (dgN k)), cn B (q 2) 8 (fun z9 => nI (va_up ln 6 (dgN k) z9))]) := by
  refine ctr_i (by decide) (Nat.le_of_ble_eq_true rfl) ?_
  intro M Q hl hR hin X kret
  subst hl
  have hbl := blN_or k
  have hrt := rtN_b h2
  have hdg := dgN_or k
  refine g_lv [(0, .ref a), (1, .int (nI k)), (2, .int (nI n))] rfl ?_
  refine g_aload_n (pc := 0) X (i := 0) d_O_digest_0 rfl rfl ?_
  refine g_iload_n (pc := 1) X (i := 1) d_O_digest_1 rfl rfl ?_
  refine g_iconst (pc := 2) X (v := nI 1) d_O_digest_2 (by decide) ?_
  refine g_bipush (pc := 3) X (v := nI 16) d_O_digest_3 (by decide) ?_
  refine g_callSi (pc := 5) X (c_O_in_t (m_l M) B (nI k) (nI 1) (nI 16) (inR_n (by omega) (by omega) (by omega))) wd_913 wd_914 wd_5 wd_915 hd_O_in [] rfl rfl [] (fun _ => rfl) rfl (by rw [hR]; decide) (by rw [hR]; decide) rfl (Nat.le_of_ble_eq_true rfl) d_O_digest_5 (fun r9 _ hr9 => ?_)
  subst hr9
  refine g_wsq [co a 4 [.ref (q 0), .ref (q 1), .ref (q 2), .int (nI tp), .int cd, .ref (q 3), .ref (q 4), .ref (q 5), .ref (q 6), .ref (q 7), .ref (q 8), .ref (q 9), .ref (q 10), .ref (q 11), .ref (q 12), .ref (q 13), .ref (q 14), .ref (q 15), .int (nI kd), .int (nI rt), .int (nI fl), .long (lN tt), .ref (q 16), .ref (q 17)], cj B (q 11) 25 S, cb B (q 15) 128 g, cj B (q 14) 80 w, cj B (q 4) 80 K, cj B (q 3) 16 ro, cj B (q 5) 8 s2, cj B (q 6) 8 s5, cq B (q 1) 8 (fun z9 => some (q (20 + z9))), cb B (q 23) 8192 x, cb B (q 26) 8192 o, cn B (q 2) 8 (fun z9 => nI (ln z9))] rfl ?_
  refine g_if_eqN (pc := 8) X (tgt := 26) d_O_digest_8 (by decide) (by omega) (fun h_8 => absurd h_8 (by omega)) (fun h_8 => ?_)
  refine g_iload_n (pc := 11) X (i := 2) d_O_digest_11 rfl rfl ?_
  refine g_iconst (pc := 12) X (v := nI 0) d_O_digest_12 (by decide) ?_
  refine g_sipush (pc := 13) X (v := nI 8192) d_O_digest_13 (by decide) ?_
  refine g_callSi (pc := 16) X (c_O_in_t (m_l M) B (nI n) (nI 0) (nI 8192) (inR_n (by omega) (by omega) (by omega))) wd_913 wd_914 wd_5 wd_915 hd_O_in [] rfl rfl [] (fun _ => rfl) rfl (by rw [hR]; decide) (by rw [hR]; decide) rfl (Nat.le_of_ble_eq_true rfl) d_O_digest_16 (fun r9 _ hr9 => ?_)
  subst hr9
  refine g_wsq [co a 4 [.ref (q 0), .ref (q 1), .ref (q 2), .int (nI tp), .int cd, .ref (q 3), .ref (q 4), .ref (q 5), .ref (q 6), .ref (q 7), .ref (q 8), .ref (q 9), .ref (q 10), .ref (q 11), .ref (q 12), .ref (q 13), .ref (q 14), .ref (q 15), .int (nI kd), .int (nI rt), .int (nI fl), .long (lN tt), .ref (q 16), .ref (q 17)], cj B (q 11) 25 S, cb B (q 15) 128 g, cj B (q 14) 80 w, cj B (q 4) 80 K, cj B (q 3) 16 ro, cj B (q 5) 8 s2, cj B (q 6) 8 s5, cq B (q 1) 8 (fun z9 => some (q (20 + z9))), cb B (q 23) 8192 x, cb B (q 26) 8192 o, cn B (q 2) 8 (fun z9 => nI (ln z9))] rfl ?_
  refine g_if_eqN (pc := 19) X (tgt := 26) d_O_digest_19 (by decide) (by omega) (fun h_19 => absurd h_19 (by omega)) (fun h_19 => ?_)
  refine g_iconst (pc := 22) X (v := nI 1) d_O_digest_22 (by decide) ?_
  refine g_goto (pc := 23) X (tgt := 27) d_O_digest_23 (by decide) ?_
  refine g_iconst (pc := 27) X (v := nI 1) d_O_digest_27 (by decide) ?_
  refine g_callVi (pc := 28) (q0 := 0) X (c_O_good_t (m_l M) B a q tp kd rt fl tt cd (nI 1) ) wd_901 wd_903 wp_O_good wd_5 wd_904 hd_O_good [0] rfl rfl [a] (fun _ => rfl) rfl rfl rfl (by rw [hR]; decide) (by rw [hR]; decide) rfl (Nat.le_of_ble_eq_true rfl) d_O_digest_28 (fun r9 _ hr9 => ?_)
  subst hr9
  refine g_wsq [co a 4 [.ref (q 0), .ref (q 1), .ref (q 2), .int (nI tp), .int (nI 0), .ref (q 3), .ref (q 4), .ref (q 5), .ref (q 6), .ref (q 7), .ref (q 8), .ref (q 9), .ref (q 10), .ref (q 11), .ref (q 12), .ref (q 13), .ref (q 14), .ref (q 15), .int (nI kd), .int (nI rt), .int (nI fl), .long (lN tt), .ref (q 16), .ref (q 17)], cj B (q 11) 25 S, cb B (q 15) 128 g, cj B (q 14) 80 w, cj B (q 4) 80 K, cj B (q 3) 16 ro, cj B (q 5) 8 s2, cj B (q 6) 8 s5, cq B (q 1) 8 (fun z9 => some (q (20 + z9))), cb B (q 23) 8192 x, cb B (q 26) 8192 o, cn B (q 2) 8 (fun z9 => nI (ln z9))] rfl ?_
  refine g_if_neN (pc := 31) X (tgt := 36) d_O_digest_31 (by decide) (by omega) (fun h_31 => ?_) (fun h_31 => absurd h_31 (by omega))
  refine g_iload_n (pc := 36) X (i := 1) d_O_digest_36 rfl rfl ?_
  refine g_bipush (pc := 37) X (v := nI 13) d_O_digest_37 (by decide) ?_
  refine g_icmp_neN (pc := 39) X (tgt := 47) d_O_digest_39 (by decide) (by omega) (by omega) (fun h_39 => ?_) (fun h_39 => absurd h_39 (by omega))
  refine g_iload_n (pc := 47) X (i := 1) d_O_digest_47 rfl rfl ?_
  refine g_bipush (pc := 48) X (v := nI 14) d_O_digest_48 (by decide) ?_
  refine g_icmp_neN (pc := 50) X (tgt := 58) d_O_digest_50 (by decide) (by omega) (by omega) (fun h_50 => ?_) (fun h_50 => absurd h_50 (by omega))
  refine g_iload_n (pc := 58) X (i := 1) d_O_digest_58 rfl rfl ?_
  refine g_bipush (pc := 59) X (v := nI 14) d_O_digest_59 (by decide) ?_
  refine g_icmp_gtN (pc := 61) X (tgt := 76) d_O_digest_61 (by decide) (by omega) (by omega) (fun h_61 => absurd h_61 (by omega)) (fun h_61 => ?_)
  refine g_iload_n (pc := 64) X (i := 1) d_O_digest_64 rfl rfl ?_
  refine g_bipush (pc := 65) X (v := nI 10) d_O_digest_65 (by decide) ?_
  refine g_icmp_leN (pc := 67) X (tgt := 80) d_O_digest_67 (by decide) (by omega) (by omega) (fun h_67 => ?_) (fun h_67 => absurd h_67 (by omega))
  refine g_iload_n (pc := 80) X (i := 1) d_O_digest_80 rfl rfl ?_
  refine g_callSi (pc := 81) X (c_O_digestOf (m_l M) B k (by omega) (by omega)) wd_771 wd_772 wd_5 wd_773 hd_O_digestOf [] rfl rfl [] (fun _ => rfl) rfl (by rw [hR]; decide) (by rw [hR]; decide) rfl (Nat.le_of_ble_eq_true rfl) d_O_digest_81 (fun r9 _ hr9 => ?_)
  subst hr9
  refine g_wsq [co a 4 [.ref (q 0), .ref (q 1), .ref (q 2), .int (nI tp), .int (nI 0), .ref (q 3), .ref (q 4), .ref (q 5), .ref (q 6), .ref (q 7), .ref (q 8), .ref (q 9), .ref (q 10), .ref (q 11), .ref (q 12), .ref (q 13), .ref (q 14), .ref (q 15), .int (nI kd), .int (nI rt), .int (nI fl), .long (lN tt), .ref (q 16), .ref (q 17)], cj B (q 11) 25 S, cb B (q 15) 128 g, cj B (q 14) 80 w, cj B (q 4) 80 K, cj B (q 3) 16 ro, cj B (q 5) 8 s2, cj B (q 6) 8 s5, cq B (q 1) 8 (fun z9 => some (q (20 + z9))), cb B (q 23) 8192 x, cb B (q 26) 8192 o, cn B (q 2) 8 (fun z9 => nI (ln z9))] rfl ?_
  refine g_istore_n (pc := 84) X (i := 3) d_O_digest_84 rfl (by decide) ?_
  refine g_lv [(0, .ref a), (1, .int (nI k)), (2, .int (nI n)), (3, .int (nI (dgN k)))] rfl ?_
  refine g_iload_n (pc := 85) X (i := 1) d_O_digest_85 rfl rfl ?_
  refine g_bipush (pc := 86) X (v := nI 13) d_O_digest_86 (by decide) ?_
  refine g_icmp_geN (pc := 88) X (tgt := 129) d_O_digest_88 (by decide) (by omega) (by omega) (fun h_88 => absurd h_88 (by omega)) (fun h_88 => ?_)
  refine g_aload_n (pc := 91) X (i := 0) d_O_digest_91 rfl rfl ?_
  refine g_iload_n (pc := 92) X (i := 1) d_O_digest_92 rfl rfl ?_
  refine g_callVv (pc := 93) (q0 := 0) X (c_O_begin_b (m_l M) B a q tp kd rt fl tt (nI 0) k S ro s2 s5 (by omega) (by omega)) wd_767 wd_769 wp_O_begin wd_5 wd_770 hd_O_begin [0, 1, 5, 6, 7] rfl rfl [a, q 11, q 3, q 5, q 6] (fun _ => rfl) rfl rfl rfl (by rw [hR]; decide) (by rw [hR]; decide) rfl (Nat.le_of_ble_eq_true rfl) d_O_digest_93 (fun _ _ => ?_)
  refine g_wsq [co a 4 [.ref (q 0), .ref (q 1), .ref (q 2), .int (nI tp), .int (nI 0), .ref (q 3), .ref (q 4), .ref (q 5), .ref (q 6), .ref (q 7), .ref (q 8), .ref (q 9), .ref (q 10), .ref (q 11), .ref (q 12), .ref (q 13), .ref (q 14), .ref (q 15), .int (nI k), .int (nI (rtN k)), .int (nI 0), .long (lN 0), .ref (q 16), .ref (q 17)], cj B (q 11) 25 (bgS k ro s2 s5 S), cb B (q 15) 128 g, cj B (q 14) 80 w, cj B (q 4) 80 K, cj B (q 3) 16 ro, cj B (q 5) 8 s2, cj B (q 6) 8 s5, cq B (q 1) 8 (fun z9 => some (q (20 + z9))), cb B (q 23) 8192 x, cb B (q 26) 8192 o, cn B (q 2) 8 (fun z9 => nI (ln z9))] rfl ?_
  refine g_aload_n (pc := 96) X (i := 0) d_O_digest_96 rfl rfl ?_
  refine g_aload_n (pc := 97) X (i := 0) d_O_digest_97 rfl rfl ?_
  refine g_get (pc := 98) X in_O 0 rfl rfl 1 (by decide) wd_820 rfl d_O_digest_98 ?_
  refine g_iconst (pc := 101) X (v := nI 3) d_O_digest_101 (by decide) ?_
  refine g_qald (pc := 102) X 8 rfl 3 rfl (by omega) (by omega) (r := q 23) rfl d_O_digest_102 ?_
  refine g_iconst (pc := 103) X (v := nI 0) d_O_digest_103 (by decide) ?_
  refine g_aload_n (pc := 104) X (i := 0) d_O_digest_104 rfl rfl ?_
  refine g_get (pc := 105) X in_O 0 rfl rfl 2 (by decide) wd_821 rfl d_O_digest_105 ?_
  refine g_iconst (pc := 108) X (v := nI 3) d_O_digest_108 (by decide) ?_
  refine g_iald (pc := 109) X 11 rfl 3 rfl (by omega) (by omega) d_O_digest_109 ?_
  refine g_callVv (pc := 110) (q0 := 0) X (c_O_put2_b (m_l M) B a q tp k (rtN k) 0 0 (nI 0) g (bgS k ro s2 s5 S) w K (q 23) 8192 0 (ln 3) x (by omega) (by omega) (show 0 < rtN k by omega) (by omega) (by omega)) wd_944 wd_946 wp_O_put2 wd_5 wd_947 hd_O_put2 [0, 1, 2, 3, 4, 9] rfl rfl [a, q 11, q 15, q 14, q 4, q 23] (fun _ => rfl) rfl rfl rfl (by rw [hR]; decide) (by rw [hR]; decide) rfl (Nat.le_of_ble_eq_true rfl) d_O_digest_110 (fun _ _ => ?_)
  refine g_wsq [co a 4 [.ref (q 0), .ref (q 1), .ref (q 2), .int (nI tp), .int (nI 0), .ref (q 3), .ref (q 4), .ref (q 5), .ref (q 6), .ref (q 7), .ref (q 8), .ref (q 9), .ref (q 10), .ref (q 11), .ref (q 12), .ref (q 13), .ref (q 14), .ref (q 15), .int (nI k), .int (nI (rtN k)), .int (nI ((rPut (rtN k) K x 0 (ln 3) (g, 0, (bgS k ro s2 s5 S), w)).2.1)), .long (lN (0 + (ln 3))), .ref (q 16), .ref (q 17)], cj B (q 11) 25 ((rPut (rtN k) K x 0 (ln 3) (g, 0, (bgS k ro s2 s5 S), w)).2.2.1), cb B (q 15) 128 ((rPut (rtN k) K x 0 (ln 3) (g, 0, (bgS k ro s2 s5 S), w)).1), cj B (q 14) 80 ((rPut (rtN k) K x 0 (ln 3) (g, 0, (bgS k ro s2 s5 S), w)).2.2.2), cj B (q 4) 80 K, cj B (q 3) 16 ro, cj B (q 5) 8 s2, cj B (q 6) 8 s5, cq B (q 1) 8 (fun z9 => some (q (20 + z9))), cb B (q 23) 8192 x, cb B (q 26) 8192 o, cn B (q 2) 8 (fun z9 => nI (ln z9))] rfl ?_
  refine g_aload_n (pc := 113) X (i := 0) d_O_digest_113 rfl rfl ?_
  refine g_aload_n (pc := 114) X (i := 0) d_O_digest_114 rfl rfl ?_
  refine g_get (pc := 115) X in_O 0 rfl rfl 1 (by decide) wd_820 rfl d_O_digest_115 ?_
  refine g_bipush (pc := 118) X (v := nI 6) d_O_digest_118 (by decide) ?_
  refine g_qald (pc := 120) X 8 rfl 6 rfl (by omega) (by omega) (r := q 26) rfl d_O_digest_120 ?_
  refine g_iconst (pc := 121) X (v := nI 0) d_O_digest_121 (by decide) ?_
  refine g_iload_n (pc := 122) X (i := 3) d_O_digest_122 rfl rfl ?_
  refine g_callVv (pc := 123) (q0 := 0) X (c_O_give_b (m_l M) B a q tp k (rtN k) ((rPut (rtN k) K x 0 (ln 3) (g, 0, (bgS k ro s2 s5 S), w)).2.1) (0 + (ln 3)) (nI 0) ((rPut (rtN k) K x 0 (ln 3) (g, 0, (bgS k ro s2 s5 S), w)).1) ((rPut (rtN k) K x 0 (ln 3) (g, 0, (bgS k ro s2 s5 S), w)).2.2.1) ((rPut (rtN k) K x 0 (ln 3) (g, 0, (bgS k ro s2 s5 S), w)).2.2.2) K (q 26) 8192 0 (dgN k) o (by omega) (by omega) (rPut_lt K _ _ _ (show 0 < rtN k by omega)) (by omega) (by omega) (by omega)) wd_948 wd_950 wp_O_give wd_5 wd_951 hd_O_give [0, 1, 2, 3, 4, 10] rfl rfl [a, q 11, q 15, q 14, q 4, q 26] (fun _ => rfl) rfl rfl rfl (by rw [hR]; decide) (by rw [hR]; decide) rfl (Nat.le_of_ble_eq_true rfl) d_O_digest_123 (fun _ _ => ?_)
  refine g_wsq [co a 4 [.ref (q 0), .ref (q 1), .ref (q 2), .int (nI tp), .int (nI 0), .ref (q 3), .ref (q 4), .ref (q 5), .ref (q 6), .ref (q 7), .ref (q 8), .ref (q 9), .ref (q 10), .ref (q 11), .ref (q 12), .ref (q 13), .ref (q 14), .ref (q 15), .int (nI k), .int (nI (rtN k)), .int (nI ((rFin (rtN k) K (lN (0 + (ln 3))) (rPut (rtN k) K x 0 (ln 3) (g, 0, (bgS k ro s2 s5 S), w))).2.1)), .long (lN (rFiT (rtN k) K (0 + (ln 3)) (rPut (rtN k) K x 0 (ln 3) (g, 0, (bgS k ro s2 s5 S), w)))), .ref (q 16), .ref (q 17)], cj B (q 11) 25 ((rFin (rtN k) K (lN (0 + (ln 3))) (rPut (rtN k) K x 0 (ln 3) (g, 0, (bgS k ro s2 s5 S), w))).2.2.1), cb B (q 15) 128 ((rFin (rtN k) K (lN (0 + (ln 3))) (rPut (rtN k) K x 0 (ln 3) (g, 0, (bgS k ro s2 s5 S), w))).1), cj B (q 14) 80 ((rFin (rtN k) K (lN (0 + (ln 3))) (rPut (rtN k) K x 0 (ln 3) (g, 0, (bgS k ro s2 s5 S), w))).2.2.2), cj B (q 4) 80 K, cj B (q 3) 16 ro, cj B (q 5) 8 s2, cj B (q 6) 8 s5, cq B (q 1) 8 (fun z9 => some (q (20 + z9))), cb B (q 23) 8192 x, cb B (q 26) 8192 (gvS (rtN k) (rFin (rtN k) K (lN (0 + (ln 3))) (rPut (rtN k) K x 0 (ln 3) (g, 0, (bgS k ro s2 s5 S), w))).2.2.1 o 0 (dgN k)), cn B (q 2) 8 (fun z9 => nI (ln z9))] rfl ?_
  refine g_goto (pc := 126) X (tgt := 238) d_O_digest_126 (by decide) ?_
  refine g_aload_n (pc := 238) X (i := 0) d_O_digest_238 rfl rfl ?_
  refine g_get (pc := 239) X in_O 0 rfl rfl 2 (by decide) wd_821 rfl d_O_digest_239 ?_
  refine g_bipush (pc := 242) X (v := nI 6) d_O_digest_242 (by decide) ?_
  refine g_iload_n (pc := 244) X (i := 3) d_O_digest_244 rfl rfl ?_
  refine g_iast (pc := 245) X 11 rfl 6 rfl (by omega) (by omega) d_O_digest_245 ?_
  refine g_wsq [co a 4 [.ref (q 0), .ref (q 1), .ref (q 2), .int (nI tp), .int (nI 0), .ref (q 3), .ref (q 4), .ref (q 5), .ref (q 6), .ref (q 7), .ref (q 8), .ref (q 9), .ref (q 10), .ref (q 11), .ref (q 12), .ref (q 13), .ref (q 14), .ref (q 15), .int (nI k), .int (nI (rtN k)), .int (nI ((rFin (rtN k) K (lN (0 + (ln 3))) (rPut (rtN k) K x 0 (ln 3) (g, 0, (bgS k ro s2 s5 S), w))).2.1)), .long (lN (rFiT (rtN k) K (0 + (ln 3)) (rPut (rtN k) K x 0 (ln 3) (g, 0, (bgS k ro s2 s5 S), w)))), .ref (q 16), .ref (q 17)], cj B (q 11) 25 ((rFin (rtN k) K (lN (0 + (ln 3))) (rPut (rtN k) K x 0 (ln 3) (g, 0, (bgS k ro s2 s5 S), w))).2.2.1), cb B (q 15) 128 ((rFin (rtN k) K (lN (0 + (ln 3))) (rPut (rtN k) K x 0 (ln 3) (g, 0, (bgS k ro s2 s5 S), w))).1), cj B (q 14) 80 ((rFin (rtN k) K (lN (0 + (ln 3))) (rPut (rtN k) K x 0 (ln 3) (g, 0, (bgS k ro s2 s5 S), w))).2.2.2), cj B (q 4) 80 K, cj B (q 3) 16 ro, cj B (q 5) 8 s2, cj B (q 6) 8 s5, cq B (q 1) 8 (fun z9 => some (q (20 + z9))), cb B (q 23) 8192 x, cb B (q 26) 8192 (gvS (rtN k) (rFin (rtN k) K (lN (0 + (ln 3))) (rPut (rtN k) K x 0 (ln 3) (g, 0, (bgS k ro s2 s5 S), w))).2.2.1 o 0 (dgN k)), cn B (q 2) 8 (va_up (fun z9 => nI (ln z9)) 6 (nI (dgN k)))] rfl ?_
  refine g_iload_n (pc := 246) X (i := 3) d_O_digest_246 rfl rfl ?_
  refine g_wsq [co a 4 [.ref (q 0), .ref (q 1), .ref (q 2), .int (nI tp), .int (nI 0), .ref (q 3), .ref (q 4), .ref (q 5), .ref (q 6), .ref (q 7), .ref (q 8), .ref (q 9), .ref (q 10), .ref (q 11), .ref (q 12), .ref (q 13), .ref (q 14), .ref (q 15), .int (nI k), .int (nI (rtN k)), .int (nI ((mkH k ro s2 s5 K x 0 (ln 3) (g, fl, S, w)).2.1)), .long (lN (rFiT (rtN k) K (0 + ln 3) (rPut (rtN k) K x 0 (ln 3) (rBeg k ro s2 s5 (g, fl, S, w))))), .ref (q 16), .ref (q 17)], cj B (q 11) 25 ((mkH k ro s2 s5 K x 0 (ln 3) (g, fl, S, w)).2.2.1), cb B (q 15) 128 ((mkH k ro s2 s5 K x 0 (ln 3) (g, fl, S, w)).1), cj B (q 14) 80 ((mkH k ro s2 s5 K x 0 (ln 3) (g, fl, S, w)).2.2.2), cj B (q 4) 80 K, cj B (q 3) 16 ro, cj B (q 5) 8 s2, cj B (q 6) 8 s5, cq B (q 1) 8 (fun z9 => some (q (20 + z9))), cb B (q 23) 8192 x, cb B (q 26) 8192 (gvS (rtN k) (mkH k ro s2 s5 K x 0 (ln 3) (g, fl, S, w)).2.2.1 o 0 (dgN k)), cn B (q 2) 8 (fun z9 => nI (va_up ln 6 (dgN k) z9))] (by rw [nI_up] <;> rfl) ?_
  exact kret _ () _ 247 rfl d_O_digest_247

theorem c_O_digest_b1 (l : Launch) (B : Bx) (a : Nat) (q : Nat → Nat) (tp : Nat) (kd : Nat) (rt : Nat) (fl : Nat) (tt : Nat) (cd : Int32) (x : Int32) (y : Int32) (h1 : inR x (nI 1) (nI 16) = nI 0) : Ci (S := Unit) l B y_O_digest b_O_digest 5 .int (Rm 2 0 0) [.ref a, .int x, .int y] [co a 4 [.ref (q 0), .ref (q 1), .ref (q 2), .int (nI tp), .int cd, .ref (q 3), .ref (q 4), .ref (q 5), .ref (q 6), .ref (q 7), .ref (q 8), .ref (q 9), .ref (q 10), .ref (q 11), .ref (q 12), .ref (q 13), .ref (q 14), .ref (q 15), .int (nI kd), .int (nI rt), .int (nI fl), .long (lN tt), .ref (q 16), .ref (q 17)]] (fun r _ => r = nI 0) (fun _ => [co a 4 [.ref (q 0), .ref (q 1), .ref (q 2), .int (nI tp), .int (nI 1), .ref (q 3), .ref (q 4), .ref (q 5), .ref (q 6), .ref (q 7), .ref (q 8), .ref (q 9), .ref (q 10), .ref (q 11), .ref (q 12), .ref (q 13), .ref (q 14), .ref (q 15), .int (nI kd), .int (nI rt), .int (nI fl), .long (lN tt), .ref (q 16), .ref (q 17)]]) := by
  refine ctr_i (by decide) (Nat.le_of_ble_eq_true rfl) ?_
  intro M Q hl hR hin X kret
  subst hl
  refine g_lv [(0, .ref a), (1, .int x), (2, .int y)] rfl ?_
  refine g_aload_n (pc := 0) X (i := 0) d_O_digest_0 rfl rfl ?_
  refine g_iload_n (pc := 1) X (i := 1) d_O_digest_1 rfl rfl ?_
  refine g_iconst (pc := 2) X (v := nI 1) d_O_digest_2 (by decide) ?_
  refine g_bipush (pc := 3) X (v := nI 16) d_O_digest_3 (by decide) ?_
  refine g_callSi (pc := 5) X (c_O_in_f (m_l M) B x (nI 1) (nI 16) h1) wd_913 wd_914 wd_5 wd_915 hd_O_in [] rfl rfl [] (fun _ => rfl) rfl (by rw [hR]; decide) (by rw [hR]; decide) rfl (Nat.le_of_ble_eq_true rfl) d_O_digest_5 (fun r9 _ hr9 => ?_)
  subst hr9
  refine g_wsq [co a 4 [.ref (q 0), .ref (q 1), .ref (q 2), .int (nI tp), .int cd, .ref (q 3), .ref (q 4), .ref (q 5), .ref (q 6), .ref (q 7), .ref (q 8), .ref (q 9), .ref (q 10), .ref (q 11), .ref (q 12), .ref (q 13), .ref (q 14), .ref (q 15), .int (nI kd), .int (nI rt), .int (nI fl), .long (lN tt), .ref (q 16), .ref (q 17)]] rfl ?_
  refine g_if_eqN (pc := 8) X (tgt := 26) d_O_digest_8 (by decide) (by omega) (fun h_8 => ?_) (fun h_8 => absurd h_8 (by omega))
  refine g_iconst (pc := 26) X (v := nI 0) d_O_digest_26 (by decide) ?_
  refine g_iconst (pc := 27) X (v := nI 1) d_O_digest_27 (by decide) ?_
  refine g_callVi (pc := 28) (q0 := 0) X (c_O_good_f (m_l M) B a q tp kd rt fl tt cd (nI 1) ) wd_901 wd_903 wp_O_good wd_5 wd_904 hd_O_good [0] rfl rfl [a] (fun _ => rfl) rfl rfl rfl (by rw [hR]; decide) (by rw [hR]; decide) rfl (Nat.le_of_ble_eq_true rfl) d_O_digest_28 (fun r9 _ hr9 => ?_)
  subst hr9
  refine g_wsq [co a 4 [.ref (q 0), .ref (q 1), .ref (q 2), .int (nI tp), .int (nI 1), .ref (q 3), .ref (q 4), .ref (q 5), .ref (q 6), .ref (q 7), .ref (q 8), .ref (q 9), .ref (q 10), .ref (q 11), .ref (q 12), .ref (q 13), .ref (q 14), .ref (q 15), .int (nI kd), .int (nI rt), .int (nI fl), .long (lN tt), .ref (q 16), .ref (q 17)]] rfl ?_
  refine g_if_neN (pc := 31) X (tgt := 36) d_O_digest_31 (by decide) (by omega) (fun h_31 => absurd h_31 (by omega)) (fun h_31 => ?_)
  refine g_iconst (pc := 34) X (v := nI 0) d_O_digest_34 (by decide) ?_
  exact kret _ () _ 35 rfl d_O_digest_35

theorem c_O_digest_b2 (l : Launch) (B : Bx) (a : Nat) (q : Nat → Nat) (tp : Nat) (kd : Nat) (rt : Nat) (fl : Nat) (tt : Nat) (cd : Int32) (x : Int32) (y : Int32) (h1 : inR x (nI 1) (nI 16) = nI 1) (h2 : inR y (nI 0) (nI 8192) = nI 0) : Ci (S := Unit) l B y_O_digest b_O_digest 5 .int (Rm 2 0 0) [.ref a, .int x, .int y] [co a 4 [.ref (q 0), .ref (q 1), .ref (q 2), .int (nI tp), .int cd, .ref (q 3), .ref (q 4), .ref (q 5), .ref (q 6), .ref (q 7), .ref (q 8), .ref (q 9), .ref (q 10), .ref (q 11), .ref (q 12), .ref (q 13), .ref (q 14), .ref (q 15), .int (nI kd), .int (nI rt), .int (nI fl), .long (lN tt), .ref (q 16), .ref (q 17)]] (fun r _ => r = nI 0) (fun _ => [co a 4 [.ref (q 0), .ref (q 1), .ref (q 2), .int (nI tp), .int (nI 1), .ref (q 3), .ref (q 4), .ref (q 5), .ref (q 6), .ref (q 7), .ref (q 8), .ref (q 9), .ref (q 10), .ref (q 11), .ref (q 12), .ref (q 13), .ref (q 14), .ref (q 15), .int (nI kd), .int (nI rt), .int (nI fl), .long (lN tt), .ref (q 16), .ref (q 17)]]) := by
  refine ctr_i (by decide) (Nat.le_of_ble_eq_true rfl) ?_
  intro M Q hl hR hin X kret
  subst hl
  refine g_lv [(0, .ref a), (1, .int x), (2, .int y)] rfl ?_
  refine g_aload_n (pc := 0) X (i := 0) d_O_digest_0 rfl rfl ?_
  refine g_iload_n (pc := 1) X (i := 1) d_O_digest_1 rfl rfl ?_
  refine g_iconst (pc := 2) X (v := nI 1) d_O_digest_2 (by decide) ?_
  refine g_bipush (pc := 3) X (v := nI 16) d_O_digest_3 (by decide) ?_
  refine g_callSi (pc := 5) X (c_O_in_t (m_l M) B x (nI 1) (nI 16) h1) wd_913 wd_914 wd_5 wd_915 hd_O_in [] rfl rfl [] (fun _ => rfl) rfl (by rw [hR]; decide) (by rw [hR]; decide) rfl (Nat.le_of_ble_eq_true rfl) d_O_digest_5 (fun r9 _ hr9 => ?_)
  subst hr9
  refine g_wsq [co a 4 [.ref (q 0), .ref (q 1), .ref (q 2), .int (nI tp), .int cd, .ref (q 3), .ref (q 4), .ref (q 5), .ref (q 6), .ref (q 7), .ref (q 8), .ref (q 9), .ref (q 10), .ref (q 11), .ref (q 12), .ref (q 13), .ref (q 14), .ref (q 15), .int (nI kd), .int (nI rt), .int (nI fl), .long (lN tt), .ref (q 16), .ref (q 17)]] rfl ?_
  refine g_if_eqN (pc := 8) X (tgt := 26) d_O_digest_8 (by decide) (by omega) (fun h_8 => absurd h_8 (by omega)) (fun h_8 => ?_)
  refine g_iload_n (pc := 11) X (i := 2) d_O_digest_11 rfl rfl ?_
  refine g_iconst (pc := 12) X (v := nI 0) d_O_digest_12 (by decide) ?_
  refine g_sipush (pc := 13) X (v := nI 8192) d_O_digest_13 (by decide) ?_
  refine g_callSi (pc := 16) X (c_O_in_f (m_l M) B y (nI 0) (nI 8192) h2) wd_913 wd_914 wd_5 wd_915 hd_O_in [] rfl rfl [] (fun _ => rfl) rfl (by rw [hR]; decide) (by rw [hR]; decide) rfl (Nat.le_of_ble_eq_true rfl) d_O_digest_16 (fun r9 _ hr9 => ?_)
  subst hr9
  refine g_wsq [co a 4 [.ref (q 0), .ref (q 1), .ref (q 2), .int (nI tp), .int cd, .ref (q 3), .ref (q 4), .ref (q 5), .ref (q 6), .ref (q 7), .ref (q 8), .ref (q 9), .ref (q 10), .ref (q 11), .ref (q 12), .ref (q 13), .ref (q 14), .ref (q 15), .int (nI kd), .int (nI rt), .int (nI fl), .long (lN tt), .ref (q 16), .ref (q 17)]] rfl ?_
  refine g_if_eqN (pc := 19) X (tgt := 26) d_O_digest_19 (by decide) (by omega) (fun h_19 => ?_) (fun h_19 => absurd h_19 (by omega))
  refine g_iconst (pc := 26) X (v := nI 0) d_O_digest_26 (by decide) ?_
  refine g_iconst (pc := 27) X (v := nI 1) d_O_digest_27 (by decide) ?_
  refine g_callVi (pc := 28) (q0 := 0) X (c_O_good_f (m_l M) B a q tp kd rt fl tt cd (nI 1) ) wd_901 wd_903 wp_O_good wd_5 wd_904 hd_O_good [0] rfl rfl [a] (fun _ => rfl) rfl rfl rfl (by rw [hR]; decide) (by rw [hR]; decide) rfl (Nat.le_of_ble_eq_true rfl) d_O_digest_28 (fun r9 _ hr9 => ?_)
  subst hr9
  refine g_wsq [co a 4 [.ref (q 0), .ref (q 1), .ref (q 2), .int (nI tp), .int (nI 1), .ref (q 3), .ref (q 4), .ref (q 5), .ref (q 6), .ref (q 7), .ref (q 8), .ref (q 9), .ref (q 10), .ref (q 11), .ref (q 12), .ref (q 13), .ref (q 14), .ref (q 15), .int (nI kd), .int (nI rt), .int (nI fl), .long (lN tt), .ref (q 16), .ref (q 17)]] rfl ?_
  refine g_if_neN (pc := 31) X (tgt := 36) d_O_digest_31 (by decide) (by omega) (fun h_31 => absurd h_31 (by omega)) (fun h_31 => ?_)
  refine g_iconst (pc := 34) X (v := nI 0) d_O_digest_34 (by decide) ?_
  exact kret _ () _ 35 rfl d_O_digest_35

theorem c_O_digest_s (l : Launch) (B : Bx) (a : Nat) (q : Nat → Nat) (tp : Nat) (kd : Nat) (rt : Nat) (fl : Nat) (tt : Nat) (cd : Int32) (S : Nat → Int64) (o : Nat → Int64) (c : Nat → Int64) (T : Nat → Int32) (rn : Nat → Int64) (k : Nat) (n : Nat) (ln : Nat → Nat) (x : Nat → Int8) (u : Nat → Int8) (h1 : 6 < k) (h2 : k ≤ 12) (h3 : ln 3 ≤ 8192) (h4 : n ≤ 8192) (h5 : k ≤ 10) : Ci (S := Unit) l B y_O_digest b_O_digest 5 .int (Rm 6 0 0) [.ref a, .int (nI k), .int (nI n)] [co a 4 [.ref (q 0), .ref (q 1), .ref (q 2), .int (nI tp), .int cd, .ref (q 3), .ref (q 4), .ref (q 5), .ref (q 6), .ref (q 7), .ref (q 8), .ref (q 9), .ref (q 10), .ref (q 11), .ref (q 12), .ref (q 13), .ref (q 14), .ref (q 15), .int (nI kd), .int (nI rt), .int (nI fl), .long (lN tt), .ref (q 16), .ref (q 17)], cj B (q 11) 25 S, cj B (q 12) 25 o, cj B (q 13) 5 c, cn B (q 9) 25 T, cj B (q 10) 24 rn, cq B (q 1) 8 (fun z9 => some (q (20 + z9))), cb B (q 23) 8192 x, cb B (q 26) 8192 u, cn B (q 2) 8 (fun z9 => nI (ln z9))] (fun r _ => r = nI (sgN k n)) (fun _ => [co a 4 [.ref (q 0), .ref (q 1), .ref (q 2), .int (nI tp), .int (nI 0), .ref (q 3), .ref (q 4), .ref (q 5), .ref (q 6), .ref (q 7), .ref (q 8), .ref (q 9), .ref (q 10), .ref (q 11), .ref (q 12), .ref (q 13), .ref (q 14), .ref (q 15), .int (nI k), .int (nI (rtN k)), .int (nI ((gsS T rn (rtN k) 0 (sgN k n) (sFin T rn (rtN k) k (sPut T rn (rtN k) x 0 (ln 3) (fil S 0 25 0, o, c, 0))) u).2.2.2.1)), .long (lN (0 + ln 3)), .ref (q 16), .ref (q 17)], cj B (q 11) 25 ((gsS T rn (rtN k) 0 (sgN k n) (sFin T rn (rtN k) k (sPut T rn (rtN k) x 0 (ln 3) (fil S 0 25 0, o, c, 0))) u).1), cj B (q 12) 25 ((gsS T rn (rtN k) 0 (sgN k n) (sFin T rn (rtN k) k (sPut T rn (rtN k) x 0 (ln 3) (fil S 0 25 0, o, c, 0))) u).2.1), cj B (q 13) 5 ((gsS T rn (rtN k) 0 (sgN k n) (sFin T rn (rtN k) k (sPut T rn (rtN k) x 0 (ln 3) (fil S 0 25 0, o, c, 0))) u).2.2.1), cn B (q 9) 25 T, cj B (q 10) 24 rn, cq B (q 1) 8 (fun z9 => some (q (20 + z9))), cb B (q 23) 8192 x, cb B (q 26) 8192 ((gsS T rn (rtN k) 0 (sgN k n) (sFin T rn (rtN k) k (sPut T rn (rtN k) x 0 (ln 3) (fil S 0 25 0, o, c, 0))) u).2.2.2.2), cn B (q 2) 8 (fun z9 => nI (va_up ln 6 (sgN k n) z9))]) := by
  refine ctr_i (by decide) (Nat.le_of_ble_eq_true rfl) ?_
  intro M Q hl hR hin X kret
  subst hl
  have hrs := rtN_s h1 h2
  have hdg := dgN_or k
  have hsg : sgN k n ≤ 8192 := by unfold sgN; split <;> omega
  refine g_lv [(0, .ref a), (1, .int (nI k)), (2, .int (nI n))] rfl ?_
  refine g_aload_n (pc := 0) X (i := 0) d_O_digest_0 rfl rfl ?_
  refine g_iload_n (pc := 1) X (i := 1) d_O_digest_1 rfl rfl ?_
  refine g_iconst (pc := 2) X (v := nI 1) d_O_digest_2 (by decide) ?_
  refine g_bipush (pc := 3) X (v := nI 16) d_O_digest_3 (by decide) ?_
  refine g_callSi (pc := 5) X (c_O_in_t (m_l M) B (nI k) (nI 1) (nI 16) (inR_n (by omega) (by omega) (by omega))) wd_913 wd_914 wd_5 wd_915 hd_O_in [] rfl rfl [] (fun _ => rfl) rfl (by rw [hR]; decide) (by rw [hR]; decide) rfl (Nat.le_of_ble_eq_true rfl) d_O_digest_5 (fun r9 _ hr9 => ?_)
  subst hr9
  refine g_wsq [co a 4 [.ref (q 0), .ref (q 1), .ref (q 2), .int (nI tp), .int cd, .ref (q 3), .ref (q 4), .ref (q 5), .ref (q 6), .ref (q 7), .ref (q 8), .ref (q 9), .ref (q 10), .ref (q 11), .ref (q 12), .ref (q 13), .ref (q 14), .ref (q 15), .int (nI kd), .int (nI rt), .int (nI fl), .long (lN tt), .ref (q 16), .ref (q 17)], cj B (q 11) 25 S, cj B (q 12) 25 o, cj B (q 13) 5 c, cn B (q 9) 25 T, cj B (q 10) 24 rn, cq B (q 1) 8 (fun z9 => some (q (20 + z9))), cb B (q 23) 8192 x, cb B (q 26) 8192 u, cn B (q 2) 8 (fun z9 => nI (ln z9))] rfl ?_
  refine g_if_eqN (pc := 8) X (tgt := 26) d_O_digest_8 (by decide) (by omega) (fun h_8 => absurd h_8 (by omega)) (fun h_8 => ?_)
  refine g_iload_n (pc := 11) X (i := 2) d_O_digest_11 rfl rfl ?_
  refine g_iconst (pc := 12) X (v := nI 0) d_O_digest_12 (by decide) ?_
  refine g_sipush (pc := 13) X (v := nI 8192) d_O_digest_13 (by decide) ?_
  refine g_callSi (pc := 16) X (c_O_in_t (m_l M) B (nI n) (nI 0) (nI 8192) (inR_n (by omega) (by omega) (by omega))) wd_913 wd_914 wd_5 wd_915 hd_O_in [] rfl rfl [] (fun _ => rfl) rfl (by rw [hR]; decide) (by rw [hR]; decide) rfl (Nat.le_of_ble_eq_true rfl) d_O_digest_16 (fun r9 _ hr9 => ?_)
  subst hr9
  refine g_wsq [co a 4 [.ref (q 0), .ref (q 1), .ref (q 2), .int (nI tp), .int cd, .ref (q 3), .ref (q 4), .ref (q 5), .ref (q 6), .ref (q 7), .ref (q 8), .ref (q 9), .ref (q 10), .ref (q 11), .ref (q 12), .ref (q 13), .ref (q 14), .ref (q 15), .int (nI kd), .int (nI rt), .int (nI fl), .long (lN tt), .ref (q 16), .ref (q 17)], cj B (q 11) 25 S, cj B (q 12) 25 o, cj B (q 13) 5 c, cn B (q 9) 25 T, cj B (q 10) 24 rn, cq B (q 1) 8 (fun z9 => some (q (20 + z9))), cb B (q 23) 8192 x, cb B (q 26) 8192 u, cn B (q 2) 8 (fun z9 => nI (ln z9))] rfl ?_
  refine g_if_eqN (pc := 19) X (tgt := 26) d_O_digest_19 (by decide) (by omega) (fun h_19 => absurd h_19 (by omega)) (fun h_19 => ?_)
  refine g_iconst (pc := 22) X (v := nI 1) d_O_digest_22 (by decide) ?_
  refine g_goto (pc := 23) X (tgt := 27) d_O_digest_23 (by decide) ?_
  refine g_iconst (pc := 27) X (v := nI 1) d_O_digest_27 (by decide) ?_
  refine g_callVi (pc := 28) (q0 := 0) X (c_O_good_t (m_l M) B a q tp kd rt fl tt cd (nI 1) ) wd_901 wd_903 wp_O_good wd_5 wd_904 hd_O_good [0] rfl rfl [a] (fun _ => rfl) rfl rfl rfl (by rw [hR]; decide) (by rw [hR]; decide) rfl (Nat.le_of_ble_eq_true rfl) d_O_digest_28 (fun r9 _ hr9 => ?_)
  subst hr9
  refine g_wsq [co a 4 [.ref (q 0), .ref (q 1), .ref (q 2), .int (nI tp), .int (nI 0), .ref (q 3), .ref (q 4), .ref (q 5), .ref (q 6), .ref (q 7), .ref (q 8), .ref (q 9), .ref (q 10), .ref (q 11), .ref (q 12), .ref (q 13), .ref (q 14), .ref (q 15), .int (nI kd), .int (nI rt), .int (nI fl), .long (lN tt), .ref (q 16), .ref (q 17)], cj B (q 11) 25 S, cj B (q 12) 25 o, cj B (q 13) 5 c, cn B (q 9) 25 T, cj B (q 10) 24 rn, cq B (q 1) 8 (fun z9 => some (q (20 + z9))), cb B (q 23) 8192 x, cb B (q 26) 8192 u, cn B (q 2) 8 (fun z9 => nI (ln z9))] rfl ?_
  refine g_if_neN (pc := 31) X (tgt := 36) d_O_digest_31 (by decide) (by omega) (fun h_31 => ?_) (fun h_31 => absurd h_31 (by omega))
  refine g_iload_n (pc := 36) X (i := 1) d_O_digest_36 rfl rfl ?_
  refine g_bipush (pc := 37) X (v := nI 13) d_O_digest_37 (by decide) ?_
  refine g_icmp_neN (pc := 39) X (tgt := 47) d_O_digest_39 (by decide) (by omega) (by omega) (fun h_39 => ?_) (fun h_39 => absurd h_39 (by omega))
  refine g_iload_n (pc := 47) X (i := 1) d_O_digest_47 rfl rfl ?_
  refine g_bipush (pc := 48) X (v := nI 14) d_O_digest_48 (by decide) ?_
  refine g_icmp_neN (pc := 50) X (tgt := 58) d_O_digest_50 (by decide) (by omega) (by omega) (fun h_50 => ?_) (fun h_50 => absurd h_50 (by omega))
  refine g_iload_n (pc := 58) X (i := 1) d_O_digest_58 rfl rfl ?_
  refine g_bipush (pc := 59) X (v := nI 14) d_O_digest_59 (by decide) ?_
  refine g_icmp_gtN (pc := 61) X (tgt := 76) d_O_digest_61 (by decide) (by omega) (by omega) (fun h_61 => absurd h_61 (by omega)) (fun h_61 => ?_)
  refine g_iload_n (pc := 64) X (i := 1) d_O_digest_64 rfl rfl ?_
  refine g_bipush (pc := 65) X (v := nI 10) d_O_digest_65 (by decide) ?_
  refine g_icmp_leN (pc := 67) X (tgt := 80) d_O_digest_67 (by decide) (by omega) (by omega) (fun h_67 => ?_) (fun h_67 => absurd h_67 (by omega))
  refine g_iload_n (pc := 80) X (i := 1) d_O_digest_80 rfl rfl ?_
  refine g_callSi (pc := 81) X (c_O_digestOf (m_l M) B k (by omega) (by omega)) wd_771 wd_772 wd_5 wd_773 hd_O_digestOf [] rfl rfl [] (fun _ => rfl) rfl (by rw [hR]; decide) (by rw [hR]; decide) rfl (Nat.le_of_ble_eq_true rfl) d_O_digest_81 (fun r9 _ hr9 => ?_)
  subst hr9
  refine g_wsq [co a 4 [.ref (q 0), .ref (q 1), .ref (q 2), .int (nI tp), .int (nI 0), .ref (q 3), .ref (q 4), .ref (q 5), .ref (q 6), .ref (q 7), .ref (q 8), .ref (q 9), .ref (q 10), .ref (q 11), .ref (q 12), .ref (q 13), .ref (q 14), .ref (q 15), .int (nI kd), .int (nI rt), .int (nI fl), .long (lN tt), .ref (q 16), .ref (q 17)], cj B (q 11) 25 S, cj B (q 12) 25 o, cj B (q 13) 5 c, cn B (q 9) 25 T, cj B (q 10) 24 rn, cq B (q 1) 8 (fun z9 => some (q (20 + z9))), cb B (q 23) 8192 x, cb B (q 26) 8192 u, cn B (q 2) 8 (fun z9 => nI (ln z9))] rfl ?_
  refine g_seti (nI (sgN k n)) (congrArg nI (show dgN k = sgN k n from by unfold sgN; first | rw [if_pos (by omega)] | rw [if_neg (by omega)])) ?_
  refine g_istore_n (pc := 84) X (i := 3) d_O_digest_84 rfl (by decide) ?_
  refine g_lv [(0, .ref a), (1, .int (nI k)), (2, .int (nI n)), (3, .int (nI (sgN k n)))] rfl ?_
  refine g_iload_n (pc := 85) X (i := 1) d_O_digest_85 rfl rfl ?_
  refine g_bipush (pc := 86) X (v := nI 13) d_O_digest_86 (by decide) ?_
  refine g_icmp_geN (pc := 88) X (tgt := 129) d_O_digest_88 (by decide) (by omega) (by omega) (fun h_88 => absurd h_88 (by omega)) (fun h_88 => ?_)
  refine g_aload_n (pc := 91) X (i := 0) d_O_digest_91 rfl rfl ?_
  refine g_iload_n (pc := 92) X (i := 1) d_O_digest_92 rfl rfl ?_
  refine g_callVv (pc := 93) (q0 := 0) X (c_O_begin_s (m_l M) B a q tp kd rt fl tt (nI 0) k S S S S (by omega) (by omega)) wd_767 wd_769 wp_O_begin wd_5 wd_770 hd_O_begin [0, 1] rfl rfl [a, q 11] (fun _ => rfl) rfl rfl rfl (by rw [hR]; decide) (by rw [hR]; decide) rfl (Nat.le_of_ble_eq_true rfl) d_O_digest_93 (fun _ _ => ?_)
  refine g_wsq [co a 4 [.ref (q 0), .ref (q 1), .ref (q 2), .int (nI tp), .int (nI 0), .ref (q 3), .ref (q 4), .ref (q 5), .ref (q 6), .ref (q 7), .ref (q 8), .ref (q 9), .ref (q 10), .ref (q 11), .ref (q 12), .ref (q 13), .ref (q 14), .ref (q 15), .int (nI k), .int (nI (rtN k)), .int (nI 0), .long (lN 0), .ref (q 16), .ref (q 17)], cj B (q 11) 25 (fil S 0 25 0), cj B (q 12) 25 o, cj B (q 13) 5 c, cn B (q 9) 25 T, cj B (q 10) 24 rn, cq B (q 1) 8 (fun z9 => some (q (20 + z9))), cb B (q 23) 8192 x, cb B (q 26) 8192 u, cn B (q 2) 8 (fun z9 => nI (ln z9))] rfl ?_
  refine g_aload_n (pc := 96) X (i := 0) d_O_digest_96 rfl rfl ?_
  refine g_aload_n (pc := 97) X (i := 0) d_O_digest_97 rfl rfl ?_
  refine g_get (pc := 98) X in_O 0 rfl rfl 1 (by decide) wd_820 rfl d_O_digest_98 ?_
  refine g_iconst (pc := 101) X (v := nI 3) d_O_digest_101 (by decide) ?_
  refine g_qald (pc := 102) X 6 rfl 3 rfl (by omega) (by omega) (r := q 23) rfl d_O_digest_102 ?_
  refine g_iconst (pc := 103) X (v := nI 0) d_O_digest_103 (by decide) ?_
  refine g_aload_n (pc := 104) X (i := 0) d_O_digest_104 rfl rfl ?_
  refine g_get (pc := 105) X in_O 0 rfl rfl 2 (by decide) wd_821 rfl d_O_digest_105 ?_
  refine g_iconst (pc := 108) X (v := nI 3) d_O_digest_108 (by decide) ?_
  refine g_iald (pc := 109) X 9 rfl 3 rfl (by omega) (by omega) d_O_digest_109 ?_
  refine g_callVv (pc := 110) (q0 := 0) X (c_O_put2_s (m_l M) B a q tp k (rtN k) 0 0 (nI 0) (fil S 0 25 0) o c T rn (q 23) 8192 0 (ln 3) x (by omega) (by omega) (by omega) (by omega) (show 0 < rtN k by omega) (by omega) (by omega)) wd_944 wd_946 wp_O_put2 wd_5 wd_947 hd_O_put2 [0, 1, 2, 3, 4, 5, 7] rfl rfl [a, q 11, q 12, q 13, q 9, q 10, q 23] (fun _ => rfl) rfl rfl rfl (by rw [hR]; decide) (by rw [hR]; decide) rfl (Nat.le_of_ble_eq_true rfl) d_O_digest_110 (fun _ _ => ?_)
  refine g_wsq [co a 4 [.ref (q 0), .ref (q 1), .ref (q 2), .int (nI tp), .int (nI 0), .ref (q 3), .ref (q 4), .ref (q 5), .ref (q 6), .ref (q 7), .ref (q 8), .ref (q 9), .ref (q 10), .ref (q 11), .ref (q 12), .ref (q 13), .ref (q 14), .ref (q 15), .int (nI k), .int (nI (rtN k)), .int (nI ((sPut T rn (rtN k) x 0 (ln 3) ((fil S 0 25 0), o, c, 0)).2.2.2)), .long (lN (0 + (ln 3))), .ref (q 16), .ref (q 17)], cj B (q 11) 25 ((sPut T rn (rtN k) x 0 (ln 3) ((fil S 0 25 0), o, c, 0)).1), cj B (q 12) 25 ((sPut T rn (rtN k) x 0 (ln 3) ((fil S 0 25 0), o, c, 0)).2.1), cj B (q 13) 5 ((sPut T rn (rtN k) x 0 (ln 3) ((fil S 0 25 0), o, c, 0)).2.2.1), cn B (q 9) 25 T, cj B (q 10) 24 rn, cq B (q 1) 8 (fun z9 => some (q (20 + z9))), cb B (q 23) 8192 x, cb B (q 26) 8192 u, cn B (q 2) 8 (fun z9 => nI (ln z9))] rfl ?_
  refine g_aload_n (pc := 113) X (i := 0) d_O_digest_113 rfl rfl ?_
  refine g_aload_n (pc := 114) X (i := 0) d_O_digest_114 rfl rfl ?_
  refine g_get (pc := 115) X in_O 0 rfl rfl 1 (by decide) wd_820 rfl d_O_digest_115 ?_
  refine g_bipush (pc := 118) X (v := nI 6) d_O_digest_118 (by decide) ?_
  refine g_qald (pc := 120) X 6 rfl 6 rfl (by omega) (by omega) (r := q 26) rfl d_O_digest_120 ?_
  refine g_iconst (pc := 121) X (v := nI 0) d_O_digest_121 (by decide) ?_
  refine g_iload_n (pc := 122) X (i := 3) d_O_digest_122 rfl rfl ?_
  refine g_callVv (pc := 123) (q0 := 0) X (c_O_give_s (m_l M) B a q tp k (rtN k) ((sPut T rn (rtN k) x 0 (ln 3) ((fil S 0 25 0), o, c, 0)).2.2.2) (0 + (ln 3)) (nI 0) ((sPut T rn (rtN k) x 0 (ln 3) ((fil S 0 25 0), o, c, 0)).1) ((sPut T rn (rtN k) x 0 (ln 3) ((fil S 0 25 0), o, c, 0)).2.1) ((sPut T rn (rtN k) x 0 (ln 3) ((fil S 0 25 0), o, c, 0)).2.2.1) T rn (q 26) 8192 0 (sgN k n) u (by omega) (by omega) (by omega) (by omega) (sPut_lt x 0 (ln 3) (show 0 < rtN k by omega)) (by omega) (by omega)) wd_948 wd_950 wp_O_give wd_5 wd_951 hd_O_give [0, 1, 2, 3, 4, 5, 8] rfl rfl [a, q 11, q 12, q 13, q 9, q 10, q 26] (fun _ => rfl) rfl rfl rfl (by rw [hR]; decide) (by rw [hR]; decide) rfl (Nat.le_of_ble_eq_true rfl) d_O_digest_123 (fun _ _ => ?_)
  refine g_wsq [co a 4 [.ref (q 0), .ref (q 1), .ref (q 2), .int (nI tp), .int (nI 0), .ref (q 3), .ref (q 4), .ref (q 5), .ref (q 6), .ref (q 7), .ref (q 8), .ref (q 9), .ref (q 10), .ref (q 11), .ref (q 12), .ref (q 13), .ref (q 14), .ref (q 15), .int (nI k), .int (nI (rtN k)), .int (nI ((gsS T rn (rtN k) 0 (sgN k n) (sFin T rn (rtN k) k (sPut T rn (rtN k) x 0 (ln 3) ((fil S 0 25 0), o, c, 0))) u).2.2.2.1)), .long (lN (0 + (ln 3))), .ref (q 16), .ref (q 17)], cj B (q 11) 25 ((gsS T rn (rtN k) 0 (sgN k n) (sFin T rn (rtN k) k (sPut T rn (rtN k) x 0 (ln 3) ((fil S 0 25 0), o, c, 0))) u).1), cj B (q 12) 25 ((gsS T rn (rtN k) 0 (sgN k n) (sFin T rn (rtN k) k (sPut T rn (rtN k) x 0 (ln 3) ((fil S 0 25 0), o, c, 0))) u).2.1), cj B (q 13) 5 ((gsS T rn (rtN k) 0 (sgN k n) (sFin T rn (rtN k) k (sPut T rn (rtN k) x 0 (ln 3) ((fil S 0 25 0), o, c, 0))) u).2.2.1), cn B (q 9) 25 T, cj B (q 10) 24 rn, cq B (q 1) 8 (fun z9 => some (q (20 + z9))), cb B (q 23) 8192 x, cb B (q 26) 8192 ((gsS T rn (rtN k) 0 (sgN k n) (sFin T rn (rtN k) k (sPut T rn (rtN k) x 0 (ln 3) ((fil S 0 25 0), o, c, 0))) u).2.2.2.2), cn B (q 2) 8 (fun z9 => nI (ln z9))] rfl ?_
  refine g_goto (pc := 126) X (tgt := 238) d_O_digest_126 (by decide) ?_
  refine g_aload_n (pc := 238) X (i := 0) d_O_digest_238 rfl rfl ?_
  refine g_get (pc := 239) X in_O 0 rfl rfl 2 (by decide) wd_821 rfl d_O_digest_239 ?_
  refine g_bipush (pc := 242) X (v := nI 6) d_O_digest_242 (by decide) ?_
  refine g_iload_n (pc := 244) X (i := 3) d_O_digest_244 rfl rfl ?_
  refine g_iast (pc := 245) X 9 rfl 6 rfl (by omega) (by omega) d_O_digest_245 ?_
  refine g_wsq [co a 4 [.ref (q 0), .ref (q 1), .ref (q 2), .int (nI tp), .int (nI 0), .ref (q 3), .ref (q 4), .ref (q 5), .ref (q 6), .ref (q 7), .ref (q 8), .ref (q 9), .ref (q 10), .ref (q 11), .ref (q 12), .ref (q 13), .ref (q 14), .ref (q 15), .int (nI k), .int (nI (rtN k)), .int (nI ((gsS T rn (rtN k) 0 (sgN k n) (sFin T rn (rtN k) k (sPut T rn (rtN k) x 0 (ln 3) ((fil S 0 25 0), o, c, 0))) u).2.2.2.1)), .long (lN (0 + (ln 3))), .ref (q 16), .ref (q 17)], cj B (q 11) 25 ((gsS T rn (rtN k) 0 (sgN k n) (sFin T rn (rtN k) k (sPut T rn (rtN k) x 0 (ln 3) ((fil S 0 25 0), o, c, 0))) u).1), cj B (q 12) 25 ((gsS T rn (rtN k) 0 (sgN k n) (sFin T rn (rtN k) k (sPut T rn (rtN k) x 0 (ln 3) ((fil S 0 25 0), o, c, 0))) u).2.1), cj B (q 13) 5 ((gsS T rn (rtN k) 0 (sgN k n) (sFin T rn (rtN k) k (sPut T rn (rtN k) x 0 (ln 3) ((fil S 0 25 0), o, c, 0))) u).2.2.1), cn B (q 9) 25 T, cj B (q 10) 24 rn, cq B (q 1) 8 (fun z9 => some (q (20 + z9))), cb B (q 23) 8192 x, cb B (q 26) 8192 ((gsS T rn (rtN k) 0 (sgN k n) (sFin T rn (rtN k) k (sPut T rn (rtN k) x 0 (ln 3) ((fil S 0 25 0), o, c, 0))) u).2.2.2.2), cn B (q 2) 8 (va_up (fun z9 => nI (ln z9)) 6 (nI (sgN k n)))] rfl ?_
  refine g_iload_n (pc := 246) X (i := 3) d_O_digest_246 rfl rfl ?_
  refine g_wsq [co a 4 [.ref (q 0), .ref (q 1), .ref (q 2), .int (nI tp), .int (nI 0), .ref (q 3), .ref (q 4), .ref (q 5), .ref (q 6), .ref (q 7), .ref (q 8), .ref (q 9), .ref (q 10), .ref (q 11), .ref (q 12), .ref (q 13), .ref (q 14), .ref (q 15), .int (nI k), .int (nI (rtN k)), .int (nI ((gsS T rn (rtN k) 0 (sgN k n) (sFin T rn (rtN k) k (sPut T rn (rtN k) x 0 (ln 3) (fil S 0 25 0, o, c, 0))) u).2.2.2.1)), .long (lN (0 + ln 3)), .ref (q 16), .ref (q 17)], cj B (q 11) 25 ((gsS T rn (rtN k) 0 (sgN k n) (sFin T rn (rtN k) k (sPut T rn (rtN k) x 0 (ln 3) (fil S 0 25 0, o, c, 0))) u).1), cj B (q 12) 25 ((gsS T rn (rtN k) 0 (sgN k n) (sFin T rn (rtN k) k (sPut T rn (rtN k) x 0 (ln 3) (fil S 0 25 0, o, c, 0))) u).2.1), cj B (q 13) 5 ((gsS T rn (rtN k) 0 (sgN k n) (sFin T rn (rtN k) k (sPut T rn (rtN k) x 0 (ln 3) (fil S 0 25 0, o, c, 0))) u).2.2.1), cn B (q 9) 25 T, cj B (q 10) 24 rn, cq B (q 1) 8 (fun z9 => some (q (20 + z9))), cb B (q 23) 8192 x, cb B (q 26) 8192 ((gsS T rn (rtN k) 0 (sgN k n) (sFin T rn (rtN k) k (sPut T rn (rtN k) x 0 (ln 3) (fil S 0 25 0, o, c, 0))) u).2.2.2.2), cn B (q 2) 8 (fun z9 => nI (va_up ln 6 (sgN k n) z9))] (by rw [nI_up] <;> rfl) ?_
  exact kret _ () _ 247 rfl d_O_digest_247

theorem c_O_digest_x (l : Launch) (B : Bx) (a : Nat) (q : Nat → Nat) (tp : Nat) (kd : Nat) (rt : Nat) (fl : Nat) (tt : Nat) (cd : Int32) (S : Nat → Int64) (o : Nat → Int64) (c : Nat → Int64) (T : Nat → Int32) (rn : Nat → Int64) (k : Nat) (n : Nat) (ln : Nat → Nat) (x : Nat → Int8) (u : Nat → Int8) (h1 : 6 < k) (h2 : k ≤ 12) (h3 : ln 3 ≤ 8192) (h4 : n ≤ 8192) (h5 : 10 < k) : Ci (S := Unit) l B y_O_digest b_O_digest 5 .int (Rm 6 0 0) [.ref a, .int (nI k), .int (nI n)] [co a 4 [.ref (q 0), .ref (q 1), .ref (q 2), .int (nI tp), .int cd, .ref (q 3), .ref (q 4), .ref (q 5), .ref (q 6), .ref (q 7), .ref (q 8), .ref (q 9), .ref (q 10), .ref (q 11), .ref (q 12), .ref (q 13), .ref (q 14), .ref (q 15), .int (nI kd), .int (nI rt), .int (nI fl), .long (lN tt), .ref (q 16), .ref (q 17)], cj B (q 11) 25 S, cj B (q 12) 25 o, cj B (q 13) 5 c, cn B (q 9) 25 T, cj B (q 10) 24 rn, cq B (q 1) 8 (fun z9 => some (q (20 + z9))), cb B (q 23) 8192 x, cb B (q 26) 8192 u, cn B (q 2) 8 (fun z9 => nI (ln z9))] (fun r _ => r = nI (sgN k n)) (fun _ => [co a 4 [.ref (q 0), .ref (q 1), .ref (q 2), .int (nI tp), .int (nI 0), .ref (q 3), .ref (q 4), .ref (q 5), .ref (q 6), .ref (q 7), .ref (q 8), .ref (q 9), .ref (q 10), .ref (q 11), .ref (q 12), .ref (q 13), .ref (q 14), .ref (q 15), .int (nI k), .int (nI (rtN k)), .int (nI ((gsS T rn (rtN k) 0 (sgN k n) (sFin T rn (rtN k) k (sPut T rn (rtN k) x 0 (ln 3) (fil S 0 25 0, o, c, 0))) u).2.2.2.1)), .long (lN (0 + ln 3)), .ref (q 16), .ref (q 17)], cj B (q 11) 25 ((gsS T rn (rtN k) 0 (sgN k n) (sFin T rn (rtN k) k (sPut T rn (rtN k) x 0 (ln 3) (fil S 0 25 0, o, c, 0))) u).1), cj B (q 12) 25 ((gsS T rn (rtN k) 0 (sgN k n) (sFin T rn (rtN k) k (sPut T rn (rtN k) x 0 (ln 3) (fil S 0 25 0, o, c, 0))) u).2.1), cj B (q 13) 5 ((gsS T rn (rtN k) 0 (sgN k n) (sFin T rn (rtN k) k (sPut T rn (rtN k) x 0 (ln 3) (fil S 0 25 0, o, c, 0))) u).2.2.1), cn B (q 9) 25 T, cj B (q 10) 24 rn, cq B (q 1) 8 (fun z9 => some (q (20 + z9))), cb B (q 23) 8192 x, cb B (q 26) 8192 ((gsS T rn (rtN k) 0 (sgN k n) (sFin T rn (rtN k) k (sPut T rn (rtN k) x 0 (ln 3) (fil S 0 25 0, o, c, 0))) u).2.2.2.2), cn B (q 2) 8 (fun z9 => nI (va_up ln 6 (sgN k n) z9))]) := by
  refine ctr_i (by decide) (Nat.le_of_ble_eq_true rfl) ?_
  intro M Q hl hR hin X kret
  subst hl
  have hrs := rtN_s h1 h2
  have hdg := dgN_or k
  have hsg : sgN k n ≤ 8192 := by unfold sgN; split <;> omega
  refine g_lv [(0, .ref a), (1, .int (nI k)), (2, .int (nI n))] rfl ?_
  refine g_aload_n (pc := 0) X (i := 0) d_O_digest_0 rfl rfl ?_
  refine g_iload_n (pc := 1) X (i := 1) d_O_digest_1 rfl rfl ?_
  refine g_iconst (pc := 2) X (v := nI 1) d_O_digest_2 (by decide) ?_
  refine g_bipush (pc := 3) X (v := nI 16) d_O_digest_3 (by decide) ?_
  refine g_callSi (pc := 5) X (c_O_in_t (m_l M) B (nI k) (nI 1) (nI 16) (inR_n (by omega) (by omega) (by omega))) wd_913 wd_914 wd_5 wd_915 hd_O_in [] rfl rfl [] (fun _ => rfl) rfl (by rw [hR]; decide) (by rw [hR]; decide) rfl (Nat.le_of_ble_eq_true rfl) d_O_digest_5 (fun r9 _ hr9 => ?_)
  subst hr9
  refine g_wsq [co a 4 [.ref (q 0), .ref (q 1), .ref (q 2), .int (nI tp), .int cd, .ref (q 3), .ref (q 4), .ref (q 5), .ref (q 6), .ref (q 7), .ref (q 8), .ref (q 9), .ref (q 10), .ref (q 11), .ref (q 12), .ref (q 13), .ref (q 14), .ref (q 15), .int (nI kd), .int (nI rt), .int (nI fl), .long (lN tt), .ref (q 16), .ref (q 17)], cj B (q 11) 25 S, cj B (q 12) 25 o, cj B (q 13) 5 c, cn B (q 9) 25 T, cj B (q 10) 24 rn, cq B (q 1) 8 (fun z9 => some (q (20 + z9))), cb B (q 23) 8192 x, cb B (q 26) 8192 u, cn B (q 2) 8 (fun z9 => nI (ln z9))] rfl ?_
  refine g_if_eqN (pc := 8) X (tgt := 26) d_O_digest_8 (by decide) (by omega) (fun h_8 => absurd h_8 (by omega)) (fun h_8 => ?_)
  refine g_iload_n (pc := 11) X (i := 2) d_O_digest_11 rfl rfl ?_
  refine g_iconst (pc := 12) X (v := nI 0) d_O_digest_12 (by decide) ?_
  refine g_sipush (pc := 13) X (v := nI 8192) d_O_digest_13 (by decide) ?_
  refine g_callSi (pc := 16) X (c_O_in_t (m_l M) B (nI n) (nI 0) (nI 8192) (inR_n (by omega) (by omega) (by omega))) wd_913 wd_914 wd_5 wd_915 hd_O_in [] rfl rfl [] (fun _ => rfl) rfl (by rw [hR]; decide) (by rw [hR]; decide) rfl (Nat.le_of_ble_eq_true rfl) d_O_digest_16 (fun r9 _ hr9 => ?_)
  subst hr9
  refine g_wsq [co a 4 [.ref (q 0), .ref (q 1), .ref (q 2), .int (nI tp), .int cd, .ref (q 3), .ref (q 4), .ref (q 5), .ref (q 6), .ref (q 7), .ref (q 8), .ref (q 9), .ref (q 10), .ref (q 11), .ref (q 12), .ref (q 13), .ref (q 14), .ref (q 15), .int (nI kd), .int (nI rt), .int (nI fl), .long (lN tt), .ref (q 16), .ref (q 17)], cj B (q 11) 25 S, cj B (q 12) 25 o, cj B (q 13) 5 c, cn B (q 9) 25 T, cj B (q 10) 24 rn, cq B (q 1) 8 (fun z9 => some (q (20 + z9))), cb B (q 23) 8192 x, cb B (q 26) 8192 u, cn B (q 2) 8 (fun z9 => nI (ln z9))] rfl ?_
  refine g_if_eqN (pc := 19) X (tgt := 26) d_O_digest_19 (by decide) (by omega) (fun h_19 => absurd h_19 (by omega)) (fun h_19 => ?_)
  refine g_iconst (pc := 22) X (v := nI 1) d_O_digest_22 (by decide) ?_
  refine g_goto (pc := 23) X (tgt := 27) d_O_digest_23 (by decide) ?_
  refine g_iconst (pc := 27) X (v := nI 1) d_O_digest_27 (by decide) ?_
  refine g_callVi (pc := 28) (q0 := 0) X (c_O_good_t (m_l M) B a q tp kd rt fl tt cd (nI 1) ) wd_901 wd_903 wp_O_good wd_5 wd_904 hd_O_good [0] rfl rfl [a] (fun _ => rfl) rfl rfl rfl (by rw [hR]; decide) (by rw [hR]; decide) rfl (Nat.le_of_ble_eq_true rfl) d_O_digest_28 (fun r9 _ hr9 => ?_)
  subst hr9
  refine g_wsq [co a 4 [.ref (q 0), .ref (q 1), .ref (q 2), .int (nI tp), .int (nI 0), .ref (q 3), .ref (q 4), .ref (q 5), .ref (q 6), .ref (q 7), .ref (q 8), .ref (q 9), .ref (q 10), .ref (q 11), .ref (q 12), .ref (q 13), .ref (q 14), .ref (q 15), .int (nI kd), .int (nI rt), .int (nI fl), .long (lN tt), .ref (q 16), .ref (q 17)], cj B (q 11) 25 S, cj B (q 12) 25 o, cj B (q 13) 5 c, cn B (q 9) 25 T, cj B (q 10) 24 rn, cq B (q 1) 8 (fun z9 => some (q (20 + z9))), cb B (q 23) 8192 x, cb B (q 26) 8192 u, cn B (q 2) 8 (fun z9 => nI (ln z9))] rfl ?_
  refine g_if_neN (pc := 31) X (tgt := 36) d_O_digest_31 (by decide) (by omega) (fun h_31 => ?_) (fun h_31 => absurd h_31 (by omega))
  refine g_iload_n (pc := 36) X (i := 1) d_O_digest_36 rfl rfl ?_
  refine g_bipush (pc := 37) X (v := nI 13) d_O_digest_37 (by decide) ?_
  refine g_icmp_neN (pc := 39) X (tgt := 47) d_O_digest_39 (by decide) (by omega) (by omega) (fun h_39 => ?_) (fun h_39 => absurd h_39 (by omega))
  refine g_iload_n (pc := 47) X (i := 1) d_O_digest_47 rfl rfl ?_
  refine g_bipush (pc := 48) X (v := nI 14) d_O_digest_48 (by decide) ?_
  refine g_icmp_neN (pc := 50) X (tgt := 58) d_O_digest_50 (by decide) (by omega) (by omega) (fun h_50 => ?_) (fun h_50 => absurd h_50 (by omega))
  refine g_iload_n (pc := 58) X (i := 1) d_O_digest_58 rfl rfl ?_
  refine g_bipush (pc := 59) X (v := nI 14) d_O_digest_59 (by decide) ?_
  refine g_icmp_gtN (pc := 61) X (tgt := 76) d_O_digest_61 (by decide) (by omega) (by omega) (fun h_61 => absurd h_61 (by omega)) (fun h_61 => ?_)
  refine g_iload_n (pc := 64) X (i := 1) d_O_digest_64 rfl rfl ?_
  refine g_bipush (pc := 65) X (v := nI 10) d_O_digest_65 (by decide) ?_
  refine g_icmp_leN (pc := 67) X (tgt := 80) d_O_digest_67 (by decide) (by omega) (by omega) (fun h_67 => absurd h_67 (by omega)) (fun h_67 => ?_)
  refine g_iload_n (pc := 70) X (i := 1) d_O_digest_70 rfl rfl ?_
  refine g_bipush (pc := 71) X (v := nI 13) d_O_digest_71 (by decide) ?_
  refine g_icmp_geN (pc := 73) X (tgt := 80) d_O_digest_73 (by decide) (by omega) (by omega) (fun h_73 => absurd h_73 (by omega)) (fun h_73 => ?_)
  refine g_iload_n (pc := 76) X (i := 2) d_O_digest_76 rfl rfl ?_
  refine g_goto (pc := 77) X (tgt := 84) d_O_digest_77 (by decide) ?_
  refine g_seti (nI (sgN k n)) (congrArg nI (show n = sgN k n from by unfold sgN; first | rw [if_pos (by omega)] | rw [if_neg (by omega)])) ?_
  refine g_istore_n (pc := 84) X (i := 3) d_O_digest_84 rfl (by decide) ?_
  refine g_lv [(0, .ref a), (1, .int (nI k)), (2, .int (nI n)), (3, .int (nI (sgN k n)))] rfl ?_
  refine g_iload_n (pc := 85) X (i := 1) d_O_digest_85 rfl rfl ?_
  refine g_bipush (pc := 86) X (v := nI 13) d_O_digest_86 (by decide) ?_
  refine g_icmp_geN (pc := 88) X (tgt := 129) d_O_digest_88 (by decide) (by omega) (by omega) (fun h_88 => absurd h_88 (by omega)) (fun h_88 => ?_)
  refine g_aload_n (pc := 91) X (i := 0) d_O_digest_91 rfl rfl ?_
  refine g_iload_n (pc := 92) X (i := 1) d_O_digest_92 rfl rfl ?_
  refine g_callVv (pc := 93) (q0 := 0) X (c_O_begin_s (m_l M) B a q tp kd rt fl tt (nI 0) k S S S S (by omega) (by omega)) wd_767 wd_769 wp_O_begin wd_5 wd_770 hd_O_begin [0, 1] rfl rfl [a, q 11] (fun _ => rfl) rfl rfl rfl (by rw [hR]; decide) (by rw [hR]; decide) rfl (Nat.le_of_ble_eq_true rfl) d_O_digest_93 (fun _ _ => ?_)
  refine g_wsq [co a 4 [.ref (q 0), .ref (q 1), .ref (q 2), .int (nI tp), .int (nI 0), .ref (q 3), .ref (q 4), .ref (q 5), .ref (q 6), .ref (q 7), .ref (q 8), .ref (q 9), .ref (q 10), .ref (q 11), .ref (q 12), .ref (q 13), .ref (q 14), .ref (q 15), .int (nI k), .int (nI (rtN k)), .int (nI 0), .long (lN 0), .ref (q 16), .ref (q 17)], cj B (q 11) 25 (fil S 0 25 0), cj B (q 12) 25 o, cj B (q 13) 5 c, cn B (q 9) 25 T, cj B (q 10) 24 rn, cq B (q 1) 8 (fun z9 => some (q (20 + z9))), cb B (q 23) 8192 x, cb B (q 26) 8192 u, cn B (q 2) 8 (fun z9 => nI (ln z9))] rfl ?_
  refine g_aload_n (pc := 96) X (i := 0) d_O_digest_96 rfl rfl ?_
  refine g_aload_n (pc := 97) X (i := 0) d_O_digest_97 rfl rfl ?_
  refine g_get (pc := 98) X in_O 0 rfl rfl 1 (by decide) wd_820 rfl d_O_digest_98 ?_
  refine g_iconst (pc := 101) X (v := nI 3) d_O_digest_101 (by decide) ?_
  refine g_qald (pc := 102) X 6 rfl 3 rfl (by omega) (by omega) (r := q 23) rfl d_O_digest_102 ?_
  refine g_iconst (pc := 103) X (v := nI 0) d_O_digest_103 (by decide) ?_
  refine g_aload_n (pc := 104) X (i := 0) d_O_digest_104 rfl rfl ?_
  refine g_get (pc := 105) X in_O 0 rfl rfl 2 (by decide) wd_821 rfl d_O_digest_105 ?_
  refine g_iconst (pc := 108) X (v := nI 3) d_O_digest_108 (by decide) ?_
  refine g_iald (pc := 109) X 9 rfl 3 rfl (by omega) (by omega) d_O_digest_109 ?_
  refine g_callVv (pc := 110) (q0 := 0) X (c_O_put2_s (m_l M) B a q tp k (rtN k) 0 0 (nI 0) (fil S 0 25 0) o c T rn (q 23) 8192 0 (ln 3) x (by omega) (by omega) (by omega) (by omega) (show 0 < rtN k by omega) (by omega) (by omega)) wd_944 wd_946 wp_O_put2 wd_5 wd_947 hd_O_put2 [0, 1, 2, 3, 4, 5, 7] rfl rfl [a, q 11, q 12, q 13, q 9, q 10, q 23] (fun _ => rfl) rfl rfl rfl (by rw [hR]; decide) (by rw [hR]; decide) rfl (Nat.le_of_ble_eq_true rfl) d_O_digest_110 (fun _ _ => ?_)
  refine g_wsq [co a 4 [.ref (q 0), .ref (q 1), .ref (q 2), .int (nI tp), .int (nI 0), .ref (q 3), .ref (q 4), .ref (q 5), .ref (q 6), .ref (q 7), .ref (q 8), .ref (q 9), .ref (q 10), .ref (q 11), .ref (q 12), .ref (q 13), .ref (q 14), .ref (q 15), .int (nI k), .int (nI (rtN k)), .int (nI ((sPut T rn (rtN k) x 0 (ln 3) ((fil S 0 25 0), o, c, 0)).2.2.2)), .long (lN (0 + (ln 3))), .ref (q 16), .ref (q 17)], cj B (q 11) 25 ((sPut T rn (rtN k) x 0 (ln 3) ((fil S 0 25 0), o, c, 0)).1), cj B (q 12) 25 ((sPut T rn (rtN k) x 0 (ln 3) ((fil S 0 25 0), o, c, 0)).2.1), cj B (q 13) 5 ((sPut T rn (rtN k) x 0 (ln 3) ((fil S 0 25 0), o, c, 0)).2.2.1), cn B (q 9) 25 T, cj B (q 10) 24 rn, cq B (q 1) 8 (fun z9 => some (q (20 + z9))), cb B (q 23) 8192 x, cb B (q 26) 8192 u, cn B (q 2) 8 (fun z9 => nI (ln z9))] rfl ?_
  refine g_aload_n (pc := 113) X (i := 0) d_O_digest_113 rfl rfl ?_
  refine g_aload_n (pc := 114) X (i := 0) d_O_digest_114 rfl rfl ?_
  refine g_get (pc := 115) X in_O 0 rfl rfl 1 (by decide) wd_820 rfl d_O_digest_115 ?_
  refine g_bipush (pc := 118) X (v := nI 6) d_O_digest_118 (by decide) ?_
  refine g_qald (pc := 120) X 6 rfl 6 rfl (by omega) (by omega) (r := q 26) rfl d_O_digest_120 ?_
  refine g_iconst (pc := 121) X (v := nI 0) d_O_digest_121 (by decide) ?_
  refine g_iload_n (pc := 122) X (i := 3) d_O_digest_122 rfl rfl ?_
  refine g_callVv (pc := 123) (q0 := 0) X (c_O_give_s (m_l M) B a q tp k (rtN k) ((sPut T rn (rtN k) x 0 (ln 3) ((fil S 0 25 0), o, c, 0)).2.2.2) (0 + (ln 3)) (nI 0) ((sPut T rn (rtN k) x 0 (ln 3) ((fil S 0 25 0), o, c, 0)).1) ((sPut T rn (rtN k) x 0 (ln 3) ((fil S 0 25 0), o, c, 0)).2.1) ((sPut T rn (rtN k) x 0 (ln 3) ((fil S 0 25 0), o, c, 0)).2.2.1) T rn (q 26) 8192 0 (sgN k n) u (by omega) (by omega) (by omega) (by omega) (sPut_lt x 0 (ln 3) (show 0 < rtN k by omega)) (by omega) (by omega)) wd_948 wd_950 wp_O_give wd_5 wd_951 hd_O_give [0, 1, 2, 3, 4, 5, 8] rfl rfl [a, q 11, q 12, q 13, q 9, q 10, q 26] (fun _ => rfl) rfl rfl rfl (by rw [hR]; decide) (by rw [hR]; decide) rfl (Nat.le_of_ble_eq_true rfl) d_O_digest_123 (fun _ _ => ?_)
  refine g_wsq [co a 4 [.ref (q 0), .ref (q 1), .ref (q 2), .int (nI tp), .int (nI 0), .ref (q 3), .ref (q 4), .ref (q 5), .ref (q 6), .ref (q 7), .ref (q 8), .ref (q 9), .ref (q 10), .ref (q 11), .ref (q 12), .ref (q 13), .ref (q 14), .ref (q 15), .int (nI k), .int (nI (rtN k)), .int (nI ((gsS T rn (rtN k) 0 (sgN k n) (sFin T rn (rtN k) k (sPut T rn (rtN k) x 0 (ln 3) ((fil S 0 25 0), o, c, 0))) u).2.2.2.1)), .long (lN (0 + (ln 3))), .ref (q 16), .ref (q 17)], cj B (q 11) 25 ((gsS T rn (rtN k) 0 (sgN k n) (sFin T rn (rtN k) k (sPut T rn (rtN k) x 0 (ln 3) ((fil S 0 25 0), o, c, 0))) u).1), cj B (q 12) 25 ((gsS T rn (rtN k) 0 (sgN k n) (sFin T rn (rtN k) k (sPut T rn (rtN k) x 0 (ln 3) ((fil S 0 25 0), o, c, 0))) u).2.1), cj B (q 13) 5 ((gsS T rn (rtN k) 0 (sgN k n) (sFin T rn (rtN k) k (sPut T rn (rtN k) x 0 (ln 3) ((fil S 0 25 0), o, c, 0))) u).2.2.1), cn B (q 9) 25 T, cj B (q 10) 24 rn, cq B (q 1) 8 (fun z9 => some (q (20 + z9))), cb B (q 23) 8192 x, cb B (q 26) 8192 ((gsS T rn (rtN k) 0 (sgN k n) (sFin T rn (rtN k) k (sPut T rn (rtN k) x 0 (ln 3) ((fil S 0 25 0), o, c, 0))) u).2.2.2.2), cn B (q 2) 8 (fun z9 => nI (ln z9))] rfl ?_
  refine g_goto (pc := 126) X (tgt := 238) d_O_digest_126 (by decide) ?_
  refine g_aload_n (pc := 238) X (i := 0) d_O_digest_238 rfl rfl ?_
  refine g_get (pc := 239) X in_O 0 rfl rfl 2 (by decide) wd_821 rfl d_O_digest_239 ?_
  refine g_bipush (pc := 242) X (v := nI 6) d_O_digest_242 (by decide) ?_
  refine g_iload_n (pc := 244) X (i := 3) d_O_digest_244 rfl rfl ?_
  refine g_iast (pc := 245) X 9 rfl 6 rfl (by omega) (by omega) d_O_digest_245 ?_
  refine g_wsq [co a 4 [.ref (q 0), .ref (q 1), .ref (q 2), .int (nI tp), .int (nI 0), .ref (q 3), .ref (q 4), .ref (q 5), .ref (q 6), .ref (q 7), .ref (q 8), .ref (q 9), .ref (q 10), .ref (q 11), .ref (q 12), .ref (q 13), .ref (q 14), .ref (q 15), .int (nI k), .int (nI (rtN k)), .int (nI ((gsS T rn (rtN k) 0 (sgN k n) (sFin T rn (rtN k) k (sPut T rn (rtN k) x 0 (ln 3) ((fil S 0 25 0), o, c, 0))) u).2.2.2.1)), .long (lN (0 + (ln 3))), .ref (q 16), .ref (q 17)], cj B (q 11) 25 ((gsS T rn (rtN k) 0 (sgN k n) (sFin T rn (rtN k) k (sPut T rn (rtN k) x 0 (ln 3) ((fil S 0 25 0), o, c, 0))) u).1), cj B (q 12) 25 ((gsS T rn (rtN k) 0 (sgN k n) (sFin T rn (rtN k) k (sPut T rn (rtN k) x 0 (ln 3) ((fil S 0 25 0), o, c, 0))) u).2.1), cj B (q 13) 5 ((gsS T rn (rtN k) 0 (sgN k n) (sFin T rn (rtN k) k (sPut T rn (rtN k) x 0 (ln 3) ((fil S 0 25 0), o, c, 0))) u).2.2.1), cn B (q 9) 25 T, cj B (q 10) 24 rn, cq B (q 1) 8 (fun z9 => some (q (20 + z9))), cb B (q 23) 8192 x, cb B (q 26) 8192 ((gsS T rn (rtN k) 0 (sgN k n) (sFin T rn (rtN k) k (sPut T rn (rtN k) x 0 (ln 3) ((fil S 0 25 0), o, c, 0))) u).2.2.2.2), cn B (q 2) 8 (va_up (fun z9 => nI (ln z9)) 6 (nI (sgN k n)))] rfl ?_
  refine g_iload_n (pc := 246) X (i := 3) d_O_digest_246 rfl rfl ?_
  refine g_wsq [co a 4 [.ref (q 0), .ref (q 1), .ref (q 2), .int (nI tp), .int (nI 0), .ref (q 3), .ref (q 4), .ref (q 5), .ref (q 6), .ref (q 7), .ref (q 8), .ref (q 9), .ref (q 10), .ref (q 11), .ref (q 12), .ref (q 13), .ref (q 14), .ref (q 15), .int (nI k), .int (nI (rtN k)), .int (nI ((gsS T rn (rtN k) 0 (sgN k n) (sFin T rn (rtN k) k (sPut T rn (rtN k) x 0 (ln 3) (fil S 0 25 0, o, c, 0))) u).2.2.2.1)), .long (lN (0 + ln 3)), .ref (q 16), .ref (q 17)], cj B (q 11) 25 ((gsS T rn (rtN k) 0 (sgN k n) (sFin T rn (rtN k) k (sPut T rn (rtN k) x 0 (ln 3) (fil S 0 25 0, o, c, 0))) u).1), cj B (q 12) 25 ((gsS T rn (rtN k) 0 (sgN k n) (sFin T rn (rtN k) k (sPut T rn (rtN k) x 0 (ln 3) (fil S 0 25 0, o, c, 0))) u).2.1), cj B (q 13) 5 ((gsS T rn (rtN k) 0 (sgN k n) (sFin T rn (rtN k) k (sPut T rn (rtN k) x 0 (ln 3) (fil S 0 25 0, o, c, 0))) u).2.2.1), cn B (q 9) 25 T, cj B (q 10) 24 rn, cq B (q 1) 8 (fun z9 => some (q (20 + z9))), cb B (q 23) 8192 x, cb B (q 26) 8192 ((gsS T rn (rtN k) 0 (sgN k n) (sFin T rn (rtN k) k (sPut T rn (rtN k) x 0 (ln 3) (fil S 0 25 0, o, c, 0))) u).2.2.2.2), cn B (q 2) 8 (fun z9 => nI (va_up ln 6 (sgN k n) z9))] (by rw [nI_up] <;> rfl) ?_
  exact kret _ () _ 247 rfl d_O_digest_247

theorem c_O_digest_13 (l : Launch) (B : Bx) (a : Nat) (q : Nat → Nat) (tp : Nat) (kd : Nat) (rt : Nat) (fl : Nat) (tt : Nat) (cd : Int32) (g : Nat → Int8) (S : Nat → Int64) (w : Nat → Int64) (K : Nat → Int64) (k : Nat) (n : Nat) (ro : Nat → Int64) (s2 : Nat → Int64) (s5 : Nat → Int64) (ln : Nat → Nat) (x : Nat → Int8) (x0 : Nat → Int8) (o : Nat → Int8) (hk : Nat → Int8) (inn : Nat → Int8) (h3 : ln 3 ≤ 8192) (h0 : ln 0 ≤ 8192) (h4 : n ≤ 8192) (hkk : k = 1) : Ci (S := Unit) l B y_O_digest b_O_digest 5 .int (Rm 7 0 0) [.ref a, .int (nI 13), .int (nI n)] [co a 4 [.ref (q 0), .ref (q 1), .ref (q 2), .int (nI tp), .int cd, .ref (q 3), .ref (q 4), .ref (q 5), .ref (q 6), .ref (q 7), .ref (q 8), .ref (q 9), .ref (q 10), .ref (q 11), .ref (q 12), .ref (q 13), .ref (q 14), .ref (q 15), .int (nI kd), .int (nI rt), .int (nI fl), .long (lN tt), .ref (q 16), .ref (q 17)], cj B (q 11) 25 S, cb B (q 15) 128 g, cj B (q 14) 80 w, cj B (q 4) 80 K, cj B (q 3) 16 ro, cj B (q 5) 8 s2, cj B (q 6) 8 s5, cb B (q 16) 128 hk, cb B (q 17) 64 inn, cq B (q 1) 8 (fun z9 => some (q (20 + z9))), cb B (q 20) 8192 x0, cb B (q 23) 8192 x, cb B (q 26) 8192 o, cn B (q 2) 8 (fun z9 => nI (ln z9))] (fun r _ => r = nI 32) (fun _ => [co a 4 [.ref (q 0), .ref (q 1), .ref (q 2), .int (nI tp), .int (nI 0), .ref (q 3), .ref (q 4), .ref (q 5), .ref (q 6), .ref (q 7), .ref (q 8), .ref (q 9), .ref (q 10), .ref (q 11), .ref (q 12), .ref (q 13), .ref (q 14), .ref (q 15), .int (nI k), .int (nI (rtN k)), .int (nI ((rFin (rtN k) K (lN (0 + blN k + dgN k)) (eM2 k ro s2 s5 K (0 + blN k + ln 3) (rPut (rtN k) K x 0 (ln 3) (rStM k ro s2 s5 K x0 0 (ln 0) (g, fl, S, w) hk)) (rKeyB k ro s2 s5 K x0 0 (ln 0) (g, fl, S, w) hk) inn)).2.1)), .long (lN (rFiT (rtN k) K (0 + blN k + dgN k) (eM2 k ro s2 s5 K (0 + blN k + ln 3) (rPut (rtN k) K x 0 (ln 3) (rStM k ro s2 s5 K x0 0 (ln 0) (g, fl, S, w) hk)) (rKeyB k ro s2 s5 K x0 0 (ln 0) (g, fl, S, w) hk) inn))), .ref (q 16), .ref (q 17)], cj B (q 11) 25 ((rFin (rtN k) K (lN (0 + blN k + dgN k)) (eM2 k ro s2 s5 K (0 + blN k + ln 3) (rPut (rtN k) K x 0 (ln 3) (rStM k ro s2 s5 K x0 0 (ln 0) (g, fl, S, w) hk)) (rKeyB k ro s2 s5 K x0 0 (ln 0) (g, fl, S, w) hk) inn)).2.2.1), cb B (q 15) 128 ((rFin (rtN k) K (lN (0 + blN k + dgN k)) (eM2 k ro s2 s5 K (0 + blN k + ln 3) (rPut (rtN k) K x 0 (ln 3) (rStM k ro s2 s5 K x0 0 (ln 0) (g, fl, S, w) hk)) (rKeyB k ro s2 s5 K x0 0 (ln 0) (g, fl, S, w) hk) inn)).1), cj B (q 14) 80 ((rFin (rtN k) K (lN (0 + blN k + dgN k)) (eM2 k ro s2 s5 K (0 + blN k + ln 3) (rPut (rtN k) K x 0 (ln 3) (rStM k ro s2 s5 K x0 0 (ln 0) (g, fl, S, w) hk)) (rKeyB k ro s2 s5 K x0 0 (ln 0) (g, fl, S, w) hk) inn)).2.2.2), cj B (q 4) 80 K, cj B (q 3) 16 ro, cj B (q 5) 8 s2, cj B (q 6) 8 s5, cb B (q 16) 128 (rKeyB k ro s2 s5 K x0 0 (ln 0) (g, fl, S, w) hk), cb B (q 17) 64 (eM1 k K (0 + blN k + ln 3) (rPut (rtN k) K x 0 (ln 3) (rStM k ro s2 s5 K x0 0 (ln 0) (g, fl, S, w) hk)) inn), cq B (q 1) 8 (fun z9 => some (q (20 + z9))), cb B (q 20) 8192 x0, cb B (q 23) 8192 x, cb B (q 26) 8192 (gvS (rtN k) (rFin (rtN k) K (lN (0 + blN k + dgN k)) (eM2 k ro s2 s5 K (0 + blN k + ln 3) (rPut (rtN k) K x 0 (ln 3) (rStM k ro s2 s5 K x0 0 (ln 0) (g, fl, S, w) hk)) (rKeyB k ro s2 s5 K x0 0 (ln 0) (g, fl, S, w) hk) inn)).2.2.1 o 0 32), cn B (q 2) 8 (fun z9 => nI (va_up ln 6 32 z9))]) := by
  refine ctr_i (by decide) (Nat.le_of_ble_eq_true rfl) ?_
  intro M Q hl hR hin X kret
  subst hl
  have hbl := blN_or k
  have hrt := rtN_b (k := k) (by omega)
  have hdg := dgN_or k
  have hf8 : (rStM k ro s2 s5 K x0 0 (ln 0) (g, fl, S, w) hk).2.1 < rtN k := rStM_lt (by omega) _ _ _ _ _ _ _ _ _
  refine g_lv [(0, .ref a), (1, .int (nI 13)), (2, .int (nI n))] rfl ?_
  refine g_aload_n (pc := 0) X (i := 0) d_O_digest_0 rfl rfl ?_
  refine g_iload_n (pc := 1) X (i := 1) d_O_digest_1 rfl rfl ?_
  refine g_iconst (pc := 2) X (v := nI 1) d_O_digest_2 (by decide) ?_
  refine g_bipush (pc := 3) X (v := nI 16) d_O_digest_3 (by decide) ?_
  refine g_callSi (pc := 5) X (c_O_in_t (m_l M) B (nI 13) (nI 1) (nI 16) (inR_n (by omega) (by omega) (by omega))) wd_913 wd_914 wd_5 wd_915 hd_O_in [] rfl rfl [] (fun _ => rfl) rfl (by rw [hR]; decide) (by rw [hR]; decide) rfl (Nat.le_of_ble_eq_true rfl) d_O_digest_5 (fun r9 _ hr9 => ?_)
  subst hr9
  refine g_wsq [co a 4 [.ref (q 0), .ref (q 1), .ref (q 2), .int (nI tp), .int cd, .ref (q 3), .ref (q 4), .ref (q 5), .ref (q 6), .ref (q 7), .ref (q 8), .ref (q 9), .ref (q 10), .ref (q 11), .ref (q 12), .ref (q 13), .ref (q 14), .ref (q 15), .int (nI kd), .int (nI rt), .int (nI fl), .long (lN tt), .ref (q 16), .ref (q 17)], cj B (q 11) 25 S, cb B (q 15) 128 g, cj B (q 14) 80 w, cj B (q 4) 80 K, cj B (q 3) 16 ro, cj B (q 5) 8 s2, cj B (q 6) 8 s5, cb B (q 16) 128 hk, cb B (q 17) 64 inn, cq B (q 1) 8 (fun z9 => some (q (20 + z9))), cb B (q 20) 8192 x0, cb B (q 23) 8192 x, cb B (q 26) 8192 o, cn B (q 2) 8 (fun z9 => nI (ln z9))] rfl ?_
  refine g_if_eqN (pc := 8) X (tgt := 26) d_O_digest_8 (by decide) (by omega) (fun h_8 => absurd h_8 (by omega)) (fun h_8 => ?_)
  refine g_iload_n (pc := 11) X (i := 2) d_O_digest_11 rfl rfl ?_
  refine g_iconst (pc := 12) X (v := nI 0) d_O_digest_12 (by decide) ?_
  refine g_sipush (pc := 13) X (v := nI 8192) d_O_digest_13 (by decide) ?_
  refine g_callSi (pc := 16) X (c_O_in_t (m_l M) B (nI n) (nI 0) (nI 8192) (inR_n (by omega) (by omega) (by omega))) wd_913 wd_914 wd_5 wd_915 hd_O_in [] rfl rfl [] (fun _ => rfl) rfl (by rw [hR]; decide) (by rw [hR]; decide) rfl (Nat.le_of_ble_eq_true rfl) d_O_digest_16 (fun r9 _ hr9 => ?_)
  subst hr9
  refine g_wsq [co a 4 [.ref (q 0), .ref (q 1), .ref (q 2), .int (nI tp), .int cd, .ref (q 3), .ref (q 4), .ref (q 5), .ref (q 6), .ref (q 7), .ref (q 8), .ref (q 9), .ref (q 10), .ref (q 11), .ref (q 12), .ref (q 13), .ref (q 14), .ref (q 15), .int (nI kd), .int (nI rt), .int (nI fl), .long (lN tt), .ref (q 16), .ref (q 17)], cj B (q 11) 25 S, cb B (q 15) 128 g, cj B (q 14) 80 w, cj B (q 4) 80 K, cj B (q 3) 16 ro, cj B (q 5) 8 s2, cj B (q 6) 8 s5, cb B (q 16) 128 hk, cb B (q 17) 64 inn, cq B (q 1) 8 (fun z9 => some (q (20 + z9))), cb B (q 20) 8192 x0, cb B (q 23) 8192 x, cb B (q 26) 8192 o, cn B (q 2) 8 (fun z9 => nI (ln z9))] rfl ?_
  refine g_if_eqN (pc := 19) X (tgt := 26) d_O_digest_19 (by decide) (by omega) (fun h_19 => absurd h_19 (by omega)) (fun h_19 => ?_)
  refine g_iconst (pc := 22) X (v := nI 1) d_O_digest_22 (by decide) ?_
  refine g_goto (pc := 23) X (tgt := 27) d_O_digest_23 (by decide) ?_
  refine g_iconst (pc := 27) X (v := nI 1) d_O_digest_27 (by decide) ?_
  refine g_callVi (pc := 28) (q0 := 0) X (c_O_good_t (m_l M) B a q tp kd rt fl tt cd (nI 1) ) wd_901 wd_903 wp_O_good wd_5 wd_904 hd_O_good [0] rfl rfl [a] (fun _ => rfl) rfl rfl rfl (by rw [hR]; decide) (by rw [hR]; decide) rfl (Nat.le_of_ble_eq_true rfl) d_O_digest_28 (fun r9 _ hr9 => ?_)
  subst hr9
  refine g_wsq [co a 4 [.ref (q 0), .ref (q 1), .ref (q 2), .int (nI tp), .int (nI 0), .ref (q 3), .ref (q 4), .ref (q 5), .ref (q 6), .ref (q 7), .ref (q 8), .ref (q 9), .ref (q 10), .ref (q 11), .ref (q 12), .ref (q 13), .ref (q 14), .ref (q 15), .int (nI kd), .int (nI rt), .int (nI fl), .long (lN tt), .ref (q 16), .ref (q 17)], cj B (q 11) 25 S, cb B (q 15) 128 g, cj B (q 14) 80 w, cj B (q 4) 80 K, cj B (q 3) 16 ro, cj B (q 5) 8 s2, cj B (q 6) 8 s5, cb B (q 16) 128 hk, cb B (q 17) 64 inn, cq B (q 1) 8 (fun z9 => some (q (20 + z9))), cb B (q 20) 8192 x0, cb B (q 23) 8192 x, cb B (q 26) 8192 o, cn B (q 2) 8 (fun z9 => nI (ln z9))] rfl ?_
  refine g_if_neN (pc := 31) X (tgt := 36) d_O_digest_31 (by decide) (by omega) (fun h_31 => ?_) (fun h_31 => absurd h_31 (by omega))
  refine g_iload_n (pc := 36) X (i := 1) d_O_digest_36 rfl rfl ?_
  refine g_bipush (pc := 37) X (v := nI 13) d_O_digest_37 (by decide) ?_
  refine g_icmp_neN (pc := 39) X (tgt := 47) d_O_digest_39 (by decide) (by omega) (by omega) (fun h_39 => absurd h_39 (by omega)) (fun h_39 => ?_)
  refine g_bipush (pc := 42) X (v := nI 32) d_O_digest_42 (by decide) ?_
  refine g_goto (pc := 44) X (tgt := 84) d_O_digest_44 (by decide) ?_
  refine g_istore_n (pc := 84) X (i := 3) d_O_digest_84 rfl (by decide) ?_
  refine g_lv [(0, .ref a), (1, .int (nI 13)), (2, .int (nI n)), (3, .int (nI 32))] rfl ?_
  refine g_iload_n (pc := 85) X (i := 1) d_O_digest_85 rfl rfl ?_
  refine g_bipush (pc := 86) X (v := nI 13) d_O_digest_86 (by decide) ?_
  refine g_icmp_geN (pc := 88) X (tgt := 129) d_O_digest_88 (by decide) (by omega) (by omega) (fun h_88 => ?_) (fun h_88 => absurd h_88 (by omega))
  refine g_iload_n (pc := 129) X (i := 1) d_O_digest_129 rfl rfl ?_
  refine g_bipush (pc := 130) X (v := nI 15) d_O_digest_130 (by decide) ?_
  refine g_icmp_geN (pc := 132) X (tgt := 202) d_O_digest_132 (by decide) (by omega) (by omega) (fun h_132 => absurd h_132 (by omega)) (fun h_132 => ?_)
  refine g_iload_n (pc := 135) X (i := 1) d_O_digest_135 rfl rfl ?_
  refine g_bipush (pc := 136) X (v := nI 13) d_O_digest_136 (by decide) ?_
  refine g_icmp_neN (pc := 138) X (tgt := 145) d_O_digest_138 (by decide) (by omega) (by omega) (fun h_138 => absurd h_138 (by omega)) (fun h_138 => ?_)
  refine g_iconst (pc := 141) X (v := nI 1) d_O_digest_141 (by decide) ?_
  refine g_seti (nI k) (congrArg nI hkk.symm) ?_
  refine g_goto (pc := 142) X (tgt := 146) d_O_digest_142 (by decide) ?_
  refine g_istore (pc := 146) X d_O_digest_146 (by decide) ?_
  refine g_lv [(0, .ref a), (1, .int (nI 13)), (2, .int (nI n)), (3, .int (nI 32)), (4, .int (nI k))] rfl ?_
  refine g_aload_n (pc := 148) X (i := 0) d_O_digest_148 rfl rfl ?_
  refine g_iload (pc := 149) X d_O_digest_149 rfl ?_
  refine g_aload_n (pc := 151) X (i := 0) d_O_digest_151 rfl rfl ?_
  refine g_get (pc := 152) X in_O 0 rfl rfl 1 (by decide) wd_820 rfl d_O_digest_152 ?_
  refine g_iconst (pc := 155) X (v := nI 0) d_O_digest_155 (by decide) ?_
  refine g_qald (pc := 156) X 10 rfl 0 rfl (by omega) (by omega) (r := q 20) rfl d_O_digest_156 ?_
  refine g_iconst (pc := 157) X (v := nI 0) d_O_digest_157 (by decide) ?_
  refine g_aload_n (pc := 158) X (i := 0) d_O_digest_158 rfl rfl ?_
  refine g_get (pc := 159) X in_O 0 rfl rfl 2 (by decide) wd_821 rfl d_O_digest_159 ?_
  refine g_iconst (pc := 162) X (v := nI 0) d_O_digest_162 (by decide) ?_
  refine g_iald (pc := 163) X 14 rfl 0 rfl (by omega) (by omega) d_O_digest_163 ?_
  refine g_callVv (pc := 164) (q0 := 0) X (c_O_startMac (m_l M) B a q tp kd rt fl tt (nI 0) g S w K k ro s2 s5 (q 20) 8192 0 (ln 0) x0 hk (by omega) (by omega) (by omega) (by omega)) wd_956 wd_958 wp_O_startMac wd_5 wd_959 hd_O_startMac [0, 1, 2, 3, 4, 5, 6, 7, 8, 11] rfl rfl [a, q 11, q 15, q 14, q 4, q 3, q 5, q 6, q 16, q 20] (fun _ => rfl) rfl rfl rfl (by rw [hR]; decide) (by rw [hR]; decide) rfl (Nat.le_of_ble_eq_true rfl) d_O_digest_164 (fun _ _ => ?_)
  refine g_wsq [co a 4 [.ref (q 0), .ref (q 1), .ref (q 2), .int (nI tp), .int (nI 0), .ref (q 3), .ref (q 4), .ref (q 5), .ref (q 6), .ref (q 7), .ref (q 8), .ref (q 9), .ref (q 10), .ref (q 11), .ref (q 12), .ref (q 13), .ref (q 14), .ref (q 15), .int (nI k), .int (nI (rtN k)), .int (nI ((rStM k ro s2 s5 K x0 0 (ln 0) (g, fl, S, w) hk).2.1)), .long (lN (0 + blN k)), .ref (q 16), .ref (q 17)], cj B (q 11) 25 ((rStM k ro s2 s5 K x0 0 (ln 0) (g, fl, S, w) hk).2.2.1), cb B (q 15) 128 ((rStM k ro s2 s5 K x0 0 (ln 0) (g, fl, S, w) hk).1), cj B (q 14) 80 ((rStM k ro s2 s5 K x0 0 (ln 0) (g, fl, S, w) hk).2.2.2), cj B (q 4) 80 K, cj B (q 3) 16 ro, cj B (q 5) 8 s2, cj B (q 6) 8 s5, cb B (q 16) 128 (rKeyB k ro s2 s5 K x0 0 (ln 0) (g, fl, S, w) hk), cb B (q 17) 64 inn, cq B (q 1) 8 (fun z9 => some (q (20 + z9))), cb B (q 20) 8192 x0, cb B (q 23) 8192 x, cb B (q 26) 8192 o, cn B (q 2) 8 (fun z9 => nI (ln z9))] rfl ?_
  refine g_aload_n (pc := 167) X (i := 0) d_O_digest_167 rfl rfl ?_
  refine g_aload_n (pc := 168) X (i := 0) d_O_digest_168 rfl rfl ?_
  refine g_get (pc := 169) X in_O 0 rfl rfl 1 (by decide) wd_820 rfl d_O_digest_169 ?_
  refine g_iconst (pc := 172) X (v := nI 3) d_O_digest_172 (by decide) ?_
  refine g_qald (pc := 173) X 10 rfl 3 rfl (by omega) (by omega) (r := q 23) rfl d_O_digest_173 ?_
  refine g_iconst (pc := 174) X (v := nI 0) d_O_digest_174 (by decide) ?_
  refine g_aload_n (pc := 175) X (i := 0) d_O_digest_175 rfl rfl ?_
  refine g_get (pc := 176) X in_O 0 rfl rfl 2 (by decide) wd_821 rfl d_O_digest_176 ?_
  refine g_iconst (pc := 179) X (v := nI 3) d_O_digest_179 (by decide) ?_
  refine g_iald (pc := 180) X 14 rfl 3 rfl (by omega) (by omega) d_O_digest_180 ?_
  refine g_callVv (pc := 181) (q0 := 0) X (c_O_put2_b (m_l M) B a q tp k (rtN k) ((rStM k ro s2 s5 K x0 0 (ln 0) (g, fl, S, w) hk).2.1) (0 + blN k) (nI 0) ((rStM k ro s2 s5 K x0 0 (ln 0) (g, fl, S, w) hk).1) ((rStM k ro s2 s5 K x0 0 (ln 0) (g, fl, S, w) hk).2.2.1) ((rStM k ro s2 s5 K x0 0 (ln 0) (g, fl, S, w) hk).2.2.2) K (q 23) 8192 0 (ln 3) x (by omega) (by rw [hrt]; omega) hf8 (by omega) (by omega)) wd_944 wd_946 wp_O_put2 wd_5 wd_947 hd_O_put2 [0, 1, 2, 3, 4, 12] rfl rfl [a, q 11, q 15, q 14, q 4, q 23] (fun _ => rfl) rfl rfl rfl (by rw [hR]; decide) (by rw [hR]; decide) rfl (Nat.le_of_ble_eq_true rfl) d_O_digest_181 (fun _ _ => ?_)
  refine g_wsq [co a 4 [.ref (q 0), .ref (q 1), .ref (q 2), .int (nI tp), .int (nI 0), .ref (q 3), .ref (q 4), .ref (q 5), .ref (q 6), .ref (q 7), .ref (q 8), .ref (q 9), .ref (q 10), .ref (q 11), .ref (q 12), .ref (q 13), .ref (q 14), .ref (q 15), .int (nI k), .int (nI (rtN k)), .int (nI ((rPut (rtN k) K x 0 (ln 3) (rStM k ro s2 s5 K x0 0 (ln 0) (g, fl, S, w) hk)).2.1)), .long (lN ((0 + blN k) + (ln 3))), .ref (q 16), .ref (q 17)], cj B (q 11) 25 ((rPut (rtN k) K x 0 (ln 3) (rStM k ro s2 s5 K x0 0 (ln 0) (g, fl, S, w) hk)).2.2.1), cb B (q 15) 128 ((rPut (rtN k) K x 0 (ln 3) (rStM k ro s2 s5 K x0 0 (ln 0) (g, fl, S, w) hk)).1), cj B (q 14) 80 ((rPut (rtN k) K x 0 (ln 3) (rStM k ro s2 s5 K x0 0 (ln 0) (g, fl, S, w) hk)).2.2.2), cj B (q 4) 80 K, cj B (q 3) 16 ro, cj B (q 5) 8 s2, cj B (q 6) 8 s5, cb B (q 16) 128 (rKeyB k ro s2 s5 K x0 0 (ln 0) (g, fl, S, w) hk), cb B (q 17) 64 inn, cq B (q 1) 8 (fun z9 => some (q (20 + z9))), cb B (q 20) 8192 x0, cb B (q 23) 8192 x, cb B (q 26) 8192 o, cn B (q 2) 8 (fun z9 => nI (ln z9))] rfl ?_
  refine g_aload_n (pc := 184) X (i := 0) d_O_digest_184 rfl rfl ?_
  refine g_iload (pc := 185) X d_O_digest_185 rfl ?_
  refine g_aload_n (pc := 187) X (i := 0) d_O_digest_187 rfl rfl ?_
  refine g_get (pc := 188) X in_O 0 rfl rfl 1 (by decide) wd_820 rfl d_O_digest_188 ?_
  refine g_bipush (pc := 191) X (v := nI 6) d_O_digest_191 (by decide) ?_
  refine g_qald (pc := 193) X 10 rfl 6 rfl (by omega) (by omega) (r := q 26) rfl d_O_digest_193 ?_
  refine g_iconst (pc := 194) X (v := nI 0) d_O_digest_194 (by decide) ?_
  refine g_iload_n (pc := 195) X (i := 3) d_O_digest_195 rfl rfl ?_
  refine g_callVv (pc := 196) (q0 := 0) X (c_O_endMac (m_l M) B a q tp kd rt ((rPut (rtN k) K x 0 (ln 3) (rStM k ro s2 s5 K x0 0 (ln 0) (g, fl, S, w) hk)).2.1) ((0 + blN k) + (ln 3)) (nI 0) ((rPut (rtN k) K x 0 (ln 3) (rStM k ro s2 s5 K x0 0 (ln 0) (g, fl, S, w) hk)).1) ((rPut (rtN k) K x 0 (ln 3) (rStM k ro s2 s5 K x0 0 (ln 0) (g, fl, S, w) hk)).2.2.1) ((rPut (rtN k) K x 0 (ln 3) (rStM k ro s2 s5 K x0 0 (ln 0) (g, fl, S, w) hk)).2.2.2) K k ro s2 s5 (q 26) 8192 0 32 o (rKeyB k ro s2 s5 K x0 0 (ln 0) (g, fl, S, w) hk) inn (by omega) (by omega) (by omega) (by omega) (by omega) (rPut_lt K _ _ _ hf8)) wd_963 wd_965 wp_O_endMac wd_5 wd_966 hd_O_endMac [0, 1, 2, 3, 4, 5, 6, 7, 8, 9, 13] rfl rfl [a, q 11, q 15, q 14, q 4, q 3, q 5, q 6, q 16, q 17, q 26] (fun _ => rfl) rfl rfl rfl (by rw [hR]; decide) (by rw [hR]; decide) rfl (Nat.le_of_ble_eq_true rfl) d_O_digest_196 (fun _ _ => ?_)
  refine g_wsq [co a 4 [.ref (q 0), .ref (q 1), .ref (q 2), .int (nI tp), .int (nI 0), .ref (q 3), .ref (q 4), .ref (q 5), .ref (q 6), .ref (q 7), .ref (q 8), .ref (q 9), .ref (q 10), .ref (q 11), .ref (q 12), .ref (q 13), .ref (q 14), .ref (q 15), .int (nI k), .int (nI (rtN k)), .int (nI ((rFin (rtN k) K (lN (0 + blN k + dgN k)) (eM2 k ro s2 s5 K ((0 + blN k) + (ln 3)) (rPut (rtN k) K x 0 (ln 3) (rStM k ro s2 s5 K x0 0 (ln 0) (g, fl, S, w) hk)) (rKeyB k ro s2 s5 K x0 0 (ln 0) (g, fl, S, w) hk) inn)).2.1)), .long (lN (rFiT (rtN k) K (0 + blN k + dgN k) (eM2 k ro s2 s5 K ((0 + blN k) + (ln 3)) (rPut (rtN k) K x 0 (ln 3) (rStM k ro s2 s5 K x0 0 (ln 0) (g, fl, S, w) hk)) (rKeyB k ro s2 s5 K x0 0 (ln 0) (g, fl, S, w) hk) inn))), .ref (q 16), .ref (q 17)], cj B (q 11) 25 ((rFin (rtN k) K (lN (0 + blN k + dgN k)) (eM2 k ro s2 s5 K ((0 + blN k) + (ln 3)) (rPut (rtN k) K x 0 (ln 3) (rStM k ro s2 s5 K x0 0 (ln 0) (g, fl, S, w) hk)) (rKeyB k ro s2 s5 K x0 0 (ln 0) (g, fl, S, w) hk) inn)).2.2.1), cb B (q 15) 128 ((rFin (rtN k) K (lN (0 + blN k + dgN k)) (eM2 k ro s2 s5 K ((0 + blN k) + (ln 3)) (rPut (rtN k) K x 0 (ln 3) (rStM k ro s2 s5 K x0 0 (ln 0) (g, fl, S, w) hk)) (rKeyB k ro s2 s5 K x0 0 (ln 0) (g, fl, S, w) hk) inn)).1), cj B (q 14) 80 ((rFin (rtN k) K (lN (0 + blN k + dgN k)) (eM2 k ro s2 s5 K ((0 + blN k) + (ln 3)) (rPut (rtN k) K x 0 (ln 3) (rStM k ro s2 s5 K x0 0 (ln 0) (g, fl, S, w) hk)) (rKeyB k ro s2 s5 K x0 0 (ln 0) (g, fl, S, w) hk) inn)).2.2.2), cj B (q 4) 80 K, cj B (q 3) 16 ro, cj B (q 5) 8 s2, cj B (q 6) 8 s5, cb B (q 16) 128 (rKeyB k ro s2 s5 K x0 0 (ln 0) (g, fl, S, w) hk), cb B (q 17) 64 (eM1 k K ((0 + blN k) + (ln 3)) (rPut (rtN k) K x 0 (ln 3) (rStM k ro s2 s5 K x0 0 (ln 0) (g, fl, S, w) hk)) inn), cq B (q 1) 8 (fun z9 => some (q (20 + z9))), cb B (q 20) 8192 x0, cb B (q 23) 8192 x, cb B (q 26) 8192 (gvS (rtN k) (rFin (rtN k) K (lN (0 + blN k + dgN k)) (eM2 k ro s2 s5 K ((0 + blN k) + (ln 3)) (rPut (rtN k) K x 0 (ln 3) (rStM k ro s2 s5 K x0 0 (ln 0) (g, fl, S, w) hk)) (rKeyB k ro s2 s5 K x0 0 (ln 0) (g, fl, S, w) hk) inn)).2.2.1 o 0 32), cn B (q 2) 8 (fun z9 => nI (ln z9))] rfl ?_
  refine g_goto (pc := 199) X (tgt := 238) d_O_digest_199 (by decide) ?_
  refine g_aload_n (pc := 238) X (i := 0) d_O_digest_238 rfl rfl ?_
  refine g_get (pc := 239) X in_O 0 rfl rfl 2 (by decide) wd_821 rfl d_O_digest_239 ?_
  refine g_bipush (pc := 242) X (v := nI 6) d_O_digest_242 (by decide) ?_
  refine g_iload_n (pc := 244) X (i := 3) d_O_digest_244 rfl rfl ?_
  refine g_iast (pc := 245) X 14 rfl 6 rfl (by omega) (by omega) d_O_digest_245 ?_
  refine g_wsq [co a 4 [.ref (q 0), .ref (q 1), .ref (q 2), .int (nI tp), .int (nI 0), .ref (q 3), .ref (q 4), .ref (q 5), .ref (q 6), .ref (q 7), .ref (q 8), .ref (q 9), .ref (q 10), .ref (q 11), .ref (q 12), .ref (q 13), .ref (q 14), .ref (q 15), .int (nI k), .int (nI (rtN k)), .int (nI ((rFin (rtN k) K (lN (0 + blN k + dgN k)) (eM2 k ro s2 s5 K ((0 + blN k) + (ln 3)) (rPut (rtN k) K x 0 (ln 3) (rStM k ro s2 s5 K x0 0 (ln 0) (g, fl, S, w) hk)) (rKeyB k ro s2 s5 K x0 0 (ln 0) (g, fl, S, w) hk) inn)).2.1)), .long (lN (rFiT (rtN k) K (0 + blN k + dgN k) (eM2 k ro s2 s5 K ((0 + blN k) + (ln 3)) (rPut (rtN k) K x 0 (ln 3) (rStM k ro s2 s5 K x0 0 (ln 0) (g, fl, S, w) hk)) (rKeyB k ro s2 s5 K x0 0 (ln 0) (g, fl, S, w) hk) inn))), .ref (q 16), .ref (q 17)], cj B (q 11) 25 ((rFin (rtN k) K (lN (0 + blN k + dgN k)) (eM2 k ro s2 s5 K ((0 + blN k) + (ln 3)) (rPut (rtN k) K x 0 (ln 3) (rStM k ro s2 s5 K x0 0 (ln 0) (g, fl, S, w) hk)) (rKeyB k ro s2 s5 K x0 0 (ln 0) (g, fl, S, w) hk) inn)).2.2.1), cb B (q 15) 128 ((rFin (rtN k) K (lN (0 + blN k + dgN k)) (eM2 k ro s2 s5 K ((0 + blN k) + (ln 3)) (rPut (rtN k) K x 0 (ln 3) (rStM k ro s2 s5 K x0 0 (ln 0) (g, fl, S, w) hk)) (rKeyB k ro s2 s5 K x0 0 (ln 0) (g, fl, S, w) hk) inn)).1), cj B (q 14) 80 ((rFin (rtN k) K (lN (0 + blN k + dgN k)) (eM2 k ro s2 s5 K ((0 + blN k) + (ln 3)) (rPut (rtN k) K x 0 (ln 3) (rStM k ro s2 s5 K x0 0 (ln 0) (g, fl, S, w) hk)) (rKeyB k ro s2 s5 K x0 0 (ln 0) (g, fl, S, w) hk) inn)).2.2.2), cj B (q 4) 80 K, cj B (q 3) 16 ro, cj B (q 5) 8 s2, cj B (q 6) 8 s5, cb B (q 16) 128 (rKeyB k ro s2 s5 K x0 0 (ln 0) (g, fl, S, w) hk), cb B (q 17) 64 (eM1 k K ((0 + blN k) + (ln 3)) (rPut (rtN k) K x 0 (ln 3) (rStM k ro s2 s5 K x0 0 (ln 0) (g, fl, S, w) hk)) inn), cq B (q 1) 8 (fun z9 => some (q (20 + z9))), cb B (q 20) 8192 x0, cb B (q 23) 8192 x, cb B (q 26) 8192 (gvS (rtN k) (rFin (rtN k) K (lN (0 + blN k + dgN k)) (eM2 k ro s2 s5 K ((0 + blN k) + (ln 3)) (rPut (rtN k) K x 0 (ln 3) (rStM k ro s2 s5 K x0 0 (ln 0) (g, fl, S, w) hk)) (rKeyB k ro s2 s5 K x0 0 (ln 0) (g, fl, S, w) hk) inn)).2.2.1 o 0 32), cn B (q 2) 8 (va_up (fun z9 => nI (ln z9)) 6 (nI 32))] rfl ?_
  refine g_iload_n (pc := 246) X (i := 3) d_O_digest_246 rfl rfl ?_
  refine g_wsq [co a 4 [.ref (q 0), .ref (q 1), .ref (q 2), .int (nI tp), .int (nI 0), .ref (q 3), .ref (q 4), .ref (q 5), .ref (q 6), .ref (q 7), .ref (q 8), .ref (q 9), .ref (q 10), .ref (q 11), .ref (q 12), .ref (q 13), .ref (q 14), .ref (q 15), .int (nI k), .int (nI (rtN k)), .int (nI ((rFin (rtN k) K (lN (0 + blN k + dgN k)) (eM2 k ro s2 s5 K (0 + blN k + ln 3) (rPut (rtN k) K x 0 (ln 3) (rStM k ro s2 s5 K x0 0 (ln 0) (g, fl, S, w) hk)) (rKeyB k ro s2 s5 K x0 0 (ln 0) (g, fl, S, w) hk) inn)).2.1)), .long (lN (rFiT (rtN k) K (0 + blN k + dgN k) (eM2 k ro s2 s5 K (0 + blN k + ln 3) (rPut (rtN k) K x 0 (ln 3) (rStM k ro s2 s5 K x0 0 (ln 0) (g, fl, S, w) hk)) (rKeyB k ro s2 s5 K x0 0 (ln 0) (g, fl, S, w) hk) inn))), .ref (q 16), .ref (q 17)], cj B (q 11) 25 ((rFin (rtN k) K (lN (0 + blN k + dgN k)) (eM2 k ro s2 s5 K (0 + blN k + ln 3) (rPut (rtN k) K x 0 (ln 3) (rStM k ro s2 s5 K x0 0 (ln 0) (g, fl, S, w) hk)) (rKeyB k ro s2 s5 K x0 0 (ln 0) (g, fl, S, w) hk) inn)).2.2.1), cb B (q 15) 128 ((rFin (rtN k) K (lN (0 + blN k + dgN k)) (eM2 k ro s2 s5 K (0 + blN k + ln 3) (rPut (rtN k) K x 0 (ln 3) (rStM k ro s2 s5 K x0 0 (ln 0) (g, fl, S, w) hk)) (rKeyB k ro s2 s5 K x0 0 (ln 0) (g, fl, S, w) hk) inn)).1), cj B (q 14) 80 ((rFin (rtN k) K (lN (0 + blN k + dgN k)) (eM2 k ro s2 s5 K (0 + blN k + ln 3) (rPut (rtN k) K x 0 (ln 3) (rStM k ro s2 s5 K x0 0 (ln 0) (g, fl, S, w) hk)) (rKeyB k ro s2 s5 K x0 0 (ln 0) (g, fl, S, w) hk) inn)).2.2.2), cj B (q 4) 80 K, cj B (q 3) 16 ro, cj B (q 5) 8 s2, cj B (q 6) 8 s5, cb B (q 16) 128 (rKeyB k ro s2 s5 K x0 0 (ln 0) (g, fl, S, w) hk), cb B (q 17) 64 (eM1 k K (0 + blN k + ln 3) (rPut (rtN k) K x 0 (ln 3) (rStM k ro s2 s5 K x0 0 (ln 0) (g, fl, S, w) hk)) inn), cq B (q 1) 8 (fun z9 => some (q (20 + z9))), cb B (q 20) 8192 x0, cb B (q 23) 8192 x, cb B (q 26) 8192 (gvS (rtN k) (rFin (rtN k) K (lN (0 + blN k + dgN k)) (eM2 k ro s2 s5 K (0 + blN k + ln 3) (rPut (rtN k) K x 0 (ln 3) (rStM k ro s2 s5 K x0 0 (ln 0) (g, fl, S, w) hk)) (rKeyB k ro s2 s5 K x0 0 (ln 0) (g, fl, S, w) hk) inn)).2.2.1 o 0 32), cn B (q 2) 8 (fun z9 => nI (va_up ln 6 32 z9))] (by rw [nI_up] <;> rfl) ?_
  exact kret _ () _ 247 rfl d_O_digest_247

theorem c_O_digest_14 (l : Launch) (B : Bx) (a : Nat) (q : Nat → Nat) (tp : Nat) (kd : Nat) (rt : Nat) (fl : Nat) (tt : Nat) (cd : Int32) (g : Nat → Int8) (S : Nat → Int64) (w : Nat → Int64) (K : Nat → Int64) (k : Nat) (n : Nat) (ro : Nat → Int64) (s2 : Nat → Int64) (s5 : Nat → Int64) (ln : Nat → Nat) (x : Nat → Int8) (x0 : Nat → Int8) (o : Nat → Int8) (hk : Nat → Int8) (inn : Nat → Int8) (h3 : ln 3 ≤ 8192) (h0 : ln 0 ≤ 8192) (h4 : n ≤ 8192) (hkk : k = 3) : Ci (S := Unit) l B y_O_digest b_O_digest 5 .int (Rm 7 0 0) [.ref a, .int (nI 14), .int (nI n)] [co a 4 [.ref (q 0), .ref (q 1), .ref (q 2), .int (nI tp), .int cd, .ref (q 3), .ref (q 4), .ref (q 5), .ref (q 6), .ref (q 7), .ref (q 8), .ref (q 9), .ref (q 10), .ref (q 11), .ref (q 12), .ref (q 13), .ref (q 14), .ref (q 15), .int (nI kd), .int (nI rt), .int (nI fl), .long (lN tt), .ref (q 16), .ref (q 17)], cj B (q 11) 25 S, cb B (q 15) 128 g, cj B (q 14) 80 w, cj B (q 4) 80 K, cj B (q 3) 16 ro, cj B (q 5) 8 s2, cj B (q 6) 8 s5, cb B (q 16) 128 hk, cb B (q 17) 64 inn, cq B (q 1) 8 (fun z9 => some (q (20 + z9))), cb B (q 20) 8192 x0, cb B (q 23) 8192 x, cb B (q 26) 8192 o, cn B (q 2) 8 (fun z9 => nI (ln z9))] (fun r _ => r = nI 64) (fun _ => [co a 4 [.ref (q 0), .ref (q 1), .ref (q 2), .int (nI tp), .int (nI 0), .ref (q 3), .ref (q 4), .ref (q 5), .ref (q 6), .ref (q 7), .ref (q 8), .ref (q 9), .ref (q 10), .ref (q 11), .ref (q 12), .ref (q 13), .ref (q 14), .ref (q 15), .int (nI k), .int (nI (rtN k)), .int (nI ((rFin (rtN k) K (lN (0 + blN k + dgN k)) (eM2 k ro s2 s5 K (0 + blN k + ln 3) (rPut (rtN k) K x 0 (ln 3) (rStM k ro s2 s5 K x0 0 (ln 0) (g, fl, S, w) hk)) (rKeyB k ro s2 s5 K x0 0 (ln 0) (g, fl, S, w) hk) inn)).2.1)), .long (lN (rFiT (rtN k) K (0 + blN k + dgN k) (eM2 k ro s2 s5 K (0 + blN k + ln 3) (rPut (rtN k) K x 0 (ln 3) (rStM k ro s2 s5 K x0 0 (ln 0) (g, fl, S, w) hk)) (rKeyB k ro s2 s5 K x0 0 (ln 0) (g, fl, S, w) hk) inn))), .ref (q 16), .ref (q 17)], cj B (q 11) 25 ((rFin (rtN k) K (lN (0 + blN k + dgN k)) (eM2 k ro s2 s5 K (0 + blN k + ln 3) (rPut (rtN k) K x 0 (ln 3) (rStM k ro s2 s5 K x0 0 (ln 0) (g, fl, S, w) hk)) (rKeyB k ro s2 s5 K x0 0 (ln 0) (g, fl, S, w) hk) inn)).2.2.1), cb B (q 15) 128 ((rFin (rtN k) K (lN (0 + blN k + dgN k)) (eM2 k ro s2 s5 K (0 + blN k + ln 3) (rPut (rtN k) K x 0 (ln 3) (rStM k ro s2 s5 K x0 0 (ln 0) (g, fl, S, w) hk)) (rKeyB k ro s2 s5 K x0 0 (ln 0) (g, fl, S, w) hk) inn)).1), cj B (q 14) 80 ((rFin (rtN k) K (lN (0 + blN k + dgN k)) (eM2 k ro s2 s5 K (0 + blN k + ln 3) (rPut (rtN k) K x 0 (ln 3) (rStM k ro s2 s5 K x0 0 (ln 0) (g, fl, S, w) hk)) (rKeyB k ro s2 s5 K x0 0 (ln 0) (g, fl, S, w) hk) inn)).2.2.2), cj B (q 4) 80 K, cj B (q 3) 16 ro, cj B (q 5) 8 s2, cj B (q 6) 8 s5, cb B (q 16) 128 (rKeyB k ro s2 s5 K x0 0 (ln 0) (g, fl, S, w) hk), cb B (q 17) 64 (eM1 k K (0 + blN k + ln 3) (rPut (rtN k) K x 0 (ln 3) (rStM k ro s2 s5 K x0 0 (ln 0) (g, fl, S, w) hk)) inn), cq B (q 1) 8 (fun z9 => some (q (20 + z9))), cb B (q 20) 8192 x0, cb B (q 23) 8192 x, cb B (q 26) 8192 (gvS (rtN k) (rFin (rtN k) K (lN (0 + blN k + dgN k)) (eM2 k ro s2 s5 K (0 + blN k + ln 3) (rPut (rtN k) K x 0 (ln 3) (rStM k ro s2 s5 K x0 0 (ln 0) (g, fl, S, w) hk)) (rKeyB k ro s2 s5 K x0 0 (ln 0) (g, fl, S, w) hk) inn)).2.2.1 o 0 64), cn B (q 2) 8 (fun z9 => nI (va_up ln 6 64 z9))]) := by
  refine ctr_i (by decide) (Nat.le_of_ble_eq_true rfl) ?_
  intro M Q hl hR hin X kret
  subst hl
  have hbl := blN_or k
  have hrt := rtN_b (k := k) (by omega)
  have hdg := dgN_or k
  have hf8 : (rStM k ro s2 s5 K x0 0 (ln 0) (g, fl, S, w) hk).2.1 < rtN k := rStM_lt (by omega) _ _ _ _ _ _ _ _ _
  refine g_lv [(0, .ref a), (1, .int (nI 14)), (2, .int (nI n))] rfl ?_
  refine g_aload_n (pc := 0) X (i := 0) d_O_digest_0 rfl rfl ?_
  refine g_iload_n (pc := 1) X (i := 1) d_O_digest_1 rfl rfl ?_
  refine g_iconst (pc := 2) X (v := nI 1) d_O_digest_2 (by decide) ?_
  refine g_bipush (pc := 3) X (v := nI 16) d_O_digest_3 (by decide) ?_
  refine g_callSi (pc := 5) X (c_O_in_t (m_l M) B (nI 14) (nI 1) (nI 16) (inR_n (by omega) (by omega) (by omega))) wd_913 wd_914 wd_5 wd_915 hd_O_in [] rfl rfl [] (fun _ => rfl) rfl (by rw [hR]; decide) (by rw [hR]; decide) rfl (Nat.le_of_ble_eq_true rfl) d_O_digest_5 (fun r9 _ hr9 => ?_)
  subst hr9
  refine g_wsq [co a 4 [.ref (q 0), .ref (q 1), .ref (q 2), .int (nI tp), .int cd, .ref (q 3), .ref (q 4), .ref (q 5), .ref (q 6), .ref (q 7), .ref (q 8), .ref (q 9), .ref (q 10), .ref (q 11), .ref (q 12), .ref (q 13), .ref (q 14), .ref (q 15), .int (nI kd), .int (nI rt), .int (nI fl), .long (lN tt), .ref (q 16), .ref (q 17)], cj B (q 11) 25 S, cb B (q 15) 128 g, cj B (q 14) 80 w, cj B (q 4) 80 K, cj B (q 3) 16 ro, cj B (q 5) 8 s2, cj B (q 6) 8 s5, cb B (q 16) 128 hk, cb B (q 17) 64 inn, cq B (q 1) 8 (fun z9 => some (q (20 + z9))), cb B (q 20) 8192 x0, cb B (q 23) 8192 x, cb B (q 26) 8192 o, cn B (q 2) 8 (fun z9 => nI (ln z9))] rfl ?_
  refine g_if_eqN (pc := 8) X (tgt := 26) d_O_digest_8 (by decide) (by omega) (fun h_8 => absurd h_8 (by omega)) (fun h_8 => ?_)
  refine g_iload_n (pc := 11) X (i := 2) d_O_digest_11 rfl rfl ?_
  refine g_iconst (pc := 12) X (v := nI 0) d_O_digest_12 (by decide) ?_
  refine g_sipush (pc := 13) X (v := nI 8192) d_O_digest_13 (by decide) ?_
  refine g_callSi (pc := 16) X (c_O_in_t (m_l M) B (nI n) (nI 0) (nI 8192) (inR_n (by omega) (by omega) (by omega))) wd_913 wd_914 wd_5 wd_915 hd_O_in [] rfl rfl [] (fun _ => rfl) rfl (by rw [hR]; decide) (by rw [hR]; decide) rfl (Nat.le_of_ble_eq_true rfl) d_O_digest_16 (fun r9 _ hr9 => ?_)
  subst hr9
  refine g_wsq [co a 4 [.ref (q 0), .ref (q 1), .ref (q 2), .int (nI tp), .int cd, .ref (q 3), .ref (q 4), .ref (q 5), .ref (q 6), .ref (q 7), .ref (q 8), .ref (q 9), .ref (q 10), .ref (q 11), .ref (q 12), .ref (q 13), .ref (q 14), .ref (q 15), .int (nI kd), .int (nI rt), .int (nI fl), .long (lN tt), .ref (q 16), .ref (q 17)], cj B (q 11) 25 S, cb B (q 15) 128 g, cj B (q 14) 80 w, cj B (q 4) 80 K, cj B (q 3) 16 ro, cj B (q 5) 8 s2, cj B (q 6) 8 s5, cb B (q 16) 128 hk, cb B (q 17) 64 inn, cq B (q 1) 8 (fun z9 => some (q (20 + z9))), cb B (q 20) 8192 x0, cb B (q 23) 8192 x, cb B (q 26) 8192 o, cn B (q 2) 8 (fun z9 => nI (ln z9))] rfl ?_
  refine g_if_eqN (pc := 19) X (tgt := 26) d_O_digest_19 (by decide) (by omega) (fun h_19 => absurd h_19 (by omega)) (fun h_19 => ?_)
  refine g_iconst (pc := 22) X (v := nI 1) d_O_digest_22 (by decide) ?_
  refine g_goto (pc := 23) X (tgt := 27) d_O_digest_23 (by decide) ?_
  refine g_iconst (pc := 27) X (v := nI 1) d_O_digest_27 (by decide) ?_
  refine g_callVi (pc := 28) (q0 := 0) X (c_O_good_t (m_l M) B a q tp kd rt fl tt cd (nI 1) ) wd_901 wd_903 wp_O_good wd_5 wd_904 hd_O_good [0] rfl rfl [a] (fun _ => rfl) rfl rfl rfl (by rw [hR]; decide) (by rw [hR]; decide) rfl (Nat.le_of_ble_eq_true rfl) d_O_digest_28 (fun r9 _ hr9 => ?_)
  subst hr9
  refine g_wsq [co a 4 [.ref (q 0), .ref (q 1), .ref (q 2), .int (nI tp), .int (nI 0), .ref (q 3), .ref (q 4), .ref (q 5), .ref (q 6), .ref (q 7), .ref (q 8), .ref (q 9), .ref (q 10), .ref (q 11), .ref (q 12), .ref (q 13), .ref (q 14), .ref (q 15), .int (nI kd), .int (nI rt), .int (nI fl), .long (lN tt), .ref (q 16), .ref (q 17)], cj B (q 11) 25 S, cb B (q 15) 128 g, cj B (q 14) 80 w, cj B (q 4) 80 K, cj B (q 3) 16 ro, cj B (q 5) 8 s2, cj B (q 6) 8 s5, cb B (q 16) 128 hk, cb B (q 17) 64 inn, cq B (q 1) 8 (fun z9 => some (q (20 + z9))), cb B (q 20) 8192 x0, cb B (q 23) 8192 x, cb B (q 26) 8192 o, cn B (q 2) 8 (fun z9 => nI (ln z9))] rfl ?_
  refine g_if_neN (pc := 31) X (tgt := 36) d_O_digest_31 (by decide) (by omega) (fun h_31 => ?_) (fun h_31 => absurd h_31 (by omega))
  refine g_iload_n (pc := 36) X (i := 1) d_O_digest_36 rfl rfl ?_
  refine g_bipush (pc := 37) X (v := nI 13) d_O_digest_37 (by decide) ?_
  refine g_icmp_neN (pc := 39) X (tgt := 47) d_O_digest_39 (by decide) (by omega) (by omega) (fun h_39 => ?_) (fun h_39 => absurd h_39 (by omega))
  refine g_iload_n (pc := 47) X (i := 1) d_O_digest_47 rfl rfl ?_
  refine g_bipush (pc := 48) X (v := nI 14) d_O_digest_48 (by decide) ?_
  refine g_icmp_neN (pc := 50) X (tgt := 58) d_O_digest_50 (by decide) (by omega) (by omega) (fun h_50 => absurd h_50 (by omega)) (fun h_50 => ?_)
  refine g_bipush (pc := 53) X (v := nI 64) d_O_digest_53 (by decide) ?_
  refine g_goto (pc := 55) X (tgt := 84) d_O_digest_55 (by decide) ?_
  refine g_istore_n (pc := 84) X (i := 3) d_O_digest_84 rfl (by decide) ?_
  refine g_lv [(0, .ref a), (1, .int (nI 14)), (2, .int (nI n)), (3, .int (nI 64))] rfl ?_
  refine g_iload_n (pc := 85) X (i := 1) d_O_digest_85 rfl rfl ?_
  refine g_bipush (pc := 86) X (v := nI 13) d_O_digest_86 (by decide) ?_
  refine g_icmp_geN (pc := 88) X (tgt := 129) d_O_digest_88 (by decide) (by omega) (by omega) (fun h_88 => ?_) (fun h_88 => absurd h_88 (by omega))
  refine g_iload_n (pc := 129) X (i := 1) d_O_digest_129 rfl rfl ?_
  refine g_bipush (pc := 130) X (v := nI 15) d_O_digest_130 (by decide) ?_
  refine g_icmp_geN (pc := 132) X (tgt := 202) d_O_digest_132 (by decide) (by omega) (by omega) (fun h_132 => absurd h_132 (by omega)) (fun h_132 => ?_)
  refine g_iload_n (pc := 135) X (i := 1) d_O_digest_135 rfl rfl ?_
  refine g_bipush (pc := 136) X (v := nI 13) d_O_digest_136 (by decide) ?_
  refine g_icmp_neN (pc := 138) X (tgt := 145) d_O_digest_138 (by decide) (by omega) (by omega) (fun h_138 => ?_) (fun h_138 => absurd h_138 (by omega))
  refine g_iconst (pc := 145) X (v := nI 3) d_O_digest_145 (by decide) ?_
  refine g_seti (nI k) (congrArg nI hkk.symm) ?_
  refine g_istore (pc := 146) X d_O_digest_146 (by decide) ?_
  refine g_lv [(0, .ref a), (1, .int (nI 14)), (2, .int (nI n)), (3, .int (nI 64)), (4, .int (nI k))] rfl ?_
  refine g_aload_n (pc := 148) X (i := 0) d_O_digest_148 rfl rfl ?_
  refine g_iload (pc := 149) X d_O_digest_149 rfl ?_
  refine g_aload_n (pc := 151) X (i := 0) d_O_digest_151 rfl rfl ?_
  refine g_get (pc := 152) X in_O 0 rfl rfl 1 (by decide) wd_820 rfl d_O_digest_152 ?_
  refine g_iconst (pc := 155) X (v := nI 0) d_O_digest_155 (by decide) ?_
  refine g_qald (pc := 156) X 10 rfl 0 rfl (by omega) (by omega) (r := q 20) rfl d_O_digest_156 ?_
  refine g_iconst (pc := 157) X (v := nI 0) d_O_digest_157 (by decide) ?_
  refine g_aload_n (pc := 158) X (i := 0) d_O_digest_158 rfl rfl ?_
  refine g_get (pc := 159) X in_O 0 rfl rfl 2 (by decide) wd_821 rfl d_O_digest_159 ?_
  refine g_iconst (pc := 162) X (v := nI 0) d_O_digest_162 (by decide) ?_
  refine g_iald (pc := 163) X 14 rfl 0 rfl (by omega) (by omega) d_O_digest_163 ?_
  refine g_callVv (pc := 164) (q0 := 0) X (c_O_startMac (m_l M) B a q tp kd rt fl tt (nI 0) g S w K k ro s2 s5 (q 20) 8192 0 (ln 0) x0 hk (by omega) (by omega) (by omega) (by omega)) wd_956 wd_958 wp_O_startMac wd_5 wd_959 hd_O_startMac [0, 1, 2, 3, 4, 5, 6, 7, 8, 11] rfl rfl [a, q 11, q 15, q 14, q 4, q 3, q 5, q 6, q 16, q 20] (fun _ => rfl) rfl rfl rfl (by rw [hR]; decide) (by rw [hR]; decide) rfl (Nat.le_of_ble_eq_true rfl) d_O_digest_164 (fun _ _ => ?_)
  refine g_wsq [co a 4 [.ref (q 0), .ref (q 1), .ref (q 2), .int (nI tp), .int (nI 0), .ref (q 3), .ref (q 4), .ref (q 5), .ref (q 6), .ref (q 7), .ref (q 8), .ref (q 9), .ref (q 10), .ref (q 11), .ref (q 12), .ref (q 13), .ref (q 14), .ref (q 15), .int (nI k), .int (nI (rtN k)), .int (nI ((rStM k ro s2 s5 K x0 0 (ln 0) (g, fl, S, w) hk).2.1)), .long (lN (0 + blN k)), .ref (q 16), .ref (q 17)], cj B (q 11) 25 ((rStM k ro s2 s5 K x0 0 (ln 0) (g, fl, S, w) hk).2.2.1), cb B (q 15) 128 ((rStM k ro s2 s5 K x0 0 (ln 0) (g, fl, S, w) hk).1), cj B (q 14) 80 ((rStM k ro s2 s5 K x0 0 (ln 0) (g, fl, S, w) hk).2.2.2), cj B (q 4) 80 K, cj B (q 3) 16 ro, cj B (q 5) 8 s2, cj B (q 6) 8 s5, cb B (q 16) 128 (rKeyB k ro s2 s5 K x0 0 (ln 0) (g, fl, S, w) hk), cb B (q 17) 64 inn, cq B (q 1) 8 (fun z9 => some (q (20 + z9))), cb B (q 20) 8192 x0, cb B (q 23) 8192 x, cb B (q 26) 8192 o, cn B (q 2) 8 (fun z9 => nI (ln z9))] rfl ?_
  refine g_aload_n (pc := 167) X (i := 0) d_O_digest_167 rfl rfl ?_
  refine g_aload_n (pc := 168) X (i := 0) d_O_digest_168 rfl rfl ?_
  refine g_get (pc := 169) X in_O 0 rfl rfl 1 (by decide) wd_820 rfl d_O_digest_169 ?_
  refine g_iconst (pc := 172) X (v := nI 3) d_O_digest_172 (by decide) ?_
  refine g_qald (pc := 173) X 10 rfl 3 rfl (by omega) (by omega) (r := q 23) rfl d_O_digest_173 ?_
  refine g_iconst (pc := 174) X (v := nI 0) d_O_digest_174 (by decide) ?_
  refine g_aload_n (pc := 175) X (i := 0) d_O_digest_175 rfl rfl ?_
  refine g_get (pc := 176) X in_O 0 rfl rfl 2 (by decide) wd_821 rfl d_O_digest_176 ?_
  refine g_iconst (pc := 179) X (v := nI 3) d_O_digest_179 (by decide) ?_
  refine g_iald (pc := 180) X 14 rfl 3 rfl (by omega) (by omega) d_O_digest_180 ?_
  refine g_callVv (pc := 181) (q0 := 0) X (c_O_put2_b (m_l M) B a q tp k (rtN k) ((rStM k ro s2 s5 K x0 0 (ln 0) (g, fl, S, w) hk).2.1) (0 + blN k) (nI 0) ((rStM k ro s2 s5 K x0 0 (ln 0) (g, fl, S, w) hk).1) ((rStM k ro s2 s5 K x0 0 (ln 0) (g, fl, S, w) hk).2.2.1) ((rStM k ro s2 s5 K x0 0 (ln 0) (g, fl, S, w) hk).2.2.2) K (q 23) 8192 0 (ln 3) x (by omega) (by rw [hrt]; omega) hf8 (by omega) (by omega)) wd_944 wd_946 wp_O_put2 wd_5 wd_947 hd_O_put2 [0, 1, 2, 3, 4, 12] rfl rfl [a, q 11, q 15, q 14, q 4, q 23] (fun _ => rfl) rfl rfl rfl (by rw [hR]; decide) (by rw [hR]; decide) rfl (Nat.le_of_ble_eq_true rfl) d_O_digest_181 (fun _ _ => ?_)
  refine g_wsq [co a 4 [.ref (q 0), .ref (q 1), .ref (q 2), .int (nI tp), .int (nI 0), .ref (q 3), .ref (q 4), .ref (q 5), .ref (q 6), .ref (q 7), .ref (q 8), .ref (q 9), .ref (q 10), .ref (q 11), .ref (q 12), .ref (q 13), .ref (q 14), .ref (q 15), .int (nI k), .int (nI (rtN k)), .int (nI ((rPut (rtN k) K x 0 (ln 3) (rStM k ro s2 s5 K x0 0 (ln 0) (g, fl, S, w) hk)).2.1)), .long (lN ((0 + blN k) + (ln 3))), .ref (q 16), .ref (q 17)], cj B (q 11) 25 ((rPut (rtN k) K x 0 (ln 3) (rStM k ro s2 s5 K x0 0 (ln 0) (g, fl, S, w) hk)).2.2.1), cb B (q 15) 128 ((rPut (rtN k) K x 0 (ln 3) (rStM k ro s2 s5 K x0 0 (ln 0) (g, fl, S, w) hk)).1), cj B (q 14) 80 ((rPut (rtN k) K x 0 (ln 3) (rStM k ro s2 s5 K x0 0 (ln 0) (g, fl, S, w) hk)).2.2.2), cj B (q 4) 80 K, cj B (q 3) 16 ro, cj B (q 5) 8 s2, cj B (q 6) 8 s5, cb B (q 16) 128 (rKeyB k ro s2 s5 K x0 0 (ln 0) (g, fl, S, w) hk), cb B (q 17) 64 inn, cq B (q 1) 8 (fun z9 => some (q (20 + z9))), cb B (q 20) 8192 x0, cb B (q 23) 8192 x, cb B (q 26) 8192 o, cn B (q 2) 8 (fun z9 => nI (ln z9))] rfl ?_
  refine g_aload_n (pc := 184) X (i := 0) d_O_digest_184 rfl rfl ?_
  refine g_iload (pc := 185) X d_O_digest_185 rfl ?_
  refine g_aload_n (pc := 187) X (i := 0) d_O_digest_187 rfl rfl ?_
  refine g_get (pc := 188) X in_O 0 rfl rfl 1 (by decide) wd_820 rfl d_O_digest_188 ?_
  refine g_bipush (pc := 191) X (v := nI 6) d_O_digest_191 (by decide) ?_
  refine g_qald (pc := 193) X 10 rfl 6 rfl (by omega) (by omega) (r := q 26) rfl d_O_digest_193 ?_
  refine g_iconst (pc := 194) X (v := nI 0) d_O_digest_194 (by decide) ?_
  refine g_iload_n (pc := 195) X (i := 3) d_O_digest_195 rfl rfl ?_
  refine g_callVv (pc := 196) (q0 := 0) X (c_O_endMac (m_l M) B a q tp kd rt ((rPut (rtN k) K x 0 (ln 3) (rStM k ro s2 s5 K x0 0 (ln 0) (g, fl, S, w) hk)).2.1) ((0 + blN k) + (ln 3)) (nI 0) ((rPut (rtN k) K x 0 (ln 3) (rStM k ro s2 s5 K x0 0 (ln 0) (g, fl, S, w) hk)).1) ((rPut (rtN k) K x 0 (ln 3) (rStM k ro s2 s5 K x0 0 (ln 0) (g, fl, S, w) hk)).2.2.1) ((rPut (rtN k) K x 0 (ln 3) (rStM k ro s2 s5 K x0 0 (ln 0) (g, fl, S, w) hk)).2.2.2) K k ro s2 s5 (q 26) 8192 0 64 o (rKeyB k ro s2 s5 K x0 0 (ln 0) (g, fl, S, w) hk) inn (by omega) (by omega) (by omega) (by omega) (by omega) (rPut_lt K _ _ _ hf8)) wd_963 wd_965 wp_O_endMac wd_5 wd_966 hd_O_endMac [0, 1, 2, 3, 4, 5, 6, 7, 8, 9, 13] rfl rfl [a, q 11, q 15, q 14, q 4, q 3, q 5, q 6, q 16, q 17, q 26] (fun _ => rfl) rfl rfl rfl (by rw [hR]; decide) (by rw [hR]; decide) rfl (Nat.le_of_ble_eq_true rfl) d_O_digest_196 (fun _ _ => ?_)
  refine g_wsq [co a 4 [.ref (q 0), .ref (q 1), .ref (q 2), .int (nI tp), .int (nI 0), .ref (q 3), .ref (q 4), .ref (q 5), .ref (q 6), .ref (q 7), .ref (q 8), .ref (q 9), .ref (q 10), .ref (q 11), .ref (q 12), .ref (q 13), .ref (q 14), .ref (q 15), .int (nI k), .int (nI (rtN k)), .int (nI ((rFin (rtN k) K (lN (0 + blN k + dgN k)) (eM2 k ro s2 s5 K ((0 + blN k) + (ln 3)) (rPut (rtN k) K x 0 (ln 3) (rStM k ro s2 s5 K x0 0 (ln 0) (g, fl, S, w) hk)) (rKeyB k ro s2 s5 K x0 0 (ln 0) (g, fl, S, w) hk) inn)).2.1)), .long (lN (rFiT (rtN k) K (0 + blN k + dgN k) (eM2 k ro s2 s5 K ((0 + blN k) + (ln 3)) (rPut (rtN k) K x 0 (ln 3) (rStM k ro s2 s5 K x0 0 (ln 0) (g, fl, S, w) hk)) (rKeyB k ro s2 s5 K x0 0 (ln 0) (g, fl, S, w) hk) inn))), .ref (q 16), .ref (q 17)], cj B (q 11) 25 ((rFin (rtN k) K (lN (0 + blN k + dgN k)) (eM2 k ro s2 s5 K ((0 + blN k) + (ln 3)) (rPut (rtN k) K x 0 (ln 3) (rStM k ro s2 s5 K x0 0 (ln 0) (g, fl, S, w) hk)) (rKeyB k ro s2 s5 K x0 0 (ln 0) (g, fl, S, w) hk) inn)).2.2.1), cb B (q 15) 128 ((rFin (rtN k) K (lN (0 + blN k + dgN k)) (eM2 k ro s2 s5 K ((0 + blN k) + (ln 3)) (rPut (rtN k) K x 0 (ln 3) (rStM k ro s2 s5 K x0 0 (ln 0) (g, fl, S, w) hk)) (rKeyB k ro s2 s5 K x0 0 (ln 0) (g, fl, S, w) hk) inn)).1), cj B (q 14) 80 ((rFin (rtN k) K (lN (0 + blN k + dgN k)) (eM2 k ro s2 s5 K ((0 + blN k) + (ln 3)) (rPut (rtN k) K x 0 (ln 3) (rStM k ro s2 s5 K x0 0 (ln 0) (g, fl, S, w) hk)) (rKeyB k ro s2 s5 K x0 0 (ln 0) (g, fl, S, w) hk) inn)).2.2.2), cj B (q 4) 80 K, cj B (q 3) 16 ro, cj B (q 5) 8 s2, cj B (q 6) 8 s5, cb B (q 16) 128 (rKeyB k ro s2 s5 K x0 0 (ln 0) (g, fl, S, w) hk), cb B (q 17) 64 (eM1 k K ((0 + blN k) + (ln 3)) (rPut (rtN k) K x 0 (ln 3) (rStM k ro s2 s5 K x0 0 (ln 0) (g, fl, S, w) hk)) inn), cq B (q 1) 8 (fun z9 => some (q (20 + z9))), cb B (q 20) 8192 x0, cb B (q 23) 8192 x, cb B (q 26) 8192 (gvS (rtN k) (rFin (rtN k) K (lN (0 + blN k + dgN k)) (eM2 k ro s2 s5 K ((0 + blN k) + (ln 3)) (rPut (rtN k) K x 0 (ln 3) (rStM k ro s2 s5 K x0 0 (ln 0) (g, fl, S, w) hk)) (rKeyB k ro s2 s5 K x0 0 (ln 0) (g, fl, S, w) hk) inn)).2.2.1 o 0 64), cn B (q 2) 8 (fun z9 => nI (ln z9))] rfl ?_
  refine g_goto (pc := 199) X (tgt := 238) d_O_digest_199 (by decide) ?_
  refine g_aload_n (pc := 238) X (i := 0) d_O_digest_238 rfl rfl ?_
  refine g_get (pc := 239) X in_O 0 rfl rfl 2 (by decide) wd_821 rfl d_O_digest_239 ?_
  refine g_bipush (pc := 242) X (v := nI 6) d_O_digest_242 (by decide) ?_
  refine g_iload_n (pc := 244) X (i := 3) d_O_digest_244 rfl rfl ?_
  refine g_iast (pc := 245) X 14 rfl 6 rfl (by omega) (by omega) d_O_digest_245 ?_
  refine g_wsq [co a 4 [.ref (q 0), .ref (q 1), .ref (q 2), .int (nI tp), .int (nI 0), .ref (q 3), .ref (q 4), .ref (q 5), .ref (q 6), .ref (q 7), .ref (q 8), .ref (q 9), .ref (q 10), .ref (q 11), .ref (q 12), .ref (q 13), .ref (q 14), .ref (q 15), .int (nI k), .int (nI (rtN k)), .int (nI ((rFin (rtN k) K (lN (0 + blN k + dgN k)) (eM2 k ro s2 s5 K ((0 + blN k) + (ln 3)) (rPut (rtN k) K x 0 (ln 3) (rStM k ro s2 s5 K x0 0 (ln 0) (g, fl, S, w) hk)) (rKeyB k ro s2 s5 K x0 0 (ln 0) (g, fl, S, w) hk) inn)).2.1)), .long (lN (rFiT (rtN k) K (0 + blN k + dgN k) (eM2 k ro s2 s5 K ((0 + blN k) + (ln 3)) (rPut (rtN k) K x 0 (ln 3) (rStM k ro s2 s5 K x0 0 (ln 0) (g, fl, S, w) hk)) (rKeyB k ro s2 s5 K x0 0 (ln 0) (g, fl, S, w) hk) inn))), .ref (q 16), .ref (q 17)], cj B (q 11) 25 ((rFin (rtN k) K (lN (0 + blN k + dgN k)) (eM2 k ro s2 s5 K ((0 + blN k) + (ln 3)) (rPut (rtN k) K x 0 (ln 3) (rStM k ro s2 s5 K x0 0 (ln 0) (g, fl, S, w) hk)) (rKeyB k ro s2 s5 K x0 0 (ln 0) (g, fl, S, w) hk) inn)).2.2.1), cb B (q 15) 128 ((rFin (rtN k) K (lN (0 + blN k + dgN k)) (eM2 k ro s2 s5 K ((0 + blN k) + (ln 3)) (rPut (rtN k) K x 0 (ln 3) (rStM k ro s2 s5 K x0 0 (ln 0) (g, fl, S, w) hk)) (rKeyB k ro s2 s5 K x0 0 (ln 0) (g, fl, S, w) hk) inn)).1), cj B (q 14) 80 ((rFin (rtN k) K (lN (0 + blN k + dgN k)) (eM2 k ro s2 s5 K ((0 + blN k) + (ln 3)) (rPut (rtN k) K x 0 (ln 3) (rStM k ro s2 s5 K x0 0 (ln 0) (g, fl, S, w) hk)) (rKeyB k ro s2 s5 K x0 0 (ln 0) (g, fl, S, w) hk) inn)).2.2.2), cj B (q 4) 80 K, cj B (q 3) 16 ro, cj B (q 5) 8 s2, cj B (q 6) 8 s5, cb B (q 16) 128 (rKeyB k ro s2 s5 K x0 0 (ln 0) (g, fl, S, w) hk), cb B (q 17) 64 (eM1 k K ((0 + blN k) + (ln 3)) (rPut (rtN k) K x 0 (ln 3) (rStM k ro s2 s5 K x0 0 (ln 0) (g, fl, S, w) hk)) inn), cq B (q 1) 8 (fun z9 => some (q (20 + z9))), cb B (q 20) 8192 x0, cb B (q 23) 8192 x, cb B (q 26) 8192 (gvS (rtN k) (rFin (rtN k) K (lN (0 + blN k + dgN k)) (eM2 k ro s2 s5 K ((0 + blN k) + (ln 3)) (rPut (rtN k) K x 0 (ln 3) (rStM k ro s2 s5 K x0 0 (ln 0) (g, fl, S, w) hk)) (rKeyB k ro s2 s5 K x0 0 (ln 0) (g, fl, S, w) hk) inn)).2.2.1 o 0 64), cn B (q 2) 8 (va_up (fun z9 => nI (ln z9)) 6 (nI 64))] rfl ?_
  refine g_iload_n (pc := 246) X (i := 3) d_O_digest_246 rfl rfl ?_
  refine g_wsq [co a 4 [.ref (q 0), .ref (q 1), .ref (q 2), .int (nI tp), .int (nI 0), .ref (q 3), .ref (q 4), .ref (q 5), .ref (q 6), .ref (q 7), .ref (q 8), .ref (q 9), .ref (q 10), .ref (q 11), .ref (q 12), .ref (q 13), .ref (q 14), .ref (q 15), .int (nI k), .int (nI (rtN k)), .int (nI ((rFin (rtN k) K (lN (0 + blN k + dgN k)) (eM2 k ro s2 s5 K (0 + blN k + ln 3) (rPut (rtN k) K x 0 (ln 3) (rStM k ro s2 s5 K x0 0 (ln 0) (g, fl, S, w) hk)) (rKeyB k ro s2 s5 K x0 0 (ln 0) (g, fl, S, w) hk) inn)).2.1)), .long (lN (rFiT (rtN k) K (0 + blN k + dgN k) (eM2 k ro s2 s5 K (0 + blN k + ln 3) (rPut (rtN k) K x 0 (ln 3) (rStM k ro s2 s5 K x0 0 (ln 0) (g, fl, S, w) hk)) (rKeyB k ro s2 s5 K x0 0 (ln 0) (g, fl, S, w) hk) inn))), .ref (q 16), .ref (q 17)], cj B (q 11) 25 ((rFin (rtN k) K (lN (0 + blN k + dgN k)) (eM2 k ro s2 s5 K (0 + blN k + ln 3) (rPut (rtN k) K x 0 (ln 3) (rStM k ro s2 s5 K x0 0 (ln 0) (g, fl, S, w) hk)) (rKeyB k ro s2 s5 K x0 0 (ln 0) (g, fl, S, w) hk) inn)).2.2.1), cb B (q 15) 128 ((rFin (rtN k) K (lN (0 + blN k + dgN k)) (eM2 k ro s2 s5 K (0 + blN k + ln 3) (rPut (rtN k) K x 0 (ln 3) (rStM k ro s2 s5 K x0 0 (ln 0) (g, fl, S, w) hk)) (rKeyB k ro s2 s5 K x0 0 (ln 0) (g, fl, S, w) hk) inn)).1), cj B (q 14) 80 ((rFin (rtN k) K (lN (0 + blN k + dgN k)) (eM2 k ro s2 s5 K (0 + blN k + ln 3) (rPut (rtN k) K x 0 (ln 3) (rStM k ro s2 s5 K x0 0 (ln 0) (g, fl, S, w) hk)) (rKeyB k ro s2 s5 K x0 0 (ln 0) (g, fl, S, w) hk) inn)).2.2.2), cj B (q 4) 80 K, cj B (q 3) 16 ro, cj B (q 5) 8 s2, cj B (q 6) 8 s5, cb B (q 16) 128 (rKeyB k ro s2 s5 K x0 0 (ln 0) (g, fl, S, w) hk), cb B (q 17) 64 (eM1 k K (0 + blN k + ln 3) (rPut (rtN k) K x 0 (ln 3) (rStM k ro s2 s5 K x0 0 (ln 0) (g, fl, S, w) hk)) inn), cq B (q 1) 8 (fun z9 => some (q (20 + z9))), cb B (q 20) 8192 x0, cb B (q 23) 8192 x, cb B (q 26) 8192 (gvS (rtN k) (rFin (rtN k) K (lN (0 + blN k + dgN k)) (eM2 k ro s2 s5 K (0 + blN k + ln 3) (rPut (rtN k) K x 0 (ln 3) (rStM k ro s2 s5 K x0 0 (ln 0) (g, fl, S, w) hk)) (rKeyB k ro s2 s5 K x0 0 (ln 0) (g, fl, S, w) hk) inn)).2.2.1 o 0 64), cn B (q 2) 8 (fun z9 => nI (va_up ln 6 64 z9))] (by rw [nI_up] <;> rfl) ?_
  exact kret _ () _ 247 rfl d_O_digest_247

theorem c_O_digest_15 (l : Launch) (B : Bx) (a : Nat) (q : Nat → Nat) (tp : Nat) (kd : Nat) (rt : Nat) (fl : Nat) (tt : Nat) (cd : Int32) (g : Nat → Int8) (S : Nat → Int64) (w : Nat → Int64) (K : Nat → Int64) (k : Nat) (n : Nat) (ro : Nat → Int64) (s2 : Nat → Int64) (s5 : Nat → Int64) (ln : Nat → Nat) (x : Nat → Int8) (o : Nat → Int8) (inn : Nat → Int8) (h3 : ln 3 ≤ 8192) (h4 : n ≤ 8192) (hkk : k = 1) : Ci (S := Unit) l B y_O_digest b_O_digest 5 .int (Rm 7 0 0) [.ref a, .int (nI 15), .int (nI n)] [co a 4 [.ref (q 0), .ref (q 1), .ref (q 2), .int (nI tp), .int cd, .ref (q 3), .ref (q 4), .ref (q 5), .ref (q 6), .ref (q 7), .ref (q 8), .ref (q 9), .ref (q 10), .ref (q 11), .ref (q 12), .ref (q 13), .ref (q 14), .ref (q 15), .int (nI kd), .int (nI rt), .int (nI fl), .long (lN tt), .ref (q 16), .ref (q 17)], cj B (q 11) 25 S, cb B (q 15) 128 g, cj B (q 14) 80 w, cj B (q 4) 80 K, cj B (q 3) 16 ro, cj B (q 5) 8 s2, cj B (q 6) 8 s5, cb B (q 17) 64 inn, cq B (q 1) 8 (fun z9 => some (q (20 + z9))), cb B (q 23) 8192 x, cb B (q 26) 8192 o, cn B (q 2) 8 (fun z9 => nI (ln z9))] (fun r _ => r = nI n) (fun _ => [co a 4 [.ref (q 0), .ref (q 1), .ref (q 2), .int (nI tp), .int (nI 0), .ref (q 3), .ref (q 4), .ref (q 5), .ref (q 6), .ref (q 7), .ref (q 8), .ref (q 9), .ref (q 10), .ref (q 11), .ref (q 12), .ref (q 13), .ref (q 14), .ref (q 15), .int (nI ((mkU k ro s2 s5 K x (ln 3) 0 n (((g, fl, S, w), inn, o), kd, rt, tt)).2.1)), .int (nI ((mkU k ro s2 s5 K x (ln 3) 0 n (((g, fl, S, w), inn, o), kd, rt, tt)).2.2.1)), .int (nI ((mkU k ro s2 s5 K x (ln 3) 0 n (((g, fl, S, w), inn, o), kd, rt, tt)).1.1.2.1)), .long (lN ((mkU k ro s2 s5 K x (ln 3) 0 n (((g, fl, S, w), inn, o), kd, rt, tt)).2.2.2)), .ref (q 16), .ref (q 17)], cj B (q 11) 25 ((mkU k ro s2 s5 K x (ln 3) 0 n (((g, fl, S, w), inn, o), kd, rt, tt)).1.1.2.2.1), cb B (q 15) 128 ((mkU k ro s2 s5 K x (ln 3) 0 n (((g, fl, S, w), inn, o), kd, rt, tt)).1.1.1), cj B (q 14) 80 ((mkU k ro s2 s5 K x (ln 3) 0 n (((g, fl, S, w), inn, o), kd, rt, tt)).1.1.2.2.2), cj B (q 4) 80 K, cj B (q 3) 16 ro, cj B (q 5) 8 s2, cj B (q 6) 8 s5, cb B (q 17) 64 ((mkU k ro s2 s5 K x (ln 3) 0 n (((g, fl, S, w), inn, o), kd, rt, tt)).1.2.1), cq B (q 1) 8 (fun z9 => some (q (20 + z9))), cb B (q 23) 8192 x, cb B (q 26) 8192 ((mkU k ro s2 s5 K x (ln 3) 0 n (((g, fl, S, w), inn, o), kd, rt, tt)).1.2.2), cn B (q 2) 8 (fun z9 => nI (va_up ln 6 n z9))]) := by
  refine ctr_i (by decide) (Nat.le_of_ble_eq_true rfl) ?_
  intro M Q hl hR hin X kret
  subst hl
  refine g_lv [(0, .ref a), (1, .int (nI 15)), (2, .int (nI n))] rfl ?_
  refine g_aload_n (pc := 0) X (i := 0) d_O_digest_0 rfl rfl ?_
  refine g_iload_n (pc := 1) X (i := 1) d_O_digest_1 rfl rfl ?_
  refine g_iconst (pc := 2) X (v := nI 1) d_O_digest_2 (by decide) ?_
  refine g_bipush (pc := 3) X (v := nI 16) d_O_digest_3 (by decide) ?_
  refine g_callSi (pc := 5) X (c_O_in_t (m_l M) B (nI 15) (nI 1) (nI 16) (inR_n (by omega) (by omega) (by omega))) wd_913 wd_914 wd_5 wd_915 hd_O_in [] rfl rfl [] (fun _ => rfl) rfl (by rw [hR]; decide) (by rw [hR]; decide) rfl (Nat.le_of_ble_eq_true rfl) d_O_digest_5 (fun r9 _ hr9 => ?_)
  subst hr9
  refine g_wsq [co a 4 [.ref (q 0), .ref (q 1), .ref (q 2), .int (nI tp), .int cd, .ref (q 3), .ref (q 4), .ref (q 5), .ref (q 6), .ref (q 7), .ref (q 8), .ref (q 9), .ref (q 10), .ref (q 11), .ref (q 12), .ref (q 13), .ref (q 14), .ref (q 15), .int (nI kd), .int (nI rt), .int (nI fl), .long (lN tt), .ref (q 16), .ref (q 17)], cj B (q 11) 25 S, cb B (q 15) 128 g, cj B (q 14) 80 w, cj B (q 4) 80 K, cj B (q 3) 16 ro, cj B (q 5) 8 s2, cj B (q 6) 8 s5, cb B (q 17) 64 inn, cq B (q 1) 8 (fun z9 => some (q (20 + z9))), cb B (q 23) 8192 x, cb B (q 26) 8192 o, cn B (q 2) 8 (fun z9 => nI (ln z9))] rfl ?_
  refine g_if_eqN (pc := 8) X (tgt := 26) d_O_digest_8 (by decide) (by omega) (fun h_8 => absurd h_8 (by omega)) (fun h_8 => ?_)
  refine g_iload_n (pc := 11) X (i := 2) d_O_digest_11 rfl rfl ?_
  refine g_iconst (pc := 12) X (v := nI 0) d_O_digest_12 (by decide) ?_
  refine g_sipush (pc := 13) X (v := nI 8192) d_O_digest_13 (by decide) ?_
  refine g_callSi (pc := 16) X (c_O_in_t (m_l M) B (nI n) (nI 0) (nI 8192) (inR_n (by omega) (by omega) (by omega))) wd_913 wd_914 wd_5 wd_915 hd_O_in [] rfl rfl [] (fun _ => rfl) rfl (by rw [hR]; decide) (by rw [hR]; decide) rfl (Nat.le_of_ble_eq_true rfl) d_O_digest_16 (fun r9 _ hr9 => ?_)
  subst hr9
  refine g_wsq [co a 4 [.ref (q 0), .ref (q 1), .ref (q 2), .int (nI tp), .int cd, .ref (q 3), .ref (q 4), .ref (q 5), .ref (q 6), .ref (q 7), .ref (q 8), .ref (q 9), .ref (q 10), .ref (q 11), .ref (q 12), .ref (q 13), .ref (q 14), .ref (q 15), .int (nI kd), .int (nI rt), .int (nI fl), .long (lN tt), .ref (q 16), .ref (q 17)], cj B (q 11) 25 S, cb B (q 15) 128 g, cj B (q 14) 80 w, cj B (q 4) 80 K, cj B (q 3) 16 ro, cj B (q 5) 8 s2, cj B (q 6) 8 s5, cb B (q 17) 64 inn, cq B (q 1) 8 (fun z9 => some (q (20 + z9))), cb B (q 23) 8192 x, cb B (q 26) 8192 o, cn B (q 2) 8 (fun z9 => nI (ln z9))] rfl ?_
  refine g_if_eqN (pc := 19) X (tgt := 26) d_O_digest_19 (by decide) (by omega) (fun h_19 => absurd h_19 (by omega)) (fun h_19 => ?_)
  refine g_iconst (pc := 22) X (v := nI 1) d_O_digest_22 (by decide) ?_
  refine g_goto (pc := 23) X (tgt := 27) d_O_digest_23 (by decide) ?_
  refine g_iconst (pc := 27) X (v := nI 1) d_O_digest_27 (by decide) ?_
  refine g_callVi (pc := 28) (q0 := 0) X (c_O_good_t (m_l M) B a q tp kd rt fl tt cd (nI 1) ) wd_901 wd_903 wp_O_good wd_5 wd_904 hd_O_good [0] rfl rfl [a] (fun _ => rfl) rfl rfl rfl (by rw [hR]; decide) (by rw [hR]; decide) rfl (Nat.le_of_ble_eq_true rfl) d_O_digest_28 (fun r9 _ hr9 => ?_)
  subst hr9
  refine g_wsq [co a 4 [.ref (q 0), .ref (q 1), .ref (q 2), .int (nI tp), .int (nI 0), .ref (q 3), .ref (q 4), .ref (q 5), .ref (q 6), .ref (q 7), .ref (q 8), .ref (q 9), .ref (q 10), .ref (q 11), .ref (q 12), .ref (q 13), .ref (q 14), .ref (q 15), .int (nI kd), .int (nI rt), .int (nI fl), .long (lN tt), .ref (q 16), .ref (q 17)], cj B (q 11) 25 S, cb B (q 15) 128 g, cj B (q 14) 80 w, cj B (q 4) 80 K, cj B (q 3) 16 ro, cj B (q 5) 8 s2, cj B (q 6) 8 s5, cb B (q 17) 64 inn, cq B (q 1) 8 (fun z9 => some (q (20 + z9))), cb B (q 23) 8192 x, cb B (q 26) 8192 o, cn B (q 2) 8 (fun z9 => nI (ln z9))] rfl ?_
  refine g_if_neN (pc := 31) X (tgt := 36) d_O_digest_31 (by decide) (by omega) (fun h_31 => ?_) (fun h_31 => absurd h_31 (by omega))
  refine g_iload_n (pc := 36) X (i := 1) d_O_digest_36 rfl rfl ?_
  refine g_bipush (pc := 37) X (v := nI 13) d_O_digest_37 (by decide) ?_
  refine g_icmp_neN (pc := 39) X (tgt := 47) d_O_digest_39 (by decide) (by omega) (by omega) (fun h_39 => ?_) (fun h_39 => absurd h_39 (by omega))
  refine g_iload_n (pc := 47) X (i := 1) d_O_digest_47 rfl rfl ?_
  refine g_bipush (pc := 48) X (v := nI 14) d_O_digest_48 (by decide) ?_
  refine g_icmp_neN (pc := 50) X (tgt := 58) d_O_digest_50 (by decide) (by omega) (by omega) (fun h_50 => ?_) (fun h_50 => absurd h_50 (by omega))
  refine g_iload_n (pc := 58) X (i := 1) d_O_digest_58 rfl rfl ?_
  refine g_bipush (pc := 59) X (v := nI 14) d_O_digest_59 (by decide) ?_
  refine g_icmp_gtN (pc := 61) X (tgt := 76) d_O_digest_61 (by decide) (by omega) (by omega) (fun h_61 => ?_) (fun h_61 => absurd h_61 (by omega))
  refine g_iload_n (pc := 76) X (i := 2) d_O_digest_76 rfl rfl ?_
  refine g_goto (pc := 77) X (tgt := 84) d_O_digest_77 (by decide) ?_
  refine g_istore_n (pc := 84) X (i := 3) d_O_digest_84 rfl (by decide) ?_
  refine g_lv [(0, .ref a), (1, .int (nI 15)), (2, .int (nI n)), (3, .int (nI n))] rfl ?_
  refine g_iload_n (pc := 85) X (i := 1) d_O_digest_85 rfl rfl ?_
  refine g_bipush (pc := 86) X (v := nI 13) d_O_digest_86 (by decide) ?_
  refine g_icmp_geN (pc := 88) X (tgt := 129) d_O_digest_88 (by decide) (by omega) (by omega) (fun h_88 => ?_) (fun h_88 => absurd h_88 (by omega))
  refine g_iload_n (pc := 129) X (i := 1) d_O_digest_129 rfl rfl ?_
  refine g_bipush (pc := 130) X (v := nI 15) d_O_digest_130 (by decide) ?_
  refine g_icmp_geN (pc := 132) X (tgt := 202) d_O_digest_132 (by decide) (by omega) (by omega) (fun h_132 => ?_) (fun h_132 => absurd h_132 (by omega))
  refine g_aload_n (pc := 202) X (i := 0) d_O_digest_202 rfl rfl ?_
  refine g_iload_n (pc := 203) X (i := 1) d_O_digest_203 rfl rfl ?_
  refine g_bipush (pc := 204) X (v := nI 15) d_O_digest_204 (by decide) ?_
  refine g_icmp_neN (pc := 206) X (tgt := 213) d_O_digest_206 (by decide) (by omega) (by omega) (fun h_206 => absurd h_206 (by omega)) (fun h_206 => ?_)
  refine g_iconst (pc := 209) X (v := nI 1) d_O_digest_209 (by decide) ?_
  refine g_seti (nI k) (congrArg nI hkk.symm) ?_
  refine g_goto (pc := 210) X (tgt := 214) d_O_digest_210 (by decide) ?_
  refine g_aload_n (pc := 214) X (i := 0) d_O_digest_214 rfl rfl ?_
  refine g_get (pc := 215) X in_O 0 rfl rfl 1 (by decide) wd_820 rfl d_O_digest_215 ?_
  refine g_iconst (pc := 218) X (v := nI 3) d_O_digest_218 (by decide) ?_
  refine g_qald (pc := 219) X 9 rfl 3 rfl (by omega) (by omega) (r := q 23) rfl d_O_digest_219 ?_
  refine g_aload_n (pc := 220) X (i := 0) d_O_digest_220 rfl rfl ?_
  refine g_get (pc := 221) X in_O 0 rfl rfl 2 (by decide) wd_821 rfl d_O_digest_221 ?_
  refine g_iconst (pc := 224) X (v := nI 3) d_O_digest_224 (by decide) ?_
  refine g_iald (pc := 225) X 12 rfl 3 rfl (by omega) (by omega) d_O_digest_225 ?_
  refine g_aload_n (pc := 226) X (i := 0) d_O_digest_226 rfl rfl ?_
  refine g_get (pc := 227) X in_O 0 rfl rfl 1 (by decide) wd_820 rfl d_O_digest_227 ?_
  refine g_bipush (pc := 230) X (v := nI 6) d_O_digest_230 (by decide) ?_
  refine g_qald (pc := 232) X 9 rfl 6 rfl (by omega) (by omega) (r := q 26) rfl d_O_digest_232 ?_
  refine g_iconst (pc := 233) X (v := nI 0) d_O_digest_233 (by decide) ?_
  refine g_iload_n (pc := 234) X (i := 3) d_O_digest_234 rfl rfl ?_
  refine g_callVv (pc := 235) (q0 := 0) X (c_O_mask (m_l M) B a q tp kd rt fl tt (nI 0) g S w K k ro s2 s5 (q 23) 8192 (ln 3) (q 26) 8192 0 n x inn o (by omega) (by omega) (by omega) (by omega) (by omega) (by omega)) wd_967 wd_969 wp_O_mask wd_5 wd_970 hd_O_mask [0, 1, 2, 3, 4, 5, 6, 7, 8, 10, 11] rfl rfl [a, q 11, q 15, q 14, q 4, q 3, q 5, q 6, q 17, q 23, q 26] (fun _ => rfl) rfl rfl rfl (by rw [hR]; decide) (by rw [hR]; decide) rfl (Nat.le_of_ble_eq_true rfl) d_O_digest_235 (fun _ _ => ?_)
  refine g_wsq [co a 4 [.ref (q 0), .ref (q 1), .ref (q 2), .int (nI tp), .int (nI 0), .ref (q 3), .ref (q 4), .ref (q 5), .ref (q 6), .ref (q 7), .ref (q 8), .ref (q 9), .ref (q 10), .ref (q 11), .ref (q 12), .ref (q 13), .ref (q 14), .ref (q 15), .int (nI ((mkU k ro s2 s5 K x (ln 3) 0 n (((g, fl, S, w), inn, o), kd, rt, tt)).2.1)), .int (nI ((mkU k ro s2 s5 K x (ln 3) 0 n (((g, fl, S, w), inn, o), kd, rt, tt)).2.2.1)), .int (nI ((mkU k ro s2 s5 K x (ln 3) 0 n (((g, fl, S, w), inn, o), kd, rt, tt)).1.1.2.1)), .long (lN ((mkU k ro s2 s5 K x (ln 3) 0 n (((g, fl, S, w), inn, o), kd, rt, tt)).2.2.2)), .ref (q 16), .ref (q 17)], cj B (q 11) 25 ((mkU k ro s2 s5 K x (ln 3) 0 n (((g, fl, S, w), inn, o), kd, rt, tt)).1.1.2.2.1), cb B (q 15) 128 ((mkU k ro s2 s5 K x (ln 3) 0 n (((g, fl, S, w), inn, o), kd, rt, tt)).1.1.1), cj B (q 14) 80 ((mkU k ro s2 s5 K x (ln 3) 0 n (((g, fl, S, w), inn, o), kd, rt, tt)).1.1.2.2.2), cj B (q 4) 80 K, cj B (q 3) 16 ro, cj B (q 5) 8 s2, cj B (q 6) 8 s5, cb B (q 17) 64 ((mkU k ro s2 s5 K x (ln 3) 0 n (((g, fl, S, w), inn, o), kd, rt, tt)).1.2.1), cq B (q 1) 8 (fun z9 => some (q (20 + z9))), cb B (q 23) 8192 x, cb B (q 26) 8192 ((mkU k ro s2 s5 K x (ln 3) 0 n (((g, fl, S, w), inn, o), kd, rt, tt)).1.2.2), cn B (q 2) 8 (fun z9 => nI (ln z9))] rfl ?_
  refine g_aload_n (pc := 238) X (i := 0) d_O_digest_238 rfl rfl ?_
  refine g_get (pc := 239) X in_O 0 rfl rfl 2 (by decide) wd_821 rfl d_O_digest_239 ?_
  refine g_bipush (pc := 242) X (v := nI 6) d_O_digest_242 (by decide) ?_
  refine g_iload_n (pc := 244) X (i := 3) d_O_digest_244 rfl rfl ?_
  refine g_iast (pc := 245) X 12 rfl 6 rfl (by omega) (by omega) d_O_digest_245 ?_
  refine g_wsq [co a 4 [.ref (q 0), .ref (q 1), .ref (q 2), .int (nI tp), .int (nI 0), .ref (q 3), .ref (q 4), .ref (q 5), .ref (q 6), .ref (q 7), .ref (q 8), .ref (q 9), .ref (q 10), .ref (q 11), .ref (q 12), .ref (q 13), .ref (q 14), .ref (q 15), .int (nI ((mkU k ro s2 s5 K x (ln 3) 0 n (((g, fl, S, w), inn, o), kd, rt, tt)).2.1)), .int (nI ((mkU k ro s2 s5 K x (ln 3) 0 n (((g, fl, S, w), inn, o), kd, rt, tt)).2.2.1)), .int (nI ((mkU k ro s2 s5 K x (ln 3) 0 n (((g, fl, S, w), inn, o), kd, rt, tt)).1.1.2.1)), .long (lN ((mkU k ro s2 s5 K x (ln 3) 0 n (((g, fl, S, w), inn, o), kd, rt, tt)).2.2.2)), .ref (q 16), .ref (q 17)], cj B (q 11) 25 ((mkU k ro s2 s5 K x (ln 3) 0 n (((g, fl, S, w), inn, o), kd, rt, tt)).1.1.2.2.1), cb B (q 15) 128 ((mkU k ro s2 s5 K x (ln 3) 0 n (((g, fl, S, w), inn, o), kd, rt, tt)).1.1.1), cj B (q 14) 80 ((mkU k ro s2 s5 K x (ln 3) 0 n (((g, fl, S, w), inn, o), kd, rt, tt)).1.1.2.2.2), cj B (q 4) 80 K, cj B (q 3) 16 ro, cj B (q 5) 8 s2, cj B (q 6) 8 s5, cb B (q 17) 64 ((mkU k ro s2 s5 K x (ln 3) 0 n (((g, fl, S, w), inn, o), kd, rt, tt)).1.2.1), cq B (q 1) 8 (fun z9 => some (q (20 + z9))), cb B (q 23) 8192 x, cb B (q 26) 8192 ((mkU k ro s2 s5 K x (ln 3) 0 n (((g, fl, S, w), inn, o), kd, rt, tt)).1.2.2), cn B (q 2) 8 (va_up (fun z9 => nI (ln z9)) 6 (nI n))] rfl ?_
  refine g_iload_n (pc := 246) X (i := 3) d_O_digest_246 rfl rfl ?_
  refine g_wsq [co a 4 [.ref (q 0), .ref (q 1), .ref (q 2), .int (nI tp), .int (nI 0), .ref (q 3), .ref (q 4), .ref (q 5), .ref (q 6), .ref (q 7), .ref (q 8), .ref (q 9), .ref (q 10), .ref (q 11), .ref (q 12), .ref (q 13), .ref (q 14), .ref (q 15), .int (nI ((mkU k ro s2 s5 K x (ln 3) 0 n (((g, fl, S, w), inn, o), kd, rt, tt)).2.1)), .int (nI ((mkU k ro s2 s5 K x (ln 3) 0 n (((g, fl, S, w), inn, o), kd, rt, tt)).2.2.1)), .int (nI ((mkU k ro s2 s5 K x (ln 3) 0 n (((g, fl, S, w), inn, o), kd, rt, tt)).1.1.2.1)), .long (lN ((mkU k ro s2 s5 K x (ln 3) 0 n (((g, fl, S, w), inn, o), kd, rt, tt)).2.2.2)), .ref (q 16), .ref (q 17)], cj B (q 11) 25 ((mkU k ro s2 s5 K x (ln 3) 0 n (((g, fl, S, w), inn, o), kd, rt, tt)).1.1.2.2.1), cb B (q 15) 128 ((mkU k ro s2 s5 K x (ln 3) 0 n (((g, fl, S, w), inn, o), kd, rt, tt)).1.1.1), cj B (q 14) 80 ((mkU k ro s2 s5 K x (ln 3) 0 n (((g, fl, S, w), inn, o), kd, rt, tt)).1.1.2.2.2), cj B (q 4) 80 K, cj B (q 3) 16 ro, cj B (q 5) 8 s2, cj B (q 6) 8 s5, cb B (q 17) 64 ((mkU k ro s2 s5 K x (ln 3) 0 n (((g, fl, S, w), inn, o), kd, rt, tt)).1.2.1), cq B (q 1) 8 (fun z9 => some (q (20 + z9))), cb B (q 23) 8192 x, cb B (q 26) 8192 ((mkU k ro s2 s5 K x (ln 3) 0 n (((g, fl, S, w), inn, o), kd, rt, tt)).1.2.2), cn B (q 2) 8 (fun z9 => nI (va_up ln 6 n z9))] (by rw [nI_up] <;> rfl) ?_
  exact kret _ () _ 247 rfl d_O_digest_247

theorem c_O_digest_16 (l : Launch) (B : Bx) (a : Nat) (q : Nat → Nat) (tp : Nat) (kd : Nat) (rt : Nat) (fl : Nat) (tt : Nat) (cd : Int32) (g : Nat → Int8) (S : Nat → Int64) (w : Nat → Int64) (K : Nat → Int64) (k : Nat) (n : Nat) (ro : Nat → Int64) (s2 : Nat → Int64) (s5 : Nat → Int64) (ln : Nat → Nat) (x : Nat → Int8) (o : Nat → Int8) (inn : Nat → Int8) (h3 : ln 3 ≤ 8192) (h4 : n ≤ 8192) (hkk : k = 3) : Ci (S := Unit) l B y_O_digest b_O_digest 5 .int (Rm 7 0 0) [.ref a, .int (nI 16), .int (nI n)] [co a 4 [.ref (q 0), .ref (q 1), .ref (q 2), .int (nI tp), .int cd, .ref (q 3), .ref (q 4), .ref (q 5), .ref (q 6), .ref (q 7), .ref (q 8), .ref (q 9), .ref (q 10), .ref (q 11), .ref (q 12), .ref (q 13), .ref (q 14), .ref (q 15), .int (nI kd), .int (nI rt), .int (nI fl), .long (lN tt), .ref (q 16), .ref (q 17)], cj B (q 11) 25 S, cb B (q 15) 128 g, cj B (q 14) 80 w, cj B (q 4) 80 K, cj B (q 3) 16 ro, cj B (q 5) 8 s2, cj B (q 6) 8 s5, cb B (q 17) 64 inn, cq B (q 1) 8 (fun z9 => some (q (20 + z9))), cb B (q 23) 8192 x, cb B (q 26) 8192 o, cn B (q 2) 8 (fun z9 => nI (ln z9))] (fun r _ => r = nI n) (fun _ => [co a 4 [.ref (q 0), .ref (q 1), .ref (q 2), .int (nI tp), .int (nI 0), .ref (q 3), .ref (q 4), .ref (q 5), .ref (q 6), .ref (q 7), .ref (q 8), .ref (q 9), .ref (q 10), .ref (q 11), .ref (q 12), .ref (q 13), .ref (q 14), .ref (q 15), .int (nI ((mkU k ro s2 s5 K x (ln 3) 0 n (((g, fl, S, w), inn, o), kd, rt, tt)).2.1)), .int (nI ((mkU k ro s2 s5 K x (ln 3) 0 n (((g, fl, S, w), inn, o), kd, rt, tt)).2.2.1)), .int (nI ((mkU k ro s2 s5 K x (ln 3) 0 n (((g, fl, S, w), inn, o), kd, rt, tt)).1.1.2.1)), .long (lN ((mkU k ro s2 s5 K x (ln 3) 0 n (((g, fl, S, w), inn, o), kd, rt, tt)).2.2.2)), .ref (q 16), .ref (q 17)], cj B (q 11) 25 ((mkU k ro s2 s5 K x (ln 3) 0 n (((g, fl, S, w), inn, o), kd, rt, tt)).1.1.2.2.1), cb B (q 15) 128 ((mkU k ro s2 s5 K x (ln 3) 0 n (((g, fl, S, w), inn, o), kd, rt, tt)).1.1.1), cj B (q 14) 80 ((mkU k ro s2 s5 K x (ln 3) 0 n (((g, fl, S, w), inn, o), kd, rt, tt)).1.1.2.2.2), cj B (q 4) 80 K, cj B (q 3) 16 ro, cj B (q 5) 8 s2, cj B (q 6) 8 s5, cb B (q 17) 64 ((mkU k ro s2 s5 K x (ln 3) 0 n (((g, fl, S, w), inn, o), kd, rt, tt)).1.2.1), cq B (q 1) 8 (fun z9 => some (q (20 + z9))), cb B (q 23) 8192 x, cb B (q 26) 8192 ((mkU k ro s2 s5 K x (ln 3) 0 n (((g, fl, S, w), inn, o), kd, rt, tt)).1.2.2), cn B (q 2) 8 (fun z9 => nI (va_up ln 6 n z9))]) := by
  refine ctr_i (by decide) (Nat.le_of_ble_eq_true rfl) ?_
  intro M Q hl hR hin X kret
  subst hl
  refine g_lv [(0, .ref a), (1, .int (nI 16)), (2, .int (nI n))] rfl ?_
  refine g_aload_n (pc := 0) X (i := 0) d_O_digest_0 rfl rfl ?_
  refine g_iload_n (pc := 1) X (i := 1) d_O_digest_1 rfl rfl ?_
  refine g_iconst (pc := 2) X (v := nI 1) d_O_digest_2 (by decide) ?_
  refine g_bipush (pc := 3) X (v := nI 16) d_O_digest_3 (by decide) ?_
  refine g_callSi (pc := 5) X (c_O_in_t (m_l M) B (nI 16) (nI 1) (nI 16) (inR_n (by omega) (by omega) (by omega))) wd_913 wd_914 wd_5 wd_915 hd_O_in [] rfl rfl [] (fun _ => rfl) rfl (by rw [hR]; decide) (by rw [hR]; decide) rfl (Nat.le_of_ble_eq_true rfl) d_O_digest_5 (fun r9 _ hr9 => ?_)
  subst hr9
  refine g_wsq [co a 4 [.ref (q 0), .ref (q 1), .ref (q 2), .int (nI tp), .int cd, .ref (q 3), .ref (q 4), .ref (q 5), .ref (q 6), .ref (q 7), .ref (q 8), .ref (q 9), .ref (q 10), .ref (q 11), .ref (q 12), .ref (q 13), .ref (q 14), .ref (q 15), .int (nI kd), .int (nI rt), .int (nI fl), .long (lN tt), .ref (q 16), .ref (q 17)], cj B (q 11) 25 S, cb B (q 15) 128 g, cj B (q 14) 80 w, cj B (q 4) 80 K, cj B (q 3) 16 ro, cj B (q 5) 8 s2, cj B (q 6) 8 s5, cb B (q 17) 64 inn, cq B (q 1) 8 (fun z9 => some (q (20 + z9))), cb B (q 23) 8192 x, cb B (q 26) 8192 o, cn B (q 2) 8 (fun z9 => nI (ln z9))] rfl ?_
  refine g_if_eqN (pc := 8) X (tgt := 26) d_O_digest_8 (by decide) (by omega) (fun h_8 => absurd h_8 (by omega)) (fun h_8 => ?_)
  refine g_iload_n (pc := 11) X (i := 2) d_O_digest_11 rfl rfl ?_
  refine g_iconst (pc := 12) X (v := nI 0) d_O_digest_12 (by decide) ?_
  refine g_sipush (pc := 13) X (v := nI 8192) d_O_digest_13 (by decide) ?_
  refine g_callSi (pc := 16) X (c_O_in_t (m_l M) B (nI n) (nI 0) (nI 8192) (inR_n (by omega) (by omega) (by omega))) wd_913 wd_914 wd_5 wd_915 hd_O_in [] rfl rfl [] (fun _ => rfl) rfl (by rw [hR]; decide) (by rw [hR]; decide) rfl (Nat.le_of_ble_eq_true rfl) d_O_digest_16 (fun r9 _ hr9 => ?_)
  subst hr9
  refine g_wsq [co a 4 [.ref (q 0), .ref (q 1), .ref (q 2), .int (nI tp), .int cd, .ref (q 3), .ref (q 4), .ref (q 5), .ref (q 6), .ref (q 7), .ref (q 8), .ref (q 9), .ref (q 10), .ref (q 11), .ref (q 12), .ref (q 13), .ref (q 14), .ref (q 15), .int (nI kd), .int (nI rt), .int (nI fl), .long (lN tt), .ref (q 16), .ref (q 17)], cj B (q 11) 25 S, cb B (q 15) 128 g, cj B (q 14) 80 w, cj B (q 4) 80 K, cj B (q 3) 16 ro, cj B (q 5) 8 s2, cj B (q 6) 8 s5, cb B (q 17) 64 inn, cq B (q 1) 8 (fun z9 => some (q (20 + z9))), cb B (q 23) 8192 x, cb B (q 26) 8192 o, cn B (q 2) 8 (fun z9 => nI (ln z9))] rfl ?_
  refine g_if_eqN (pc := 19) X (tgt := 26) d_O_digest_19 (by decide) (by omega) (fun h_19 => absurd h_19 (by omega)) (fun h_19 => ?_)
  refine g_iconst (pc := 22) X (v := nI 1) d_O_digest_22 (by decide) ?_
  refine g_goto (pc := 23) X (tgt := 27) d_O_digest_23 (by decide) ?_
  refine g_iconst (pc := 27) X (v := nI 1) d_O_digest_27 (by decide) ?_
  refine g_callVi (pc := 28) (q0 := 0) X (c_O_good_t (m_l M) B a q tp kd rt fl tt cd (nI 1) ) wd_901 wd_903 wp_O_good wd_5 wd_904 hd_O_good [0] rfl rfl [a] (fun _ => rfl) rfl rfl rfl (by rw [hR]; decide) (by rw [hR]; decide) rfl (Nat.le_of_ble_eq_true rfl) d_O_digest_28 (fun r9 _ hr9 => ?_)
  subst hr9
  refine g_wsq [co a 4 [.ref (q 0), .ref (q 1), .ref (q 2), .int (nI tp), .int (nI 0), .ref (q 3), .ref (q 4), .ref (q 5), .ref (q 6), .ref (q 7), .ref (q 8), .ref (q 9), .ref (q 10), .ref (q 11), .ref (q 12), .ref (q 13), .ref (q 14), .ref (q 15), .int (nI kd), .int (nI rt), .int (nI fl), .long (lN tt), .ref (q 16), .ref (q 17)], cj B (q 11) 25 S, cb B (q 15) 128 g, cj B (q 14) 80 w, cj B (q 4) 80 K, cj B (q 3) 16 ro, cj B (q 5) 8 s2, cj B (q 6) 8 s5, cb B (q 17) 64 inn, cq B (q 1) 8 (fun z9 => some (q (20 + z9))), cb B (q 23) 8192 x, cb B (q 26) 8192 o, cn B (q 2) 8 (fun z9 => nI (ln z9))] rfl ?_
  refine g_if_neN (pc := 31) X (tgt := 36) d_O_digest_31 (by decide) (by omega) (fun h_31 => ?_) (fun h_31 => absurd h_31 (by omega))
  refine g_iload_n (pc := 36) X (i := 1) d_O_digest_36 rfl rfl ?_
  refine g_bipush (pc := 37) X (v := nI 13) d_O_digest_37 (by decide) ?_
  refine g_icmp_neN (pc := 39) X (tgt := 47) d_O_digest_39 (by decide) (by omega) (by omega) (fun h_39 => ?_) (fun h_39 => absurd h_39 (by omega))
  refine g_iload_n (pc := 47) X (i := 1) d_O_digest_47 rfl rfl ?_
  refine g_bipush (pc := 48) X (v := nI 14) d_O_digest_48 (by decide) ?_
  refine g_icmp_neN (pc := 50) X (tgt := 58) d_O_digest_50 (by decide) (by omega) (by omega) (fun h_50 => ?_) (fun h_50 => absurd h_50 (by omega))
  refine g_iload_n (pc := 58) X (i := 1) d_O_digest_58 rfl rfl ?_
  refine g_bipush (pc := 59) X (v := nI 14) d_O_digest_59 (by decide) ?_
  refine g_icmp_gtN (pc := 61) X (tgt := 76) d_O_digest_61 (by decide) (by omega) (by omega) (fun h_61 => ?_) (fun h_61 => absurd h_61 (by omega))
  refine g_iload_n (pc := 76) X (i := 2) d_O_digest_76 rfl rfl ?_
  refine g_goto (pc := 77) X (tgt := 84) d_O_digest_77 (by decide) ?_
  refine g_istore_n (pc := 84) X (i := 3) d_O_digest_84 rfl (by decide) ?_
  refine g_lv [(0, .ref a), (1, .int (nI 16)), (2, .int (nI n)), (3, .int (nI n))] rfl ?_
  refine g_iload_n (pc := 85) X (i := 1) d_O_digest_85 rfl rfl ?_
  refine g_bipush (pc := 86) X (v := nI 13) d_O_digest_86 (by decide) ?_
  refine g_icmp_geN (pc := 88) X (tgt := 129) d_O_digest_88 (by decide) (by omega) (by omega) (fun h_88 => ?_) (fun h_88 => absurd h_88 (by omega))
  refine g_iload_n (pc := 129) X (i := 1) d_O_digest_129 rfl rfl ?_
  refine g_bipush (pc := 130) X (v := nI 15) d_O_digest_130 (by decide) ?_
  refine g_icmp_geN (pc := 132) X (tgt := 202) d_O_digest_132 (by decide) (by omega) (by omega) (fun h_132 => ?_) (fun h_132 => absurd h_132 (by omega))
  refine g_aload_n (pc := 202) X (i := 0) d_O_digest_202 rfl rfl ?_
  refine g_iload_n (pc := 203) X (i := 1) d_O_digest_203 rfl rfl ?_
  refine g_bipush (pc := 204) X (v := nI 15) d_O_digest_204 (by decide) ?_
  refine g_icmp_neN (pc := 206) X (tgt := 213) d_O_digest_206 (by decide) (by omega) (by omega) (fun h_206 => ?_) (fun h_206 => absurd h_206 (by omega))
  refine g_iconst (pc := 213) X (v := nI 3) d_O_digest_213 (by decide) ?_
  refine g_seti (nI k) (congrArg nI hkk.symm) ?_
  refine g_aload_n (pc := 214) X (i := 0) d_O_digest_214 rfl rfl ?_
  refine g_get (pc := 215) X in_O 0 rfl rfl 1 (by decide) wd_820 rfl d_O_digest_215 ?_
  refine g_iconst (pc := 218) X (v := nI 3) d_O_digest_218 (by decide) ?_
  refine g_qald (pc := 219) X 9 rfl 3 rfl (by omega) (by omega) (r := q 23) rfl d_O_digest_219 ?_
  refine g_aload_n (pc := 220) X (i := 0) d_O_digest_220 rfl rfl ?_
  refine g_get (pc := 221) X in_O 0 rfl rfl 2 (by decide) wd_821 rfl d_O_digest_221 ?_
  refine g_iconst (pc := 224) X (v := nI 3) d_O_digest_224 (by decide) ?_
  refine g_iald (pc := 225) X 12 rfl 3 rfl (by omega) (by omega) d_O_digest_225 ?_
  refine g_aload_n (pc := 226) X (i := 0) d_O_digest_226 rfl rfl ?_
  refine g_get (pc := 227) X in_O 0 rfl rfl 1 (by decide) wd_820 rfl d_O_digest_227 ?_
  refine g_bipush (pc := 230) X (v := nI 6) d_O_digest_230 (by decide) ?_
  refine g_qald (pc := 232) X 9 rfl 6 rfl (by omega) (by omega) (r := q 26) rfl d_O_digest_232 ?_
  refine g_iconst (pc := 233) X (v := nI 0) d_O_digest_233 (by decide) ?_
  refine g_iload_n (pc := 234) X (i := 3) d_O_digest_234 rfl rfl ?_
  refine g_callVv (pc := 235) (q0 := 0) X (c_O_mask (m_l M) B a q tp kd rt fl tt (nI 0) g S w K k ro s2 s5 (q 23) 8192 (ln 3) (q 26) 8192 0 n x inn o (by omega) (by omega) (by omega) (by omega) (by omega) (by omega)) wd_967 wd_969 wp_O_mask wd_5 wd_970 hd_O_mask [0, 1, 2, 3, 4, 5, 6, 7, 8, 10, 11] rfl rfl [a, q 11, q 15, q 14, q 4, q 3, q 5, q 6, q 17, q 23, q 26] (fun _ => rfl) rfl rfl rfl (by rw [hR]; decide) (by rw [hR]; decide) rfl (Nat.le_of_ble_eq_true rfl) d_O_digest_235 (fun _ _ => ?_)
  refine g_wsq [co a 4 [.ref (q 0), .ref (q 1), .ref (q 2), .int (nI tp), .int (nI 0), .ref (q 3), .ref (q 4), .ref (q 5), .ref (q 6), .ref (q 7), .ref (q 8), .ref (q 9), .ref (q 10), .ref (q 11), .ref (q 12), .ref (q 13), .ref (q 14), .ref (q 15), .int (nI ((mkU k ro s2 s5 K x (ln 3) 0 n (((g, fl, S, w), inn, o), kd, rt, tt)).2.1)), .int (nI ((mkU k ro s2 s5 K x (ln 3) 0 n (((g, fl, S, w), inn, o), kd, rt, tt)).2.2.1)), .int (nI ((mkU k ro s2 s5 K x (ln 3) 0 n (((g, fl, S, w), inn, o), kd, rt, tt)).1.1.2.1)), .long (lN ((mkU k ro s2 s5 K x (ln 3) 0 n (((g, fl, S, w), inn, o), kd, rt, tt)).2.2.2)), .ref (q 16), .ref (q 17)], cj B (q 11) 25 ((mkU k ro s2 s5 K x (ln 3) 0 n (((g, fl, S, w), inn, o), kd, rt, tt)).1.1.2.2.1), cb B (q 15) 128 ((mkU k ro s2 s5 K x (ln 3) 0 n (((g, fl, S, w), inn, o), kd, rt, tt)).1.1.1), cj B (q 14) 80 ((mkU k ro s2 s5 K x (ln 3) 0 n (((g, fl, S, w), inn, o), kd, rt, tt)).1.1.2.2.2), cj B (q 4) 80 K, cj B (q 3) 16 ro, cj B (q 5) 8 s2, cj B (q 6) 8 s5, cb B (q 17) 64 ((mkU k ro s2 s5 K x (ln 3) 0 n (((g, fl, S, w), inn, o), kd, rt, tt)).1.2.1), cq B (q 1) 8 (fun z9 => some (q (20 + z9))), cb B (q 23) 8192 x, cb B (q 26) 8192 ((mkU k ro s2 s5 K x (ln 3) 0 n (((g, fl, S, w), inn, o), kd, rt, tt)).1.2.2), cn B (q 2) 8 (fun z9 => nI (ln z9))] rfl ?_
  refine g_aload_n (pc := 238) X (i := 0) d_O_digest_238 rfl rfl ?_
  refine g_get (pc := 239) X in_O 0 rfl rfl 2 (by decide) wd_821 rfl d_O_digest_239 ?_
  refine g_bipush (pc := 242) X (v := nI 6) d_O_digest_242 (by decide) ?_
  refine g_iload_n (pc := 244) X (i := 3) d_O_digest_244 rfl rfl ?_
  refine g_iast (pc := 245) X 12 rfl 6 rfl (by omega) (by omega) d_O_digest_245 ?_
  refine g_wsq [co a 4 [.ref (q 0), .ref (q 1), .ref (q 2), .int (nI tp), .int (nI 0), .ref (q 3), .ref (q 4), .ref (q 5), .ref (q 6), .ref (q 7), .ref (q 8), .ref (q 9), .ref (q 10), .ref (q 11), .ref (q 12), .ref (q 13), .ref (q 14), .ref (q 15), .int (nI ((mkU k ro s2 s5 K x (ln 3) 0 n (((g, fl, S, w), inn, o), kd, rt, tt)).2.1)), .int (nI ((mkU k ro s2 s5 K x (ln 3) 0 n (((g, fl, S, w), inn, o), kd, rt, tt)).2.2.1)), .int (nI ((mkU k ro s2 s5 K x (ln 3) 0 n (((g, fl, S, w), inn, o), kd, rt, tt)).1.1.2.1)), .long (lN ((mkU k ro s2 s5 K x (ln 3) 0 n (((g, fl, S, w), inn, o), kd, rt, tt)).2.2.2)), .ref (q 16), .ref (q 17)], cj B (q 11) 25 ((mkU k ro s2 s5 K x (ln 3) 0 n (((g, fl, S, w), inn, o), kd, rt, tt)).1.1.2.2.1), cb B (q 15) 128 ((mkU k ro s2 s5 K x (ln 3) 0 n (((g, fl, S, w), inn, o), kd, rt, tt)).1.1.1), cj B (q 14) 80 ((mkU k ro s2 s5 K x (ln 3) 0 n (((g, fl, S, w), inn, o), kd, rt, tt)).1.1.2.2.2), cj B (q 4) 80 K, cj B (q 3) 16 ro, cj B (q 5) 8 s2, cj B (q 6) 8 s5, cb B (q 17) 64 ((mkU k ro s2 s5 K x (ln 3) 0 n (((g, fl, S, w), inn, o), kd, rt, tt)).1.2.1), cq B (q 1) 8 (fun z9 => some (q (20 + z9))), cb B (q 23) 8192 x, cb B (q 26) 8192 ((mkU k ro s2 s5 K x (ln 3) 0 n (((g, fl, S, w), inn, o), kd, rt, tt)).1.2.2), cn B (q 2) 8 (va_up (fun z9 => nI (ln z9)) 6 (nI n))] rfl ?_
  refine g_iload_n (pc := 246) X (i := 3) d_O_digest_246 rfl rfl ?_
  refine g_wsq [co a 4 [.ref (q 0), .ref (q 1), .ref (q 2), .int (nI tp), .int (nI 0), .ref (q 3), .ref (q 4), .ref (q 5), .ref (q 6), .ref (q 7), .ref (q 8), .ref (q 9), .ref (q 10), .ref (q 11), .ref (q 12), .ref (q 13), .ref (q 14), .ref (q 15), .int (nI ((mkU k ro s2 s5 K x (ln 3) 0 n (((g, fl, S, w), inn, o), kd, rt, tt)).2.1)), .int (nI ((mkU k ro s2 s5 K x (ln 3) 0 n (((g, fl, S, w), inn, o), kd, rt, tt)).2.2.1)), .int (nI ((mkU k ro s2 s5 K x (ln 3) 0 n (((g, fl, S, w), inn, o), kd, rt, tt)).1.1.2.1)), .long (lN ((mkU k ro s2 s5 K x (ln 3) 0 n (((g, fl, S, w), inn, o), kd, rt, tt)).2.2.2)), .ref (q 16), .ref (q 17)], cj B (q 11) 25 ((mkU k ro s2 s5 K x (ln 3) 0 n (((g, fl, S, w), inn, o), kd, rt, tt)).1.1.2.2.1), cb B (q 15) 128 ((mkU k ro s2 s5 K x (ln 3) 0 n (((g, fl, S, w), inn, o), kd, rt, tt)).1.1.1), cj B (q 14) 80 ((mkU k ro s2 s5 K x (ln 3) 0 n (((g, fl, S, w), inn, o), kd, rt, tt)).1.1.2.2.2), cj B (q 4) 80 K, cj B (q 3) 16 ro, cj B (q 5) 8 s2, cj B (q 6) 8 s5, cb B (q 17) 64 ((mkU k ro s2 s5 K x (ln 3) 0 n (((g, fl, S, w), inn, o), kd, rt, tt)).1.2.1), cq B (q 1) 8 (fun z9 => some (q (20 + z9))), cb B (q 23) 8192 x, cb B (q 26) 8192 ((mkU k ro s2 s5 K x (ln 3) 0 n (((g, fl, S, w), inn, o), kd, rt, tt)).1.2.2), cn B (q 2) 8 (fun z9 => nI (va_up ln 6 n z9))] (by rw [nI_up] <;> rfl) ?_
  exact kret _ () _ 247 rfl d_O_digest_247
