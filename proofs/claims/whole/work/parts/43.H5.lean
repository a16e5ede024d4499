theorem c_H_finish (l : Launch) (B : Bx) (v : Bool) (a : Nat) (bk : Nat) (sa : Nat) (sc : Nat) (ma : Nat) (fl : Nat) (tt : Nat) (mt : Nat) (g : Nat → Int8) (S : Nat → Int64) (w : Nat → Int64) (ta : Nat) (tn : Nat) (at_ : Nat) (n : Nat) (o : Nat → Int8) (h0 : fl < 16 * wbN v) (h1 : at_ + n ≤ tn) (h2 : tn < 2 ^ 31) (h3 : n ≤ 8 * wbN v) : Cv (S := Unit) l B y_H_finish b_H_finish 7 (Rm 5 0 0) [.ref a, .ref ta, .int (nI at_), .int (nI n)] [co a 0 [.int (nI (wbN v)), .int (nI (8 * wbN v)), .int (nI (rdN v)), .ref (b_t B (dk v)), .long (mk9 v), .int (nI (16 * wbN v)), .int (nI (8 * wbN v)), .ref bk, .ref sa, .ref sc, .ref ma, .int (nI fl), .long (lN tt), .long (lN mt)], cb B bk (16 * wbN v) g, cj B sa 8 S, cj B sc (rdN v) w, cb B ta tn o] (fun _ => True) (fun _ => [co a 0 [.int (nI (wbN v)), .int (nI (8 * wbN v)), .int (nI (rdN v)), .ref (b_t B (dk v)), .long (mk9 v), .int (nI (16 * wbN v)), .int (nI (8 * wbN v)), .ref bk, .ref sa, .ref sc, .ref ma, .int (nI ((finB v (lN tt) (g, fl, S, w)).2.1)), .long (lN tt), .long (lN mt)], cb B bk (16 * wbN v) ((finB v (lN tt) (g, fl, S, w)).1), cj B sa 8 ((finB v (lN tt) (g, fl, S, w)).2.2.1), cj B sc (rdN v) ((finB v (lN tt) (g, fl, S, w)).2.2.2), cb B ta tn (wrS v (finB v (lN tt) (g, fl, S, w)).2.2.1 o at_ n)]) := by
  refine ctr_v (by decide) (Nat.le_of_ble_eq_true rfl) ?_
  intro M Q hl hR hin X kret
  subst hl
  have hv := vf v
  refine g_lv [(0, .ref a), (1, .ref ta), (2, .int (nI at_)), (3, .int (nI n))] rfl ?_
  refine g_aload_n (pc := 0) X (i := 0) d_H_finish_0 rfl rfl ?_
  refine g_get (pc := 1) X in_H 0 rfl rfl 7 (by decide) wd_83 rfl d_H_finish_1 ?_
  refine g_aload_n (pc := 4) X (i := 0) d_H_finish_4 rfl rfl ?_
  refine g_get (pc := 5) X in_H 0 rfl rfl 11 (by decide) wd_87 rfl d_H_finish_5 ?_
  refine g_bipush (pc := 8) X (v := (-128)) d_H_finish_8 (by decide) ?_
  refine g_bast (pc := 10) X 1 rfl fl rfl (by omega) (by omega) d_H_finish_10 ?_
  refine g_wsq [co a 0 [.int (nI (wbN v)), .int (nI (8 * wbN v)), .int (nI (rdN v)), .ref (b_t B (dk v)), .long (mk9 v), .int (nI (16 * wbN v)), .int (nI (8 * wbN v)), .ref bk, .ref sa, .ref sc, .ref ma, .int (nI fl), .long (lN tt), .long (lN mt)], cb B bk (16 * wbN v) (va_up g fl ((-128 : Int32).toInt8)), cj B sa 8 S, cj B sc (rdN v) w, cb B ta tn o] rfl ?_
  refine g_aload_n (pc := 11) X (i := 0) d_H_finish_11 rfl rfl ?_
  refine g_dup (pc := 12) X d_H_finish_12 rfl ?_
  refine g_get (pc := 13) X in_H 0 rfl rfl 11 (by decide) wd_87 rfl d_H_finish_13 ?_
  refine g_iconst (pc := 16) X (v := nI 1) d_H_finish_16 (by decide) ?_
  refine g_iaddN (pc := 17) X (fl + 1) (by omega) d_H_finish_17 ?_
  refine g_put (pc := 18) X in_H ty_H ok_H nm_H 0 rfl rfl 11 (by decide) wd_87 rfl rfl rfl (Nat.le_of_ble_eq_true rfl) d_H_finish_18 ?_
  refine g_wsq [co a 0 [.int (nI (wbN v)), .int (nI (8 * wbN v)), .int (nI (rdN v)), .ref (b_t B (dk v)), .long (mk9 v), .int (nI (16 * wbN v)), .int (nI (8 * wbN v)), .ref bk, .ref sa, .ref sc, .ref ma, .int (nI (fl + 1)), .long (lN tt), .long (lN mt)], cb B bk (16 * wbN v) (va_up g fl ((-128 : Int32).toInt8)), cj B sa 8 S, cj B sc (rdN v) w, cb B ta tn o] rfl ?_
  refine g_aload_n (pc := 21) X (i := 0) d_H_finish_21 rfl rfl ?_
  refine g_get (pc := 22) X in_H 0 rfl rfl 11 (by decide) wd_87 rfl d_H_finish_22 ?_
  refine g_aload_n (pc := 25) X (i := 0) d_H_finish_25 rfl rfl ?_
  refine g_get (pc := 26) X in_H 0 rfl rfl 5 (by decide) wd_79 rfl d_H_finish_26 ?_
  refine g_aload_n (pc := 29) X (i := 0) d_H_finish_29 rfl rfl ?_
  refine g_get (pc := 30) X in_H 0 rfl rfl 5 (by decide) wd_79 rfl d_H_finish_30 ?_
  refine g_bipush (pc := 33) X (v := nI 8) d_H_finish_33 (by decide) ?_
  refine g_idivN (pc := 35) X ((16 * wbN v) / 8) (by omega) (by omega) (by omega) rfl d_H_finish_35 ?_
  refine g_isubN (pc := 36) X (16 * wbN v - ((16 * wbN v) / 8)) (by omega) d_H_finish_36 ?_
  refine g_icmp_leN (pc := 37) X (tgt := 65) d_H_finish_37 (by decide) (by omega) (by omega) (fun h_37 => ?_) (fun h_37 => ?_)
  · refine g_aload_n (pc := 65) X (i := 0) d_H_finish_65 rfl rfl ?_
    refine g_get (pc := 66) X in_H 0 rfl rfl 7 (by decide) wd_83 rfl d_H_finish_66 ?_
    refine g_aload_n (pc := 69) X (i := 0) d_H_finish_69 rfl rfl ?_
    refine g_get (pc := 70) X in_H 0 rfl rfl 11 (by decide) wd_87 rfl d_H_finish_70 ?_
    refine g_aload_n (pc := 73) X (i := 0) d_H_finish_73 rfl rfl ?_
    refine g_get (pc := 74) X in_H 0 rfl rfl 5 (by decide) wd_79 rfl d_H_finish_74 ?_
    refine g_iconst (pc := 77) X (v := nI 0) d_H_finish_77 (by decide) ?_
    refine g_callSv (pc := 78) X (c_J_fill (m_l M) B bk (16 * wbN v) (fl + 1) (16 * wbN v) (va_up g fl ((-128 : Int32).toInt8)) (nI 0) (by omega) (by omega) (by omega)) wd_642 wd_286 wd_12 wd_287 hd_J_fill [1] rfl rfl [bk] (fun _ => rfl) rfl (by rw [hR]; decide) (by rw [hR]; decide) rfl (Nat.le_of_ble_eq_true rfl) d_H_finish_78 (fun _ _ => ?_)
    refine g_wsq [co a 0 [.int (nI (wbN v)), .int (nI (8 * wbN v)), .int (nI (rdN v)), .ref (b_t B (dk v)), .long (mk9 v), .int (nI (16 * wbN v)), .int (nI (8 * wbN v)), .ref bk, .ref sa, .ref sc, .ref ma, .int (nI (fl + 1)), .long (lN tt), .long (lN mt)], cb B bk (16 * wbN v) (fil (va_up g fl ((-128 : Int32).toInt8)) (fl + 1) (16 * wbN v) (nI 0).toInt8), cj B sa 8 S, cj B sc (rdN v) w, cb B ta tn o] rfl ?_
    refine g_ldc2 (pc := 81) X wd_643 d_H_finish_81 ?_
    refine g_aload_n (pc := 84) X (i := 0) d_H_finish_84 rfl rfl ?_
    refine g_get (pc := 85) X in_H 0 rfl rfl 12 (by decide) wd_88 rfl d_H_finish_85 ?_
    refine g_lmul (pc := 88) X d_H_finish_88 ?_
    refine g_lstore (pc := 89) X d_H_finish_89 (by decide) ?_
    refine g_lv [(0, .ref a), (1, .ref ta), (2, .int (nI at_)), (3, .int (nI n)), (4, .long (8 * (lN tt)))] rfl ?_
    refine g_iconst (pc := 91) X (v := nI 0) d_H_finish_91 (by decide) ?_
    refine g_istore (pc := 92) X d_H_finish_92 (by decide) ?_
    refine g_lv [(0, .ref a), (1, .ref ta), (2, .int (nI at_)), (3, .int (nI n)), (4, .long (8 * (lN tt))), (6, .int (nI 0))] rfl ?_
    refine g_lv [(0, .ref a), (1, .ref ta), (2, .int (nI at_)), (3, .int (nI n)), (4, .long (8 * (lN tt))), (6, .int (nI 0))] rfl ?_
    refine loopF (σ := Nat → Int8) (lenF v ((8 : Int64) * lN tt)) (fun k s => G B M 7 0 0 Q [co a 0 [.int (nI (wbN v)), .int (nI (8 * wbN v)), .int (nI (rdN v)), .ref (b_t B (dk v)), .long (mk9 v), .int (nI (16 * wbN v)), .int (nI (8 * wbN v)), .ref bk, .ref sa, .ref sc, .ref ma, .int (nI (fl + 1)), .long (lN tt), .long (lN mt)], cb B bk (16 * wbN v) s, cj B sa 8 S, cj B sc (rdN v) w, cb B ta tn o] [(0, .ref a), (1, .ref ta), (2, .int (nI at_)), (3, .int (nI n)), (4, .long (8 * (lN tt))), (6, .int (nI k))] 94 []) 8 (fil (va_up g fl ((-128 : Int32).toInt8)) (fl + 1) (16 * wbN v) (nI 0).toInt8) ?_ ?_
    · intro k s hk94 kk94
      show G B M 7 0 0 Q [co a 0 [.int (nI (wbN v)), .int (nI (8 * wbN v)), .int (nI (rdN v)), .ref (b_t B (dk v)), .long (mk9 v), .int (nI (16 * wbN v)), .int (nI (8 * wbN v)), .ref bk, .ref sa, .ref sc, .ref ma, .int (nI (fl + 1)), .long (lN tt), .long (lN mt)], cb B bk (16 * wbN v) s, cj B sa 8 S, cj B sc (rdN v) w, cb B ta tn o] [(0, .ref a), (1, .ref ta), (2, .int (nI at_)), (3, .int (nI n)), (4, .long (8 * (lN tt))), (6, .int (nI k))] 94 []
      refine g_iload (pc := 94) X d_H_finish_94 rfl ?_
      refine g_bipush (pc := 96) X (v := nI 8) d_H_finish_96 (by decide) ?_
      refine g_icmp_geN (pc := 98) X (tgt := 131) d_H_finish_98 (by decide) (by omega) (by omega) (fun h_98 => absurd h_98 (by omega)) (fun h_98 => ?_)
      refine g_aload_n (pc := 101) X (i := 0) d_H_finish_101 rfl rfl ?_
      refine g_get (pc := 102) X in_H 0 rfl rfl 7 (by decide) wd_83 rfl d_H_finish_102 ?_
      refine g_aload_n (pc := 105) X (i := 0) d_H_finish_105 rfl rfl ?_
      refine g_get (pc := 106) X in_H 0 rfl rfl 5 (by decide) wd_79 rfl d_H_finish_106 ?_
      refine g_iconst (pc := 109) X (v := nI 1) d_H_finish_109 (by decide) ?_
      refine g_isubN (pc := 110) X (16 * wbN v - 1) (by omega) d_H_finish_110 ?_
      refine g_iload (pc := 111) X d_H_finish_111 rfl ?_
      refine g_isubN (pc := 113) X (16 * wbN v - 1 - k) (by omega) d_H_finish_113 ?_
      refine g_lload (pc := 114) X d_H_finish_114 rfl ?_
      refine g_bipush (pc := 116) X (v := nI 8) d_H_finish_116 (by decide) ?_
      refine g_iload (pc := 118) X d_H_finish_118 rfl ?_
      refine g_imulN (pc := 120) X (8 * k) rfl d_H_finish_120 ?_
      refine g_lushr (pc := 121) X (v := lush (8 * (lN tt)) (nI (8 * k))) d_H_finish_121 rfl ?_
      refine g_l2i (pc := 122) X d_H_finish_122 rfl ?_
      refine g_i2b (pc := 123) X d_H_finish_123 rfl ?_
      refine g_bastB (pc := 124) X 1 rfl (16 * wbN v - 1 - k) rfl (by omega) (by omega) d_H_finish_124 ?_
      refine g_wsq [co a 0 [.int (nI (wbN v)), .int (nI (8 * wbN v)), .int (nI (rdN v)), .ref (b_t B (dk v)), .long (mk9 v), .int (nI (16 * wbN v)), .int (nI (8 * wbN v)), .ref bk, .ref sa, .ref sc, .ref ma, .int (nI (fl + 1)), .long (lN tt), .long (lN mt)], cb B bk (16 * wbN v) (va_up s (16 * wbN v - 1 - k) (((lush (8 * (lN tt)) (nI (8 * k))).toInt32).toInt8)), cj B sa 8 S, cj B sc (rdN v) w, cb B ta tn o] rfl ?_
      refine g_iincN (pc := 125) X (a := k) (k + 1) d_H_finish_125 rfl 1 rfl (by omega) (by decide) ?_
      refine g_lv [(0, .ref a), (1, .ref ta), (2, .int (nI at_)), (3, .int (nI n)), (4, .long (8 * (lN tt))), (6, .int (nI (k + 1)))] rfl ?_
      refine g_goto (pc := 128) X (tgt := 94) d_H_finish_128 (by decide) ?_
      refine g_lv [(0, .ref a), (1, .ref ta), (2, .int (nI at_)), (3, .int (nI n)), (4, .long (8 * (lN tt))), (6, .int (nI (k + 1)))] rfl ?_
      exact kk94 _ (by rfl)
    · show G B M 7 0 0 Q [co a 0 [.int (nI (wbN v)), .int (nI (8 * wbN v)), .int (nI (rdN v)), .ref (b_t B (dk v)), .long (mk9 v), .int (nI (16 * wbN v)), .int (nI (8 * wbN v)), .ref bk, .ref sa, .ref sc, .ref ma, .int (nI (fl + 1)), .long (lN tt), .long (lN mt)], cb B bk (16 * wbN v) (it (lenF v ((8 : Int64) * lN tt)) 8 (fil (va_up g fl ((-128 : Int32).toInt8)) (fl + 1) (16 * wbN v) (nI 0).toInt8)), cj B sa 8 S, cj B sc (rdN v) w, cb B ta tn o] [(0, .ref a), (1, .ref ta), (2, .int (nI at_)), (3, .int (nI n)), (4, .long (8 * (lN tt))), (6, .int (nI 8))] 94 []
      refine g_iload (pc := 94) X d_H_finish_94 rfl ?_
      refine g_bipush (pc := 96) X (v := nI 8) d_H_finish_96 (by decide) ?_
      refine g_icmp_geN (pc := 98) X (tgt := 131) d_H_finish_98 (by decide) (by omega) (by omega) (fun h_98 => ?_) (fun h_98 => absurd h_98 (by omega))
      refine g_aload_n (pc := 131) X (i := 0) d_H_finish_131 rfl rfl ?_
      refine g_callVv (pc := 132) (q0 := 0) X (c_H_compress (m_l M) B v a bk sa sc ma (fl + 1) tt mt (it (lenF v ((8 : Int64) * lN tt)) 8 (fil (va_up g fl ((-128 : Int32).toInt8)) (fl + 1) (16 * wbN v) (nI 0).toInt8)) S w ) wd_612 wd_614 wp_H_compress wd_4 wd_615 hd_H_compress [0, 1, 2, 3] rfl rfl [a, bk, sa, sc] (fun _ => rfl) rfl rfl rfl (by rw [hR]; decide) (by rw [hR]; decide) rfl (Nat.le_of_ble_eq_true rfl) d_H_finish_132 (fun _ _ => ?_)
      refine g_wsq [co a 0 [.int (nI (wbN v)), .int (nI (8 * wbN v)), .int (nI (rdN v)), .ref (b_t B (dk v)), .long (mk9 v), .int (nI (16 * wbN v)), .int (nI (8 * wbN v)), .ref bk, .ref sa, .ref sc, .ref ma, .int (nI (fl + 1)), .long (lN tt), .long (lN mt)], cb B bk (16 * wbN v) (it (lenF v ((8 : Int64) * lN tt)) 8 (fil (va_up g fl ((-128 : Int32).toInt8)) (fl + 1) (16 * wbN v) (nI 0).toInt8)), cj B sa 8 (cmpS v (it (lenF v ((8 : Int64) * lN tt)) 8 (fil (va_up g fl ((-128 : Int32).toInt8)) (fl + 1) (16 * wbN v) (nI 0).toInt8)) S w), cj B sc (rdN v) (schC v (it (lenF v ((8 : Int64) * lN tt)) 8 (fil (va_up g fl ((-128 : Int32).toInt8)) (fl + 1) (16 * wbN v) (nI 0).toInt8)) w), cb B ta tn o] rfl ?_
      refine g_aload_n (pc := 135) X (i := 0) d_H_finish_135 rfl rfl ?_
      refine g_aload_n (pc := 136) X (i := 1) d_H_finish_136 rfl rfl ?_
      refine g_iload_n (pc := 137) X (i := 2) d_H_finish_137 rfl rfl ?_
      refine g_iload_n (pc := 138) X (i := 3) d_H_finish_138 rfl rfl ?_
      refine g_callVv (pc := 139) (q0 := 0) X (c_H_writeState (m_l M) B v a bk sa sc ma (fl + 1) tt mt (cmpS v (it (lenF v ((8 : Int64) * lN tt)) 8 (fil (va_up g fl ((-128 : Int32).toInt8)) (fl + 1) (16 * wbN v) (nI 0).toInt8)) S w) ta tn at_ n o (by omega) (by omega) (by omega)) wd_644 wd_646 wp_H_writeState wd_4 wd_647 hd_H_writeState [0, 2, 4] rfl rfl [a, sa, ta] (fun _ => rfl) rfl rfl rfl (by rw [hR]; decide) (by rw [hR]; decide) rfl (Nat.le_of_ble_eq_true rfl) d_H_finish_139 (fun _ _ => ?_)
      refine g_wsq [co a 0 [.int (nI (wbN v)), .int (nI (8 * wbN v)), .int (nI (rdN v)), .ref (b_t B (dk v)), .long (mk9 v), .int (nI (16 * wbN v)), .int (nI (8 * wbN v)), .ref bk, .ref sa, .ref sc, .ref ma, .int (nI (fl + 1)), .long (lN tt), .long (lN mt)], cb B bk (16 * wbN v) (it (lenF v ((8 : Int64) * lN tt)) 8 (fil (va_up g fl ((-128 : Int32).toInt8)) (fl + 1) (16 * wbN v) (nI 0).toInt8)), cj B sa 8 (cmpS v (it (lenF v ((8 : Int64) * lN tt)) 8 (fil (va_up g fl ((-128 : Int32).toInt8)) (fl + 1) (16 * wbN v) (nI 0).toInt8)) S w), cj B sc (rdN v) (schC v (it (lenF v ((8 : Int64) * lN tt)) 8 (fil (va_up g fl ((-128 : Int32).toInt8)) (fl + 1) (16 * wbN v) (nI 0).toInt8)) w), cb B ta tn (wrS v (cmpS v (it (lenF v ((8 : Int64) * lN tt)) 8 (fil (va_up g fl ((-128 : Int32).toInt8)) (fl + 1) (16 * wbN v) (nI 0).toInt8)) S w) o at_ n)] rfl ?_
      refine g_wsq [co a 0 [.int (nI (wbN v)), .int (nI (8 * wbN v)), .int (nI (rdN v)), .ref (b_t B (dk v)), .long (mk9 v), .int (nI (16 * wbN v)), .int (nI (8 * wbN v)), .ref bk, .ref sa, .ref sc, .ref ma, .int (nI ((finB v (lN tt) (g, fl, S, w)).2.1)), .long (lN tt), .long (lN mt)], cb B bk (16 * wbN v) ((finB v (lN tt) (g, fl, S, w)).1), cj B sa 8 ((finB v (lN tt) (g, fl, S, w)).2.2.1), cj B sc (rdN v) ((finB v (lN tt) (g, fl, S, w)).2.2.2), cb B ta tn (wrS v (finB v (lN tt) (g, fl, S, w)).2.2.1 o at_ n)] (by first | rw [finB_pos (by omega)] | rw [finB_neg (by omega)]) ?_
      exact kret () _ 142 trivial d_H_finish_142
  · refine g_aload_n (pc := 40) X (i := 0) d_H_finish_40 rfl rfl ?_
    refine g_get (pc := 41) X in_H 0 rfl rfl 7 (by decide) wd_83 rfl d_H_finish_41 ?_
    refine g_aload_n (pc := 44) X (i := 0) d_H_finish_44 rfl rfl ?_
    refine g_get (pc := 45) X in_H 0 rfl rfl 11 (by decide) wd_87 rfl d_H_finish_45 ?_
    refine g_aload_n (pc := 48) X (i := 0) d_H_finish_48 rfl rfl ?_
    refine g_get (pc := 49) X in_H 0 rfl rfl 5 (by decide) wd_79 rfl d_H_finish_49 ?_
    refine g_iconst (pc := 52) X (v := nI 0) d_H_finish_52 (by decide) ?_
    refine g_callSv (pc := 53) X (c_J_fill (m_l M) B bk (16 * wbN v) (fl + 1) (16 * wbN v) (va_up g fl ((-128 : Int32).toInt8)) (nI 0) (by omega) (by omega) (by omega)) wd_642 wd_286 wd_12 wd_287 hd_J_fill [1] rfl rfl [bk] (fun _ => rfl) rfl (by rw [hR]; decide) (by rw [hR]; decide) rfl (Nat.le_of_ble_eq_true rfl) d_H_finish_53 (fun _ _ => ?_)
    refine g_wsq [co a 0 [.int (nI (wbN v)), .int (nI (8 * wbN v)), .int (nI (rdN v)), .ref (b_t B (dk v)), .long (mk9 v), .int (nI (16 * wbN v)), .int (nI (8 * wbN v)), .ref bk, .ref sa, .ref sc, .ref ma, .int (nI (fl + 1)), .long (lN tt), .long (lN mt)], cb B bk (16 * wbN v) (fil (va_up g fl ((-128 : Int32).toInt8)) (fl + 1) (16 * wbN v) (nI 0).toInt8), cj B sa 8 S, cj B sc (rdN v) w, cb B ta tn o] rfl ?_
    refine g_aload_n (pc := 56) X (i := 0) d_H_finish_56 rfl rfl ?_
    refine g_callVv (pc := 57) (q0 := 0) X (c_H_compress (m_l M) B v a bk sa sc ma (fl + 1) tt mt (fil (va_up g fl ((-128 : Int32).toInt8)) (fl + 1) (16 * wbN v) (nI 0).toInt8) S w ) wd_612 wd_614 wp_H_compress wd_4 wd_615 hd_H_compress [0, 1, 2, 3] rfl rfl [a, bk, sa, sc] (fun _ => rfl) rfl rfl rfl (by rw [hR]; decide) (by rw [hR]; decide) rfl (Nat.le_of_ble_eq_true rfl) d_H_finish_57 (fun _ _ => ?_)
    refine g_wsq [co a 0 [.int (nI (wbN v)), .int (nI (8 * wbN v)), .int (nI (rdN v)), .ref (b_t B (dk v)), .long (mk9 v), .int (nI (16 * wbN v)), .int (nI (8 * wbN v)), .ref bk, .ref sa, .ref sc, .ref ma, .int (nI (fl + 1)), .long (lN tt), .long (lN mt)], cb B bk (16 * wbN v) (fil (va_up g fl ((-128 : Int32).toInt8)) (fl + 1) (16 * wbN v) (nI 0).toInt8), cj B sa 8 (cmpS v (fil (va_up g fl ((-128 : Int32).toInt8)) (fl + 1) (16 * wbN v) (nI 0).toInt8) S w), cj B sc (rdN v) (schC v (fil (va_up g fl ((-128 : Int32).toInt8)) (fl + 1) (16 * wbN v) (nI 0).toInt8) w), cb B ta tn o] rfl ?_
    refine g_aload_n (pc := 60) X (i := 0) d_H_finish_60 rfl rfl ?_
    refine g_iconst (pc := 61) X (v := nI 0) d_H_finish_61 (by decide) ?_
    refine g_put (pc := 62) X in_H ty_H ok_H nm_H 0 rfl rfl 11 (by decide) wd_87 rfl rfl rfl (Nat.le_of_ble_eq_true rfl) d_H_finish_62 ?_
    refine g_wsq [co a 0 [.int (nI (wbN v)), .int (nI (8 * wbN v)), .int (nI (rdN v)), .ref (b_t B (dk v)), .long (mk9 v), .int (nI (16 * wbN v)), .int (nI (8 * wbN v)), .ref bk, .ref sa, .ref sc, .ref ma, .int (nI 0), .long (lN tt), .long (lN mt)], cb B bk (16 * wbN v) (fil (va_up g fl ((-128 : Int32).toInt8)) (fl + 1) (16 * wbN v) (nI 0).toInt8), cj B sa 8 (cmpS v (fil (va_up g fl ((-128 : Int32).toInt8)) (fl + 1) (16 * wbN v) (nI 0).toInt8) S w), cj B sc (rdN v) (schC v (fil (va_up g fl ((-128 : Int32).toInt8)) (fl + 1) (16 * wbN v) (nI 0).toInt8) w), cb B ta tn o] rfl ?_
    refine g_aload_n (pc := 65) X (i := 0) d_H_finish_65 rfl rfl ?_
    refine g_get (pc := 66) X in_H 0 rfl rfl 7 (by decide) wd_83 rfl d_H_finish_66 ?_
    refine g_aload_n (pc := 69) X (i := 0) d_H_finish_69 rfl rfl ?_
    refine g_get (pc := 70) X in_H 0 rfl rfl 11 (by decide) wd_87 rfl d_H_finish_70 ?_
    refine g_aload_n (pc := 73) X (i := 0) d_H_finish_73 rfl rfl ?_
    refine g_get (pc := 74) X in_H 0 rfl rfl 5 (by decide) wd_79 rfl d_H_finish_74 ?_
    refine g_iconst (pc := 77) X (v := nI 0) d_H_finish_77 (by decide) ?_
    refine g_callSv (pc := 78) X (c_J_fill (m_l M) B bk (16 * wbN v) 0 (16 * wbN v) (fil (va_up g fl ((-128 : Int32).toInt8)) (fl + 1) (16 * wbN v) (nI 0).toInt8) (nI 0) (by omega) (by omega) (by omega)) wd_642 wd_286 wd_12 wd_287 hd_J_fill [1] rfl rfl [bk] (fun _ => rfl) rfl (by rw [hR]; decide) (by rw [hR]; decide) rfl (Nat.le_of_ble_eq_true rfl) d_H_finish_78 (fun _ _ => ?_)
    refine g_wsq [co a 0 [.int (nI (wbN v)), .int (nI (8 * wbN v)), .int (nI (rdN v)), .ref (b_t B (dk v)), .long (mk9 v), .int (nI (16 * wbN v)), .int (nI (8 * wbN v)), .ref bk, .ref sa, .ref sc, .ref ma, .int (nI 0), .long (lN tt), .long (lN mt)], cb B bk (16 * wbN v) (fil (fil (va_up g fl ((-128 : Int32).toInt8)) (fl + 1) (16 * wbN v) (nI 0).toInt8) 0 (16 * wbN v) (nI 0).toInt8), cj B sa 8 (cmpS v (fil (va_up g fl ((-128 : Int32).toInt8)) (fl + 1) (16 * wbN v) (nI 0).toInt8) S w), cj B sc (rdN v) (schC v (fil (va_up g fl ((-128 : Int32).toInt8)) (fl + 1) (16 * wbN v) (nI 0).toInt8) w), cb B ta tn o] rfl ?_
    refine g_ldc2 (pc := 81) X wd_643 d_H_finish_81 ?_
    refine g_aload_n (pc := 84) X (i := 0) d_H_finish_84 rfl rfl ?_
    refine g_get (pc := 85) X in_H 0 rfl rfl 12 (by decide) wd_88 rfl d_H_finish_85 ?_
    refine g_lmul (pc := 88) X d_H_finish_88 ?_
    refine g_lstore (pc := 89) X d_H_finish_89 (by decide) ?_
    refine g_lv [(0, .ref a), (1, .ref ta), (2, .int (nI at_)), (3, .int (nI n)), (4, .long (8 * (lN tt)))] rfl ?_
    refine g_iconst (pc := 91) X (v := nI 0) d_H_finish_91 (by decide) ?_
    refine g_istore (pc := 92) X d_H_finish_92 (by decide) ?_
    refine g_lv [(0, .ref a), (1, .ref ta), (2, .int (nI at_)), (3, .int (nI n)), (4, .long (8 * (lN tt))), (6, .int (nI 0))] rfl ?_
    refine g_lv [(0, .ref a), (1, .ref ta), (2, .int (nI at_)), (3, .int (nI n)), (4, .long (8 * (lN tt))), (6, .int (nI 0))] rfl ?_
    refine loopF (σ := Nat → Int8) (lenF v ((8 : Int64) * lN tt)) (fun k s => G B M 7 0 0 Q [co a 0 [.int (nI (wbN v)), .int (nI (8 * wbN v)), .int (nI (rdN v)), .ref (b_t B (dk v)), .long (mk9 v), .int (nI (16 * wbN v)), .int (nI (8 * wbN v)), .ref bk, .ref sa, .ref sc, .ref ma, .int (nI 0), .long (lN tt), .long (lN mt)], cb B bk (16 * wbN v) s, cj B sa 8 (cmpS v (fil (va_up g fl ((-128 : Int32).toInt8)) (fl + 1) (16 * wbN v) (nI 0).toInt8) S w), cj B sc (rdN v) (schC v (fil (va_up g fl ((-128 : Int32).toInt8)) (fl + 1) (16 * wbN v) (nI 0).toInt8) w), cb B ta tn o] [(0, .ref a), (1, .ref ta), (2, .int (nI at_)), (3, .int (nI n)), (4, .long (8 * (lN tt))), (6, .int (nI k))] 94 []) 8 (fil (fil (va_up g fl ((-128 : Int32).toInt8)) (fl + 1) (16 * wbN v) (nI 0).toInt8) 0 (16 * wbN v) (nI 0).toInt8) ?_ ?_
    · intro k s hk94 kk94
      show G B M 7 0 0 Q [co a 0 [.int (nI (wbN v)), .int (nI (8 * wbN v)), .int (nI (rdN v)), .ref (b_t B (dk v)), .long (mk9 v), .int (nI (16 * wbN v)), .int (nI (8 * wbN v)), .ref bk, .ref sa, .ref sc, .ref ma, .int (nI 0), .long (lN tt), .long (lN mt)], cb B bk (16 * wbN v) s, cj B sa 8 (cmpS v (fil (va_up g fl ((-128 : Int32).toInt8)) (fl + 1) (16 * wbN v) (nI 0).toInt8) S w), cj B sc (rdN v) (schC v (fil (va_up g fl ((-128 : Int32).toInt8)) (fl + 1) (16 * wbN v) (nI 0).toInt8) w), cb B ta tn o] [(0, .ref a), (1, .ref ta), (2, .int (nI at_)), (3, .int (nI n)), (4, .long (8 * (lN tt))), (6, .int (nI k))] 94 []
      refine g_iload (pc := 94) X d_H_finish_94 rfl ?_
      refine g_bipush (pc := 96) X (v := nI 8) d_H_finish_96 (by decide) ?_
      refine g_icmp_geN (pc := 98) X (tgt := 131) d_H_finish_98 (by decide) (by omega) (by omega) (fun h_98 => absurd h_98 (by omega)) (fun h_98 => ?_)
      refine g_aload_n (pc := 101) X (i := 0) d_H_finish_101 rfl rfl ?_
      refine g_get (pc := 102) X in_H 0 rfl rfl 7 (by decide) wd_83 rfl d_H_finish_102 ?_
      refine g_aload_n (pc := 105) X (i := 0) d_H_finish_105 rfl rfl ?_
      refine g_get (pc := 106) X in_H 0 rfl rfl 5 (by decide) wd_79 rfl d_H_finish_106 ?_
      refine g_iconst (pc := 109) X (v := nI 1) d_H_finish_109 (by decide) ?_
      refine g_isubN (pc := 110) X (16 * wbN v - 1) (by omega) d_H_finish_110 ?_
      refine g_iload (pc := 111) X d_H_finish_111 rfl ?_
      refine g_isubN (pc := 113) X (16 * wbN v - 1 - k) (by omega) d_H_finish_113 ?_
      refine g_lload (pc := 114) X d_H_finish_114 rfl ?_
      refine g_bipush (pc := 116) X (v := nI 8) d_H_finish_116 (by decide) ?_
      refine g_iload (pc := 118) X d_H_finish_118 rfl ?_
      refine g_imulN (pc := 120) X (8 * k) rfl d_H_finish_120 ?_
      refine g_lushr (pc := 121) X (v := lush (8 * (lN tt)) (nI (8 * k))) d_H_finish_121 rfl ?_
      refine g_l2i (pc := 122) X d_H_finish_122 rfl ?_
      refine g_i2b (pc := 123) X d_H_finish_123 rfl ?_
      refine g_bastB (pc := 124) X 1 rfl (16 * wbN v - 1 - k) rfl (by omega) (by omega) d_H_finish_124 ?_
      refine g_wsq [co a 0 [.int (nI (wbN v)), .int (nI (8 * wbN v)), .int (nI (rdN v)), .ref (b_t B (dk v)), .long (mk9 v), .int (nI (16 * wbN v)), .int (nI (8 * wbN v)), .ref bk, .ref sa, .ref sc, .ref ma, .int (nI 0), .long (lN tt), .long (lN mt)], cb B bk (16 * wbN v) (va_up s (16 * wbN v - 1 - k) (((lush (8 * (lN tt)) (nI (8 * k))).toInt32).toInt8)), cj B sa 8 (cmpS v (fil (va_up g fl ((-128 : Int32).toInt8)) (fl + 1) (16 * wbN v) (nI 0).toInt8) S w), cj B sc (rdN v) (schC v (fil (va_up g fl ((-128 : Int32).toInt8)) (fl + 1) (16 * wbN v) (nI 0).toInt8) w), cb B ta tn o] rfl ?_
      refine g_iincN (pc := 125) X (a := k) (k + 1) d_H_finish_125 rfl 1 rfl (by omega) (by decide) ?_
      refine g_lv [(0, .ref a), (1, .ref ta), (2, .int (nI at_)), (3, .int (nI n)), (4, .long (8 * (lN tt))), (6, .int (nI (k + 1)))] rfl ?_
      refine g_goto (pc := 128) X (tgt := 94) d_H_finish_128 (by decide) ?_
      refine g_lv [(0, .ref a), (1, .ref ta), (2, .int (nI at_)), (3, .int (nI n)), (4, .long (8 * (lN tt))), (6, .int (nI (k + 1)))] rfl ?_
      exact kk94 _ (by rfl)
    · show G B M 7 0 0 Q [co a 0 [.int (nI (wbN v)), .int (nI (8 * wbN v)), .int (nI (rdN v)), .ref (b_t B (dk v)), .long (mk9 v), .int (nI (16 * wbN v)), .int (nI (8 * wbN v)), .ref bk, .ref sa, .ref sc, .ref ma, .int (nI 0), .long (lN tt), .long (lN mt)], cb B bk (16 * wbN v) (it (lenF v ((8 : Int64) * lN tt)) 8 (fil (fil (va_up g fl ((-128 : Int32).toInt8)) (fl + 1) (16 * wbN v) (nI 0).toInt8) 0 (16 * wbN v) (nI 0).toInt8)), cj B sa 8 (cmpS v (fil (va_up g fl ((-128 : Int32).toInt8)) (fl + 1) (16 * wbN v) (nI 0).toInt8) S w), cj B sc (rdN v) (schC v (fil (va_up g fl ((-128 : Int32).toInt8)) (fl + 1) (16 * wbN v) (nI 0).toInt8) w), cb B ta tn o] [(0, .ref a), (1, .ref ta), (2, .int (nI at_)), (3, .int (nI n)), (4, .long (8 * (lN tt))), (6, .int (nI 8))] 94 []
      refine g_iload (pc := 94) X d_H_finish_94 rfl ?_
      refine g_bipush (pc := 96) X (v := nI 8) d_H_finish_96 (by decide) ?_
      refine g_icmp_geN (pc := 98) X (tgt := 131) d_H_finish_98 (by decide) (by omega) (by omega) (fun h_98 => ?_) (fun h_98 => absurd h_98 (by omega))
      refine g_aload_n (pc := 131) X (i := 0) d_H_finish_131 rfl rfl ?_
      refine g_callVv (pc := 132) (q0 := 0) X (c_H_compress (m_l M) B v a bk sa sc ma 0 tt mt (it (lenF v ((8 : Int64) * lN tt)) 8 (fil (fil (va_up g fl ((-128 : Int32).toInt8)) (fl + 1) (16 * wbN v) (nI 0).toInt8) 0 (16 * wbN v) (nI 0).toInt8)) (cmpS v (fil (va_up g fl ((-128 : Int32).toInt8)) (fl + 1) (16 * wbN v) (nI 0).toInt8) S w) (schC v (fil (va_up g fl ((-128 : Int32).toInt8)) (fl + 1) (16 * wbN v) (nI 0).toInt8) w) ) wd_612 wd_614 wp_H_compress wd_4 wd_615 hd_H_compress [0, 1, 2, 3] rfl rfl [a, bk, sa, sc] (fun _ => rfl) rfl rfl rfl (by rw [hR]; decide) (by rw [hR]; decide) rfl (Nat.le_of_ble_eq_true rfl) d_H_finish_132 (fun _ _ => ?_)
      refine g_wsq [co a 0 [.int (nI (wbN v)), .int (nI (8 * wbN v)), .int (nI (rdN v)), .ref (b_t B (dk v)), .long (mk9 v), .int (nI (16 * wbN v)), .int (nI (8 * wbN v)), .ref bk, .ref sa, .ref sc, .ref ma, .int (nI 0), .long (lN tt), .long (lN mt)], cb B bk (16 * wbN v) (it (lenF v ((8 : Int64) * lN tt)) 8 (fil (fil (va_up g fl ((-128 : Int32).toInt8)) (fl + 1) (16 * wbN v) (nI 0).toInt8) 0 (16 * wbN v) (nI 0).toInt8)), cj B sa 8 (cmpS v (it (lenF v ((8 : Int64) * lN tt)) 8 (fil (fil (va_up g fl ((-128 : Int32).toInt8)) (fl + 1) (16 * wbN v) (nI 0).toInt8) 0 (16 * wbN v) (nI 0).toInt8)) (cmpS v (fil (va_up g fl ((-128 : Int32).toInt8)) (fl + 1) (16 * wbN v) (nI 0).toInt8) S w) (schC v (fil (va_up g fl ((-128 : Int32).toInt8)) (fl + 1) (16 * wbN v) (nI 0).toInt8) w)), cj B sc (rdN v) (schC v (it (lenF v ((8 : Int64) * lN tt)) 8 (fil (fil (va_up g fl ((-128 : Int32).toInt8)) (fl + 1) (16 * wbN v) (nI 0).toInt8) 0 (16 * wbN v) (nI 0).toInt8)) (schC v (fil (va_up g fl ((-128 : Int32).toInt8)) (fl + 1) (16 * wbN v) (nI 0).toInt8) w)), cb B ta tn o] rfl ?_
      refine g_aload_n (pc := 135) X (i := 0) d_H_finish_135 rfl rfl ?_
      refine g_aload_n (pc := 136) X (i := 1) d_H_finish_136 rfl rfl ?_
      refine g_iload_n (pc := 137) X (i := 2) d_H_finish_137 rfl rfl ?_
      refine g_iload_n (pc := 138) X (i := 3) d_H_finish_138 rfl rfl ?_
      refine g_callVv (pc := 139) (q0 := 0) X (c_H_writeState (m_l M) B v a bk sa sc ma 0 tt mt (cmpS v (it (lenF v ((8 : Int64) * lN tt)) 8 (fil (fil (va_up g fl ((-128 : Int32).toInt8)) (fl + 1) (16 * wbN v) (nI 0).toInt8) 0 (16 * wbN v) (nI 0).toInt8)) (cmpS v (fil (va_up g fl ((-128 : Int32).toInt8)) (fl + 1) (16 * wbN v) (nI 0).toInt8) S w) (schC v (fil (va_up g fl ((-128 : Int32).toInt8)) (fl + 1) (16 * wbN v) (nI 0).toInt8) w)) ta tn at_ n o (by omega) (by omega) (by omega)) wd_644 wd_646 wp_H_writeState wd_4 wd_647 hd_H_writeState [0, 2, 4] rfl rfl [a, sa, ta] (fun _ => rfl) rfl rfl rfl (by rw [hR]; decide) (by rw [hR]; decide) rfl (Nat.le_of_ble_eq_true rfl) d_H_finish_139 (fun _ _ => ?_)
      refine g_wsq [co a 0 [.int (nI (wbN v)), .int (nI (8 * wbN v)), .int (nI (rdN v)), .ref (b_t B (dk v)), .long (mk9 v), .int (nI (16 * wbN v)), .int (nI (8 * wbN v)), .ref bk, .ref sa, .ref sc, .ref ma, .int (nI 0), .long (lN tt), .long (lN mt)], cb B bk (16 * wbN v) (it (lenF v ((8 : Int64) * lN tt)) 8 (fil (fil (va_up g fl ((-128 : Int32).toInt8)) (fl + 1) (16 * wbN v) (nI 0).toInt8) 0 (16 * wbN v) (nI 0).toInt8)), cj B sa 8 (cmpS v (it (lenF v ((8 : Int64) * lN tt)) 8 (fil (fil (va_up g fl ((-128 : Int32).toInt8)) (fl + 1) (16 * wbN v) (nI 0).toInt8) 0 (16 * wbN v) (nI 0).toInt8)) (cmpS v (fil (va_up g fl ((-128 : Int32).toInt8)) (fl + 1) (16 * wbN v) (nI 0).toInt8) S w) (schC v (fil (va_up g fl ((-128 : Int32).toInt8)) (fl + 1) (16 * wbN v) (nI 0).toInt8) w)), cj B sc (rdN v) (schC v (it (lenF v ((8 : Int64) * lN tt)) 8 (fil (fil (va_up g fl ((-128 : Int32).toInt8)) (fl + 1) (16 * wbN v) (nI 0).toInt8) 0 (16 * wbN v) (nI 0).toInt8)) (schC v (fil (va_up g fl ((-128 : Int32).toInt8)) (fl + 1) (16 * wbN v) (nI 0).toInt8) w)), cb B ta tn (wrS v (cmpS v (it (lenF v ((8 : Int64) * lN tt)) 8 (fil (fil (va_up g fl ((-128 : Int32).toInt8)) (fl + 1) (16 * wbN v) (nI 0).toInt8) 0 (16 * wbN v) (nI 0).toInt8)) (cmpS v (fil (va_up g fl ((-128 : Int32).toInt8)) (fl + 1) (16 * wbN v) (nI 0).toInt8) S w) (schC v (fil (va_up g fl ((-128 : Int32).toInt8)) (fl + 1) (16 * wbN v) (nI 0).toInt8) w)) o at_ n)] rfl ?_
      refine g_wsq [co a 0 [.int (nI (wbN v)), .int (nI (8 * wbN v)), .int (nI (rdN v)), .ref (b_t B (dk v)), .long (mk9 v), .int (nI (16 * wbN v)), .int (nI (8 * wbN v)), .ref bk, .ref sa, .ref sc, .ref ma, .int (nI ((finB v (lN tt) (g, fl, S, w)).2.1)), .long (lN tt), .long (lN mt)], cb B bk (16 * wbN v) ((finB v (lN tt) (g, fl, S, w)).1), cj B sa 8 ((finB v (lN tt) (g, fl, S, w)).2.2.1), cj B sc (rdN v) ((finB v (lN tt) (g, fl, S, w)).2.2.2), cb B ta tn (wrS v (finB v (lN tt) (g, fl, S, w)).2.2.1 o at_ n)] (by first | rw [finB_pos (by omega)] | rw [finB_neg (by omega)]) ?_
      exact kret () _ 142 trivial d_H_finish_142
