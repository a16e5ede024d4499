theorem c_H_compress (l : Launch) (B : Bx) (v : Bool) (a : Nat) (bk : Nat) (sa : Nat) (sc : Nat) (ma : Nat) (fl : Nat) (tt : Nat) (mt : Nat) (g : Nat → Int8) (S : Nat → Int64) (w : Nat → Int64)  : Cv (S := Unit) l B y_H_compress b_H_compress 24 (Rm 4 0 0) [.ref a] [co a 0 [.int (nI (wbN v)), .int (nI (8 * wbN v)), .int (nI (rdN v)), .ref (b_t B (dk v)), .long (mk9 v), .int (nI (16 * wbN v)), .int (nI (8 * wbN v)), .ref bk, .ref sa, .ref sc, .ref ma, .int (nI fl), .long (lN tt), .long (lN mt)], cb B bk (16 * wbN v) g, cj B sa 8 S, cj B sc (rdN v) w] (fun _ => True) (fun _ => [co a 0 [.int (nI (wbN v)), .int (nI (8 * wbN v)), .int (nI (rdN v)), .ref (b_t B (dk v)), .long (mk9 v), .int (nI (16 * wbN v)), .int (nI (8 * wbN v)), .ref bk, .ref sa, .ref sc, .ref ma, .int (nI fl), .long (lN tt), .long (lN mt)], cb B bk (16 * wbN v) g, cj B sa 8 (cmpS v g S w), cj B sc (rdN v) (schC v g w)]) := by
  refine ctr_v (by decide) (Nat.le_of_ble_eq_true rfl) ?_
  intro M Q hl hR hin X kret
  subst hl
  have hv := vf v
  refine g_lv [(0, .ref a)] rfl ?_
  refine g_aload_n (pc := 0) X (i := 0) d_H_compress_0 rfl rfl ?_
  refine g_callVv (pc := 1) (q0 := 0) X (c_H_fillSchedule (m_l M) B v a bk sa sc ma fl tt mt g w ) wd_616 wd_618 wp_H_fillSchedule wd_4 wd_619 hd_H_fillSchedule [0, 1, 3] rfl rfl [a, bk, sc] (fun _ => rfl) rfl rfl rfl (by rw [hR]; decide) (by rw [hR]; decide) rfl (Nat.le_of_ble_eq_true rfl) d_H_compress_1 (fun _ _ => ?_)
  refine g_wsq [co a 0 [.int (nI (wbN v)), .int (nI (8 * wbN v)), .int (nI (rdN v)), .ref (b_t B (dk v)), .long (mk9 v), .int (nI (16 * wbN v)), .int (nI (8 * wbN v)), .ref bk, .ref sa, .ref sc, .ref ma, .int (nI fl), .long (lN tt), .long (lN mt)], cb B bk (16 * wbN v) g, cj B sa 8 S, cj B sc (rdN v) (schC v g w)] rfl ?_
  refine g_aload_n (pc := 4) X (i := 0) d_H_compress_4 rfl rfl ?_
  refine g_get (pc := 5) X in_H 0 rfl rfl 8 (by decide) wd_84 rfl d_H_compress_5 ?_
  refine g_iconst (pc := 8) X (v := nI 0) d_H_compress_8 (by decide) ?_
  refine g_lald (pc := 9) X 2 rfl 0 rfl (by omega) (by omega) d_H_compress_9 ?_
  refine g_lstore_n (pc := 10) X (i := 1) d_H_compress_10 rfl (by decide) ?_
  refine g_lv [(0, .ref a), (1, .long (S 0))] rfl ?_
  refine g_aload_n (pc := 11) X (i := 0) d_H_compress_11 rfl rfl ?_
  refine g_get (pc := 12) X in_H 0 rfl rfl 8 (by decide) wd_84 rfl d_H_compress_12 ?_
  refine g_iconst (pc := 15) X (v := nI 1) d_H_compress_15 (by decide) ?_
  refine g_lald (pc := 16) X 2 rfl 1 rfl (by omega) (by omega) d_H_compress_16 ?_
  refine g_lstore_n (pc := 17) X (i := 3) d_H_compress_17 rfl (by decide) ?_
  refine g_lv [(0, .ref a), (1, .long (S 0)), (3, .long (S 1))] rfl ?_
  refine g_aload_n (pc := 18) X (i := 0) d_H_compress_18 rfl rfl ?_
  refine g_get (pc := 19) X in_H 0 rfl rfl 8 (by decide) wd_84 rfl d_H_compress_19 ?_
  refine g_iconst (pc := 22) X (v := nI 2) d_H_compress_22 (by decide) ?_
  refine g_lald (pc := 23) X 2 rfl 2 rfl (by omega) (by omega) d_H_compress_23 ?_
  refine g_lstore (pc := 24) X d_H_compress_24 (by decide) ?_
  refine g_lv [(0, .ref a), (1, .long (S 0)), (3, .long (S 1)), (5, .long (S 2))] rfl ?_
  refine g_aload_n (pc := 26) X (i := 0) d_H_compress_26 rfl rfl ?_
  refine g_get (pc := 27) X in_H 0 rfl rfl 8 (by decide) wd_84 rfl d_H_compress_27 ?_
  refine g_iconst (pc := 30) X (v := nI 3) d_H_compress_30 (by decide) ?_
  refine g_lald (pc := 31) X 2 rfl 3 rfl (by omega) (by omega) d_H_compress_31 ?_
  refine g_lstore (pc := 32) X d_H_compress_32 (by decide) ?_
  refine g_lv [(0, .ref a), (1, .long (S 0)), (3, .long (S 1)), (5, .long (S 2)), (7, .long (S 3))] rfl ?_
  refine g_aload_n (pc := 34) X (i := 0) d_H_compress_34 rfl rfl ?_
  refine g_get (pc := 35) X in_H 0 rfl rfl 8 (by decide) wd_84 rfl d_H_compress_35 ?_
  refine g_iconst (pc := 38) X (v := nI 4) d_H_compress_38 (by decide) ?_
  refine g_lald (pc := 39) X 2 rfl 4 rfl (by omega) (by omega) d_H_compress_39 ?_
  refine g_lstore (pc := 40) X d_H_compress_40 (by decide) ?_
  refine g_lv [(0, .ref a), (1, .long (S 0)), (3, .long (S 1)), (5, .long (S 2)), (7, .long (S 3)), (9, .long (S 4))] rfl ?_
  refine g_aload_n (pc := 42) X (i := 0) d_H_compress_42 rfl rfl ?_
  refine g_get (pc := 43) X in_H 0 rfl rfl 8 (by decide) wd_84 rfl d_H_compress_43 ?_
  refine g_iconst (pc := 46) X (v := nI 5) d_H_compress_46 (by decide) ?_
  refine g_lald (pc := 47) X 2 rfl 5 rfl (by omega) (by omega) d_H_compress_47 ?_
  refine g_lstore (pc := 48) X d_H_compress_48 (by decide) ?_
  refine g_lv [(0, .ref a), (1, .long (S 0)), (3, .long (S 1)), (5, .long (S 2)), (7, .long (S 3)), (9, .long (S 4)), (11, .long (S 5))] rfl ?_
  refine g_aload_n (pc := 50) X (i := 0) d_H_compress_50 rfl rfl ?_
  refine g_get (pc := 51) X in_H 0 rfl rfl 8 (by decide) wd_84 rfl d_H_compress_51 ?_
  refine g_bipush (pc := 54) X (v := nI 6) d_H_compress_54 (by decide) ?_
  refine g_lald (pc := 56) X 2 rfl 6 rfl (by omega) (by omega) d_H_compress_56 ?_
  refine g_lstore (pc := 57) X d_H_compress_57 (by decide) ?_
  refine g_lv [(0, .ref a), (1, .long (S 0)), (3, .long (S 1)), (5, .long (S 2)), (7, .long (S 3)), (9, .long (S 4)), (11, .long (S 5)), (13, .long (S 6))] rfl ?_
  refine g_aload_n (pc := 59) X (i := 0) d_H_compress_59 rfl rfl ?_
  refine g_get (pc := 60) X in_H 0 rfl rfl 8 (by decide) wd_84 rfl d_H_compress_60 ?_
  refine g_bipush (pc := 63) X (v := nI 7) d_H_compress_63 (by decide) ?_
  refine g_lald (pc := 65) X 2 rfl 7 rfl (by omega) (by omega) d_H_compress_65 ?_
  refine g_lstore (pc := 66) X d_H_compress_66 (by decide) ?_
  refine g_lv [(0, .ref a), (1, .long (S 0)), (3, .long (S 1)), (5, .long (S 2)), (7, .long (S 3)), (9, .long (S 4)), (11, .long (S 5)), (13, .long (S 6)), (15, .long (S 7))] rfl ?_
  refine g_iconst (pc := 68) X (v := nI 0) d_H_compress_68 (by decide) ?_
  refine g_istore (pc := 69) X d_H_compress_69 (by decide) ?_
  refine g_lv [(0, .ref a), (1, .long (S 0)), (3, .long (S 1)), (5, .long (S 2)), (7, .long (S 3)), (9, .long (S 4)), (11, .long (S 5)), (13, .long (S 6)), (15, .long (S 7)), (17, .int (nI 0))] rfl ?_
  refine g_lv [(0, .ref a), (1, .long (S 0)), (3, .long (S 1)), (5, .long (S 2)), (7, .long (S 3)), (9, .long (S 4)), (11, .long (S 5)), (13, .long (S 6)), (15, .long (S 7)), (17, .int (nI 0))] rfl ?_
  refine loopF (σ := R8) (rnF v (schC v g w)) (fun k s => G B M 24 0 0 Q [co a 0 [.int (nI (wbN v)), .int (nI (8 * wbN v)), .int (nI (rdN v)), .ref (b_t B (dk v)), .long (mk9 v), .int (nI (16 * wbN v)), .int (nI (8 * wbN v)), .ref bk, .ref sa, .ref sc, .ref ma, .int (nI fl), .long (lN tt), .long (lN mt)], cb B bk (16 * wbN v) g, cj B sa 8 S, cj B sc (rdN v) (schC v g w)] [(0, .ref a), (1, .long s.1), (3, .long s.2.1), (5, .long s.2.2.1), (7, .long s.2.2.2.1), (9, .long s.2.2.2.2.1), (11, .long s.2.2.2.2.2.1), (13, .long s.2.2.2.2.2.2.1), (15, .long s.2.2.2.2.2.2.2), (17, .int (nI k))] 71 []) (rdN v) (S 0, S 1, S 2, S 3, S 4, S 5, S 6, S 7) ?_ ?_
  · intro k s hk71 kk71
    show G B M 24 0 0 Q [co a 0 [.int (nI (wbN v)), .int (nI (8 * wbN v)), .int (nI (rdN v)), .ref (b_t B (dk v)), .long (mk9 v), .int (nI (16 * wbN v)), .int (nI (8 * wbN v)), .ref bk, .ref sa, .ref sc, .ref ma, .int (nI fl), .long (lN tt), .long (lN mt)], cb B bk (16 * wbN v) g, cj B sa 8 S, cj B sc (rdN v) (schC v g w)] [(0, .ref a), (1, .long s.1), (3, .long s.2.1), (5, .long s.2.2.1), (7, .long s.2.2.2.1), (9, .long s.2.2.2.2.1), (11, .long s.2.2.2.2.2.1), (13, .long s.2.2.2.2.2.2.1), (15, .long s.2.2.2.2.2.2.2), (17, .int (nI k))] 71 []
    refine g_iload (pc := 71) X d_H_compress_71 rfl ?_
    refine g_aload_n (pc := 73) X (i := 0) d_H_compress_73 rfl rfl ?_
    refine g_get (pc := 74) X in_H 0 rfl rfl 2 (by decide) wd_76 rfl d_H_compress_74 ?_
    refine g_icmp_geN (pc := 77) X (tgt := 207) d_H_compress_77 (by decide) (by omega) (by omega) (fun h_77 => absurd h_77 (by omega)) (fun h_77 => ?_)
    refine g_getsN (pc := 80) X 8 (by decide) wn_14 d_H_compress_80 ?_
    refine g_iload (pc := 83) X d_H_compress_83 rfl ?_
    refine g_tl (pc := 85) X 8 (by decide) rfl k rfl (show k < s_N 8 from by show k < 80; omega) d_H_compress_85 ?_
    refine g_bipush (pc := 86) X (v := nI 64) d_H_compress_86 (by decide) ?_
    refine g_aload_n (pc := 88) X (i := 0) d_H_compress_88 rfl rfl ?_
    refine g_get (pc := 89) X in_H 0 rfl rfl 1 (by decide) wd_75 rfl d_H_compress_89 ?_
    refine g_isubN (pc := 92) X (64 - (8 * wbN v)) (by omega) d_H_compress_92 ?_
    refine g_lushr (pc := 93) X (v := lush (s_l 8 k) (nI (64 - (8 * wbN v)))) d_H_compress_93 rfl ?_
    refine g_lstore (pc := 94) X d_H_compress_94 (by decide) ?_
    refine g_lv [(0, .ref a), (1, .long s.1), (3, .long s.2.1), (5, .long s.2.2.1), (7, .long s.2.2.2.1), (9, .long s.2.2.2.2.1), (11, .long s.2.2.2.2.2.1), (13, .long s.2.2.2.2.2.2.1), (15, .long s.2.2.2.2.2.2.2), (17, .int (nI k)), (18, .long (lush (s_l 8 k) (nI (64 - (8 * wbN v)))))] rfl ?_
    refine g_lload (pc := 96) X d_H_compress_96 rfl ?_
    refine g_aload_n (pc := 98) X (i := 0) d_H_compress_98 rfl rfl ?_
    refine g_lload (pc := 99) X d_H_compress_99 rfl ?_
    refine g_iconst (pc := 101) X (v := nI 3) d_H_compress_101 (by decide) ?_
    refine g_callVl (pc := 102) (q0 := 0) X (c_H_threeTurns (m_l M) B v a bk sa sc ma fl tt mt s.2.2.2.2.1 3 (by omega)) wd_630 wd_632 wp_H_threeTurns wd_4 wd_633 hd_H_threeTurns [0] rfl rfl [a] (fun _ => rfl) rfl rfl rfl (by rw [hR]; decide) (by rw [hR]; decide) rfl (Nat.le_of_ble_eq_true rfl) d_H_compress_102 (fun r9 _ hr9 => ?_)
    subst hr9
    refine g_wsq [co a 0 [.int (nI (wbN v)), .int (nI (8 * wbN v)), .int (nI (rdN v)), .ref (b_t B (dk v)), .long (mk9 v), .int (nI (16 * wbN v)), .int (nI (8 * wbN v)), .ref bk, .ref sa, .ref sc, .ref ma, .int (nI fl), .long (lN tt), .long (lN mt)], cb B bk (16 * wbN v) g, cj B sa 8 S, cj B sc (rdN v) (schC v g w)] rfl ?_
    refine g_ladd (pc := 105) X d_H_compress_105 ?_
    refine g_lload (pc := 106) X d_H_compress_106 rfl ?_
    refine g_lload (pc := 108) X d_H_compress_108 rfl ?_
    refine g_land (pc := 110) X d_H_compress_110 ?_
    refine g_lload (pc := 111) X d_H_compress_111 rfl ?_
    refine g_ldc2 (pc := 113) X wd_73 d_H_compress_113 ?_
    refine g_lxor (pc := 116) X d_H_compress_116 ?_
    refine g_lload (pc := 117) X d_H_compress_117 rfl ?_
    refine g_land (pc := 119) X d_H_compress_119 ?_
    refine g_lxor (pc := 120) X d_H_compress_120 ?_
    refine g_ladd (pc := 121) X d_H_compress_121 ?_
    refine g_lload (pc := 122) X d_H_compress_122 rfl ?_
    refine g_ladd (pc := 124) X d_H_compress_124 ?_
    refine g_aload_n (pc := 125) X (i := 0) d_H_compress_125 rfl rfl ?_
    refine g_get (pc := 126) X in_H 0 rfl rfl 9 (by decide) wd_85 rfl d_H_compress_126 ?_
    refine g_iload (pc := 129) X d_H_compress_129 rfl ?_
    refine g_lald (pc := 131) X 3 rfl k rfl (by omega) (by omega) d_H_compress_131 ?_
    refine g_ladd (pc := 132) X d_H_compress_132 ?_
    refine g_lstore (pc := 133) X d_H_compress_133 (by decide) ?_
    refine g_lv [(0, .ref a), (1, .long s.1), (3, .long s.2.1), (5, .long s.2.2.1), (7, .long s.2.2.2.1), (9, .long s.2.2.2.2.1), (11, .long s.2.2.2.2.2.1), (13, .long s.2.2.2.2.2.2.1), (15, .long s.2.2.2.2.2.2.2), (17, .int (nI k)), (18, .long (lush (s_l 8 k) (nI (64 - (8 * wbN v))))), (20, .long ((((s.2.2.2.2.2.2.2 + (thr v s.2.2.2.2.1 3)) + ((s.2.2.2.2.1 &&& s.2.2.2.2.2.1) ^^^ ((s.2.2.2.2.1 ^^^ (-1)) &&& s.2.2.2.2.2.2.1))) + (lush (s_l 8 k) (nI (64 - (8 * wbN v))))) + ((schC v g w) k)))] rfl ?_
    refine g_aload_n (pc := 135) X (i := 0) d_H_compress_135 rfl rfl ?_
    refine g_lload_n (pc := 136) X (i := 1) d_H_compress_136 rfl rfl ?_
    refine g_iconst (pc := 137) X (v := nI 0) d_H_compress_137 (by decide) ?_
    refine g_callVl (pc := 138) (q0 := 0) X (c_H_threeTurns (m_l M) B v a bk sa sc ma fl tt mt s.1 0 (by omega)) wd_630 wd_632 wp_H_threeTurns wd_4 wd_633 hd_H_threeTurns [0] rfl rfl [a] (fun _ => rfl) rfl rfl rfl (by rw [hR]; decide) (by rw [hR]; decide) rfl (Nat.le_of_ble_eq_true rfl) d_H_compress_138 (fun r9 _ hr9 => ?_)
    subst hr9
    refine g_wsq [co a 0 [.int (nI (wbN v)), .int (nI (8 * wbN v)), .int (nI (rdN v)), .ref (b_t B (dk v)), .long (mk9 v), .int (nI (16 * wbN v)), .int (nI (8 * wbN v)), .ref bk, .ref sa, .ref sc, .ref ma, .int (nI fl), .long (lN tt), .long (lN mt)], cb B bk (16 * wbN v) g, cj B sa 8 S, cj B sc (rdN v) (schC v g w)] rfl ?_
    refine g_lload_n (pc := 141) X (i := 1) d_H_compress_141 rfl rfl ?_
    refine g_lload_n (pc := 142) X (i := 3) d_H_compress_142 rfl rfl ?_
    refine g_land (pc := 143) X d_H_compress_143 ?_
    refine g_lload_n (pc := 144) X (i := 1) d_H_compress_144 rfl rfl ?_
    refine g_lload (pc := 145) X d_H_compress_145 rfl ?_
    refine g_land (pc := 147) X d_H_compress_147 ?_
    refine g_lxor (pc := 148) X d_H_compress_148 ?_
    refine g_lload_n (pc := 149) X (i := 3) d_H_compress_149 rfl rfl ?_
    refine g_lload (pc := 150) X d_H_compress_150 rfl ?_
    refine g_land (pc := 152) X d_H_compress_152 ?_
    refine g_lxor (pc := 153) X d_H_compress_153 ?_
    refine g_ladd (pc := 154) X d_H_compress_154 ?_
    refine g_lstore (pc := 155) X d_H_compress_155 (by decide) ?_
    refine g_lv [(0, .ref a), (1, .long s.1), (3, .long s.2.1), (5, .long s.2.2.1), (7, .long s.2.2.2.1), (9, .long s.2.2.2.2.1), (11, .long s.2.2.2.2.2.1), (13, .long s.2.2.2.2.2.2.1), (15, .long s.2.2.2.2.2.2.2), (17, .int (nI k)), (18, .long (lush (s_l 8 k) (nI (64 - (8 * wbN v))))), (20, .long ((((s.2.2.2.2.2.2.2 + (thr v s.2.2.2.2.1 3)) + ((s.2.2.2.2.1 &&& s.2.2.2.2.2.1) ^^^ ((s.2.2.2.2.1 ^^^ (-1)) &&& s.2.2.2.2.2.2.1))) + (lush (s_l 8 k) (nI (64 - (8 * wbN v))))) + ((schC v g w) k))), (22, .long ((thr v s.1 0) + (((s.1 &&& s.2.1) ^^^ (s.1 &&& s.2.2.1)) ^^^ (s.2.1 &&& s.2.2.1))))] rfl ?_
    refine g_lload (pc := 157) X d_H_compress_157 rfl ?_
    refine g_lstore (pc := 159) X d_H_compress_159 (by decide) ?_
    refine g_lv [(0, .ref a), (1, .long s.1), (3, .long s.2.1), (5, .long s.2.2.1), (7, .long s.2.2.2.1), (9, .long s.2.2.2.2.1), (11, .long s.2.2.2.2.2.1), (13, .long s.2.2.2.2.2.2.1), (15, .long s.2.2.2.2.2.2.1), (17, .int (nI k)), (18, .long (lush (s_l 8 k) (nI (64 - (8 * wbN v))))), (20, .long ((((s.2.2.2.2.2.2.2 + (thr v s.2.2.2.2.1 3)) + ((s.2.2.2.2.1 &&& s.2.2.2.2.2.1) ^^^ ((s.2.2.2.2.1 ^^^ (-1)) &&& s.2.2.2.2.2.2.1))) + (lush (s_l 8 k) (nI (64 - (8 * wbN v))))) + ((schC v g w) k))), (22, .long ((thr v s.1 0) + (((s.1 &&& s.2.1) ^^^ (s.1 &&& s.2.2.1)) ^^^ (s.2.1 &&& s.2.2.1))))] rfl ?_
    refine g_lload (pc := 161) X d_H_compress_161 rfl ?_
    refine g_lstore (pc := 163) X d_H_compress_163 (by decide) ?_
    refine g_lv [(0, .ref a), (1, .long s.1), (3, .long s.2.1), (5, .long s.2.2.1), (7, .long s.2.2.2.1), (9, .long s.2.2.2.2.1), (11, .long s.2.2.2.2.2.1), (13, .long s.2.2.2.2.2.1), (15, .long s.2.2.2.2.2.2.1), (17, .int (nI k)), (18, .long (lush (s_l 8 k) (nI (64 - (8 * wbN v))))), (20, .long ((((s.2.2.2.2.2.2.2 + (thr v s.2.2.2.2.1 3)) + ((s.2.2.2.2.1 &&& s.2.2.2.2.2.1) ^^^ ((s.2.2.2.2.1 ^^^ (-1)) &&& s.2.2.2.2.2.2.1))) + (lush (s_l 8 k) (nI (64 - (8 * wbN v))))) + ((schC v g w) k))), (22, .long ((thr v s.1 0) + (((s.1 &&& s.2.1) ^^^ (s.1 &&& s.2.2.1)) ^^^ (s.2.1 &&& s.2.2.1))))] rfl ?_
    refine g_lload (pc := 165) X d_H_compress_165 rfl ?_
    refine g_lstore (pc := 167) X d_H_compress_167 (by decide) ?_
    refine g_lv [(0, .ref a), (1, .long s.1), (3, .long s.2.1), (5, .long s.2.2.1), (7, .long s.2.2.2.1), (9, .long s.2.2.2.2.1), (11, .long s.2.2.2.2.1), (13, .long s.2.2.2.2.2.1), (15, .long s.2.2.2.2.2.2.1), (17, .int (nI k)), (18, .long (lush (s_l 8 k) (nI (64 - (8 * wbN v))))), (20, .long ((((s.2.2.2.2.2.2.2 + (thr v s.2.2.2.2.1 3)) + ((s.2.2.2.2.1 &&& s.2.2.2.2.2.1) ^^^ ((s.2.2.2.2.1 ^^^ (-1)) &&& s.2.2.2.2.2.2.1))) + (lush (s_l 8 k) (nI (64 - (8 * wbN v))))) + ((schC v g w) k))), (22, .long ((thr v s.1 0) + (((s.1 &&& s.2.1) ^^^ (s.1 &&& s.2.2.1)) ^^^ (s.2.1 &&& s.2.2.1))))] rfl ?_
    refine g_lload (pc := 169) X d_H_compress_169 rfl ?_
    refine g_lload (pc := 171) X d_H_compress_171 rfl ?_
    refine g_ladd (pc := 173) X d_H_compress_173 ?_
    refine g_aload_n (pc := 174) X (i := 0) d_H_compress_174 rfl rfl ?_
    refine g_get (pc := 175) X in_H 0 rfl rfl 4 (by decide) wd_78 rfl d_H_compress_175 ?_
    refine g_land (pc := 178) X d_H_compress_178 ?_
    refine g_lstore (pc := 179) X d_H_compress_179 (by decide) ?_
    refine g_lv [(0, .ref a), (1, .long s.1), (3, .long s.2.1), (5, .long s.2.2.1), (7, .long s.2.2.2.1), (9, .long ((s.2.2.2.1 + ((((s.2.2.2.2.2.2.2 + (thr v s.2.2.2.2.1 3)) + ((s.2.2.2.2.1 &&& s.2.2.2.2.2.1) ^^^ ((s.2.2.2.2.1 ^^^ (-1)) &&& s.2.2.2.2.2.2.1))) + (lush (s_l 8 k) (nI (64 - (8 * wbN v))))) + ((schC v g w) k))) &&& (mk9 v))), (11, .long s.2.2.2.2.1), (13, .long s.2.2.2.2.2.1), (15, .long s.2.2.2.2.2.2.1), (17, .int (nI k)), (18, .long (lush (s_l 8 k) (nI (64 - (8 * wbN v))))), (20, .long ((((s.2.2.2.2.2.2.2 + (thr v s.2.2.2.2.1 3)) + ((s.2.2.2.2.1 &&& s.2.2.2.2.2.1) ^^^ ((s.2.2.2.2.1 ^^^ (-1)) &&& s.2.2.2.2.2.2.1))) + (lush (s_l 8 k) (nI (64 - (8 * wbN v))))) + ((schC v g w) k))), (22, .long ((thr v s.1 0) + (((s.1 &&& s.2.1) ^^^ (s.1 &&& s.2.2.1)) ^^^ (s.2.1 &&& s.2.2.1))))] rfl ?_
    refine g_lload (pc := 181) X d_H_compress_181 rfl ?_
    refine g_lstore (pc := 183) X d_H_compress_183 (by decide) ?_
    refine g_lv [(0, .ref a), (1, .long s.1), (3, .long s.2.1), (5, .long s.2.2.1), (7, .long s.2.2.1), (9, .long ((s.2.2.2.1 + ((((s.2.2.2.2.2.2.2 + (thr v s.2.2.2.2.1 3)) + ((s.2.2.2.2.1 &&& s.2.2.2.2.2.1) ^^^ ((s.2.2.2.2.1 ^^^ (-1)) &&& s.2.2.2.2.2.2.1))) + (lush (s_l 8 k) (nI (64 - (8 * wbN v))))) + ((schC v g w) k))) &&& (mk9 v))), (11, .long s.2.2.2.2.1), (13, .long s.2.2.2.2.2.1), (15, .long s.2.2.2.2.2.2.1), (17, .int (nI k)), (18, .long (lush (s_l 8 k) (nI (64 - (8 * wbN v))))), (20, .long ((((s.2.2.2.2.2.2.2 + (thr v s.2.2.2.2.1 3)) + ((s.2.2.2.2.1 &&& s.2.2.2.2.2.1) ^^^ ((s.2.2.2.2.1 ^^^ (-1)) &&& s.2.2.2.2.2.2.1))) + (lush (s_l 8 k) (nI (64 - (8 * wbN v))))) + ((schC v g w) k))), (22, .long ((thr v s.1 0) + (((s.1 &&& s.2.1) ^^^ (s.1 &&& s.2.2.1)) ^^^ (s.2.1 &&& s.2.2.1))))] rfl ?_
    refine g_lload_n (pc := 185) X (i := 3) d_H_compress_185 rfl rfl ?_
    refine g_lstore (pc := 186) X d_H_compress_186 (by decide) ?_
    refine g_lv [(0, .ref a), (1, .long s.1), (3, .long s.2.1), (5, .long s.2.1), (7, .long s.2.2.1), (9, .long ((s.2.2.2.1 + ((((s.2.2.2.2.2.2.2 + (thr v s.2.2.2.2.1 3)) + ((s.2.2.2.2.1 &&& s.2.2.2.2.2.1) ^^^ ((s.2.2.2.2.1 ^^^ (-1)) &&& s.2.2.2.2.2.2.1))) + (lush (s_l 8 k) (nI (64 - (8 * wbN v))))) + ((schC v g w) k))) &&& (mk9 v))), (11, .long s.2.2.2.2.1), (13, .long s.2.2.2.2.2.1), (15, .long s.2.2.2.2.2.2.1), (17, .int (nI k)), (18, .long (lush (s_l 8 k) (nI (64 - (8 * wbN v))))), (20, .long ((((s.2.2.2.2.2.2.2 + (thr v s.2.2.2.2.1 3)) + ((s.2.2.2.2.1 &&& s.2.2.2.2.2.1) ^^^ ((s.2.2.2.2.1 ^^^ (-1)) &&& s.2.2.2.2.2.2.1))) + (lush (s_l 8 k) (nI (64 - (8 * wbN v))))) + ((schC v g w) k))), (22, .long ((thr v s.1 0) + (((s.1 &&& s.2.1) ^^^ (s.1 &&& s.2.2.1)) ^^^ (s.2.1 &&& s.2.2.1))))] rfl ?_
    refine g_lload_n (pc := 188) X (i := 1) d_H_compress_188 rfl rfl ?_
    refine g_lstore_n (pc := 189) X (i := 3) d_H_compress_189 rfl (by decide) ?_
    refine g_lv [(0, .ref a), (1, .long s.1), (3, .long s.1), (5, .long s.2.1), (7, .long s.2.2.1), (9, .long ((s.2.2.2.1 + ((((s.2.2.2.2.2.2.2 + (thr v s.2.2.2.2.1 3)) + ((s.2.2.2.2.1 &&& s.2.2.2.2.2.1) ^^^ ((s.2.2.2.2.1 ^^^ (-1)) &&& s.2.2.2.2.2.2.1))) + (lush (s_l 8 k) (nI (64 - (8 * wbN v))))) + ((schC v g w) k))) &&& (mk9 v))), (11, .long s.2.2.2.2.1), (13, .long s.2.2.2.2.2.1), (15, .long s.2.2.2.2.2.2.1), (17, .int (nI k)), (18, .long (lush (s_l 8 k) (nI (64 - (8 * wbN v))))), (20, .long ((((s.2.2.2.2.2.2.2 + (thr v s.2.2.2.2.1 3)) + ((s.2.2.2.2.1 &&& s.2.2.2.2.2.1) ^^^ ((s.2.2.2.2.1 ^^^ (-1)) &&& s.2.2.2.2.2.2.1))) + (lush (s_l 8 k) (nI (64 - (8 * wbN v))))) + ((schC v g w) k))), (22, .long ((thr v s.1 0) + (((s.1 &&& s.2.1) ^^^ (s.1 &&& s.2.2.1)) ^^^ (s.2.1 &&& s.2.2.1))))] rfl ?_
    refine g_lload (pc := 190) X d_H_compress_190 rfl ?_
    refine g_lload (pc := 192) X d_H_compress_192 rfl ?_
    refine g_ladd (pc := 194) X d_H_compress_194 ?_
    refine g_aload_n (pc := 195) X (i := 0) d_H_compress_195 rfl rfl ?_
    refine g_get (pc := 196) X in_H 0 rfl rfl 4 (by decide) wd_78 rfl d_H_compress_196 ?_
    refine g_land (pc := 199) X d_H_compress_199 ?_
    refine g_lstore_n (pc := 200) X (i := 1) d_H_compress_200 rfl (by decide) ?_
    refine g_lv [(0, .ref a), (1, .long ((((((s.2.2.2.2.2.2.2 + (thr v s.2.2.2.2.1 3)) + ((s.2.2.2.2.1 &&& s.2.2.2.2.2.1) ^^^ ((s.2.2.2.2.1 ^^^ (-1)) &&& s.2.2.2.2.2.2.1))) + (lush (s_l 8 k) (nI (64 - (8 * wbN v))))) + ((schC v g w) k)) + ((thr v s.1 0) + (((s.1 &&& s.2.1) ^^^ (s.1 &&& s.2.2.1)) ^^^ (s.2.1 &&& s.2.2.1)))) &&& (mk9 v))), (3, .long s.1), (5, .long s.2.1), (7, .long s.2.2.1), (9, .long ((s.2.2.2.1 + ((((s.2.2.2.2.2.2.2 + (thr v s.2.2.2.2.1 3)) + ((s.2.2.2.2.1 &&& s.2.2.2.2.2.1) ^^^ ((s.2.2.2.2.1 ^^^ (-1)) &&& s.2.2.2.2.2.2.1))) + (lush (s_l 8 k) (nI (64 - (8 * wbN v))))) + ((schC v g w) k))) &&& (mk9 v))), (11, .long s.2.2.2.2.1), (13, .long s.2.2.2.2.2.1), (15, .long s.2.2.2.2.2.2.1), (17, .int (nI k)), (18, .long (lush (s_l 8 k) (nI (64 - (8 * wbN v))))), (20, .long ((((s.2.2.2.2.2.2.2 + (thr v s.2.2.2.2.1 3)) + ((s.2.2.2.2.1 &&& s.2.2.2.2.2.1) ^^^ ((s.2.2.2.2.1 ^^^ (-1)) &&& s.2.2.2.2.2.2.1))) + (lush (s_l 8 k) (nI (64 - (8 * wbN v))))) + ((schC v g w) k))), (22, .long ((thr v s.1 0) + (((s.1 &&& s.2.1) ^^^ (s.1 &&& s.2.2.1)) ^^^ (s.2.1 &&& s.2.2.1))))] rfl ?_
    refine g_iincN (pc := 201) X (a := k) (k + 1) d_H_compress_201 rfl 1 rfl (by omega) (by decide) ?_
    refine g_lv [(0, .ref a), (1, .long ((((((s.2.2.2.2.2.2.2 + (thr v s.2.2.2.2.1 3)) + ((s.2.2.2.2.1 &&& s.2.2.2.2.2.1) ^^^ ((s.2.2.2.2.1 ^^^ (-1)) &&& s.2.2.2.2.2.2.1))) + (lush (s_l 8 k) (nI (64 - (8 * wbN v))))) + ((schC v g w) k)) + ((thr v s.1 0) + (((s.1 &&& s.2.1) ^^^ (s.1 &&& s.2.2.1)) ^^^ (s.2.1 &&& s.2.2.1)))) &&& (mk9 v))), (3, .long s.1), (5, .long s.2.1), (7, .long s.2.2.1), (9, .long ((s.2.2.2.1 + ((((s.2.2.2.2.2.2.2 + (thr v s.2.2.2.2.1 3)) + ((s.2.2.2.2.1 &&& s.2.2.2.2.2.1) ^^^ ((s.2.2.2.2.1 ^^^ (-1)) &&& s.2.2.2.2.2.2.1))) + (lush (s_l 8 k) (nI (64 - (8 * wbN v))))) + ((schC v g w) k))) &&& (mk9 v))), (11, .long s.2.2.2.2.1), (13, .long s.2.2.2.2.2.1), (15, .long s.2.2.2.2.2.2.1), (17, .int (nI (k + 1))), (18, .long (lush (s_l 8 k) (nI (64 - (8 * wbN v))))), (20, .long ((((s.2.2.2.2.2.2.2 + (thr v s.2.2.2.2.1 3)) + ((s.2.2.2.2.1 &&& s.2.2.2.2.2.1) ^^^ ((s.2.2.2.2.1 ^^^ (-1)) &&& s.2.2.2.2.2.2.1))) + (lush (s_l 8 k) (nI (64 - (8 * wbN v))))) + ((schC v g w) k))), (22, .long ((thr v s.1 0) + (((s.1 &&& s.2.1) ^^^ (s.1 &&& s.2.2.1)) ^^^ (s.2.1 &&& s.2.2.1))))] rfl ?_
    refine g_goto (pc := 204) X (tgt := 71) d_H_compress_204 (by decide) ?_
    refine g_lv [(0, .ref a), (1, .long ((((((s.2.2.2.2.2.2.2 + (thr v s.2.2.2.2.1 3)) + ((s.2.2.2.2.1 &&& s.2.2.2.2.2.1) ^^^ ((s.2.2.2.2.1 ^^^ (-1)) &&& s.2.2.2.2.2.2.1))) + (lush (s_l 8 k) (nI (64 - (8 * wbN v))))) + ((schC v g w) k)) + ((thr v s.1 0) + (((s.1 &&& s.2.1) ^^^ (s.1 &&& s.2.2.1)) ^^^ (s.2.1 &&& s.2.2.1)))) &&& (mk9 v))), (3, .long s.1), (5, .long s.2.1), (7, .long s.2.2.1), (9, .long ((s.2.2.2.1 + ((((s.2.2.2.2.2.2.2 + (thr v s.2.2.2.2.1 3)) + ((s.2.2.2.2.1 &&& s.2.2.2.2.2.1) ^^^ ((s.2.2.2.2.1 ^^^ (-1)) &&& s.2.2.2.2.2.2.1))) + (lush (s_l 8 k) (nI (64 - (8 * wbN v))))) + ((schC v g w) k))) &&& (mk9 v))), (11, .long s.2.2.2.2.1), (13, .long s.2.2.2.2.2.1), (15, .long s.2.2.2.2.2.2.1), (17, .int (nI (k + 1)))] rfl ?_
    exact kk71 (_, _, _, _, _, _, _, _) (by rfl)
  · rw [show it (rnF v (schC v g w)) (rdN v) (S 0, S 1, S 2, S 3, S 4, S 5, S 6, S 7) = r8C v S (schC v g w) from rfl]
    show G B M 24 0 0 Q [co a 0 [.int (nI (wbN v)), .int (nI (8 * wbN v)), .int (nI (rdN v)), .ref (b_t B (dk v)), .long (mk9 v), .int (nI (16 * wbN v)), .int (nI (8 * wbN v)), .ref bk, .ref sa, .ref sc, .ref ma, .int (nI fl), .long (lN tt), .long (lN mt)], cb B bk (16 * wbN v) g, cj B sa 8 S, cj B sc (rdN v) (schC v g w)] [(0, .ref a), (1, .long ((r8C v S (schC v g w)).1)), (3, .long ((r8C v S (schC v g w)).2.1)), (5, .long ((r8C v S (schC v g w)).2.2.1)), (7, .long ((r8C v S (schC v g w)).2.2.2.1)), (9, .long ((r8C v S (schC v g w)).2.2.2.2.1)), (11, .long ((r8C v S (schC v g w)).2.2.2.2.2.1)), (13, .long ((r8C v S (schC v g w)).2.2.2.2.2.2.1)), (15, .long ((r8C v S (schC v g w)).2.2.2.2.2.2.2)), (17, .int (nI (rdN v)))] 71 []
    refine g_iload (pc := 71) X d_H_compress_71 rfl ?_
    refine g_aload_n (pc := 73) X (i := 0) d_H_compress_73 rfl rfl ?_
    refine g_get (pc := 74) X in_H 0 rfl rfl 2 (by decide) wd_76 rfl d_H_compress_74 ?_
    refine g_icmp_geN (pc := 77) X (tgt := 207) d_H_compress_77 (by decide) (by omega) (by omega) (fun h_77 => ?_) (fun h_77 => absurd h_77 (by omega))
    refine g_aload_n (pc := 207) X (i := 0) d_H_compress_207 rfl rfl ?_
    refine g_iconst (pc := 208) X (v := nI 0) d_H_compress_208 (by decide) ?_
    refine g_lload_n (pc := 209) X (i := 1) d_H_compress_209 rfl rfl ?_
    refine g_lload_n (pc := 210) X (i := 3) d_H_compress_210 rfl rfl ?_
    refine g_lload (pc := 211) X d_H_compress_211 rfl ?_
    refine g_lload (pc := 213) X d_H_compress_213 rfl ?_
    refine g_callVv (pc := 215) (q0 := 0) X (c_H_addToState (m_l M) B v a bk sa sc ma fl tt mt S 0 ((r8C v S (schC v g w)).1) ((r8C v S (schC v g w)).2.1) ((r8C v S (schC v g w)).2.2.1) ((r8C v S (schC v g w)).2.2.2.1) (by omega)) wd_634 wd_636 wp_H_addToState wd_4 wd_637 hd_H_addToState [0, 2] rfl rfl [a, sa] (fun _ => rfl) rfl rfl rfl (by rw [hR]; decide) (by rw [hR]; decide) rfl (Nat.le_of_ble_eq_true rfl) d_H_compress_215 (fun _ _ => ?_)
    refine g_wsq [co a 0 [.int (nI (wbN v)), .int (nI (8 * wbN v)), .int (nI (rdN v)), .ref (b_t B (dk v)), .long (mk9 v), .int (nI (16 * wbN v)), .int (nI (8 * wbN v)), .ref bk, .ref sa, .ref sc, .ref ma, .int (nI fl), .long (lN tt), .long (lN mt)], cb B bk (16 * wbN v) g, cj B sa 8 (add4 v S 0 ((r8C v S (schC v g w)).1) ((r8C v S (schC v g w)).2.1) ((r8C v S (schC v g w)).2.2.1) ((r8C v S (schC v g w)).2.2.2.1)), cj B sc (rdN v) (schC v g w)] rfl ?_
    refine g_aload_n (pc := 218) X (i := 0) d_H_compress_218 rfl rfl ?_
    refine g_iconst (pc := 219) X (v := nI 4) d_H_compress_219 (by decide) ?_
    refine g_lload (pc := 220) X d_H_compress_220 rfl ?_
    refine g_lload (pc := 222) X d_H_compress_222 rfl ?_
    refine g_lload (pc := 224) X d_H_compress_224 rfl ?_
    refine g_lload (pc := 226) X d_H_compress_226 rfl ?_
    refine g_callVv (pc := 228) (q0 := 0) X (c_H_addToState (m_l M) B v a bk sa sc ma fl tt mt (add4 v S 0 ((r8C v S (schC v g w)).1) ((r8C v S (schC v g w)).2.1) ((r8C v S (schC v g w)).2.2.1) ((r8C v S (schC v g w)).2.2.2.1)) 4 ((r8C v S (schC v g w)).2.2.2.2.1) ((r8C v S (schC v g w)).2.2.2.2.2.1) ((r8C v S (schC v g w)).2.2.2.2.2.2.1) ((r8C v S (schC v g w)).2.2.2.2.2.2.2) (by omega)) wd_634 wd_636 wp_H_addToState wd_4 wd_637 hd_H_addToState [0, 2] rfl rfl [a, sa] (fun _ => rfl) rfl rfl rfl (by rw [hR]; decide) (by rw [hR]; decide) rfl (Nat.le_of_ble_eq_true rfl) d_H_compress_228 (fun _ _ => ?_)
    refine g_wsq [co a 0 [.int (nI (wbN v)), .int (nI (8 * wbN v)), .int (nI (rdN v)), .ref (b_t B (dk v)), .long (mk9 v), .int (nI (16 * wbN v)), .int (nI (8 * wbN v)), .ref bk, .ref sa, .ref sc, .ref ma, .int (nI fl), .long (lN tt), .long (lN mt)], cb B bk (16 * wbN v) g, cj B sa 8 (add4 v (add4 v S 0 ((r8C v S (schC v g w)).1) ((r8C v S (schC v g w)).2.1) ((r8C v S (schC v g w)).2.2.1) ((r8C v S (schC v g w)).2.2.2.1)) 4 ((r8C v S (schC v g w)).2.2.2.2.1) ((r8C v S (schC v g w)).2.2.2.2.2.1) ((r8C v S (schC v g w)).2.2.2.2.2.2.1) ((r8C v S (schC v g w)).2.2.2.2.2.2.2)), cj B sc (rdN v) (schC v g w)] rfl ?_
    exact kret () _ 231 trivial d_H_compress_231
