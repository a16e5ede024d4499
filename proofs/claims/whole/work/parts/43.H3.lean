theorem c_H_absorb (l : Launch) (B : Bx) (v : Bool) (a : Nat) (bk : Nat) (sa : Nat) (sc : Nat) (ma : Nat) (fl : Nat) (tt : Nat) (mt : Nat) (g : Nat → Int8) (S : Nat → Int64) (w : Nat → Int64) (xa : Nat) (xn : Nat) (fr : Nat) (n : Nat) (x : Nat → Int8) (h0 : fl < 16 * wbN v) (h1 : fr + n ≤ xn) (h2 : xn < 2 ^ 31) : Cv (S := Unit) l B y_H_absorb b_H_absorb 5 (Rm 5 0 0) [.ref a, .ref xa, .int (nI fr), .int (nI n)] [co a 0 [.int (nI (wbN v)), .int (nI (8 * wbN v)), .int (nI (rdN v)), .ref (b_t B (dk v)), .long (mk9 v), .int (nI (16 * wbN v)), .int (nI (8 * wbN v)), .ref bk, .ref sa, .ref sc, .ref ma, .int (nI fl), .long (lN tt), .long (lN mt)], cb B bk (16 * wbN v) g, cj B sa 8 S, cj B sc (rdN v) w, cb B xa xn x] (fun _ => True) (fun _ => [co a 0 [.int (nI (wbN v)), .int (nI (8 * wbN v)), .int (nI (rdN v)), .ref (b_t B (dk v)), .long (mk9 v), .int (nI (16 * wbN v)), .int (nI (8 * wbN v)), .ref bk, .ref sa, .ref sc, .ref ma, .int (nI ((hbS v x fr n (g, fl, S, w)).2.1)), .long (lN (tt + n)), .long (lN mt)], cb B bk (16 * wbN v) ((hbS v x fr n (g, fl, S, w)).1), cj B sa 8 ((hbS v x fr n (g, fl, S, w)).2.2.1), cj B sc (rdN v) ((hbS v x fr n (g, fl, S, w)).2.2.2), cb B xa xn x]) := by
  refine ctr_v (by decide) (Nat.le_of_ble_eq_true rfl) ?_
  intro M Q hl hR hin X kret
  subst hl
  have hv := vf v
  refine g_lv [(0, .ref a), (1, .ref xa), (2, .int (nI fr)), (3, .int (nI n))] rfl ?_
  refine g_iconst (pc := 0) X (v := nI 0) d_H_absorb_0 (by decide) ?_
  refine g_istore (pc := 1) X d_H_absorb_1 (by decide) ?_
  refine g_lv [(0, .ref a), (1, .ref xa), (2, .int (nI fr)), (3, .int (nI n)), (4, .int (nI 0))] rfl ?_
  refine g_lv [(0, .ref a), (1, .ref xa), (2, .int (nI fr)), (3, .int (nI n)), (4, .int (nI 0))] rfl ?_
  refine loopI (σ := H4) (hbF v x fr) (fun k s => s.2.1 < 16 * wbN v) (fun k s => G B M 5 0 0 Q [co a 0 [.int (nI (wbN v)), .int (nI (8 * wbN v)), .int (nI (rdN v)), .ref (b_t B (dk v)), .long (mk9 v), .int (nI (16 * wbN v)), .int (nI (8 * wbN v)), .ref bk, .ref sa, .ref sc, .ref ma, .int (nI s.2.1), .long (lN tt), .long (lN mt)], cb B bk (16 * wbN v) s.1, cj B sa 8 s.2.2.1, cj B sc (rdN v) s.2.2.2, cb B xa xn x] [(0, .ref a), (1, .ref xa), (2, .int (nI fr)), (3, .int (nI n)), (4, .int (nI k))] 3 []) n (g, fl, S, w) h0 (fun k s _ h => hbF_lt v x fr k s h) ?_ ?_
  · intro k s hk3 hI3 kk3
    show G B M 5 0 0 Q [co a 0 [.int (nI (wbN v)), .int (nI (8 * wbN v)), .int (nI (rdN v)), .ref (b_t B (dk v)), .long (mk9 v), .int (nI (16 * wbN v)), .int (nI (8 * wbN v)), .ref bk, .ref sa, .ref sc, .ref ma, .int (nI s.2.1), .long (lN tt), .long (lN mt)], cb B bk (16 * wbN v) s.1, cj B sa 8 s.2.2.1, cj B sc (rdN v) s.2.2.2, cb B xa xn x] [(0, .ref a), (1, .ref xa), (2, .int (nI fr)), (3, .int (nI n)), (4, .int (nI k))] 3 []
    refine g_iload (pc := 3) X d_H_absorb_3 rfl ?_
    refine g_iload_n (pc := 5) X (i := 3) d_H_absorb_5 rfl rfl ?_
    refine g_icmp_geN (pc := 6) X (tgt := 60) d_H_absorb_6 (by decide) (by omega) (by omega) (fun h_6 => absurd h_6 (by omega)) (fun h_6 => ?_)
    refine g_aload_n (pc := 9) X (i := 0) d_H_absorb_9 rfl rfl ?_
    refine g_get (pc := 10) X in_H 0 rfl rfl 7 (by decide) wd_83 rfl d_H_absorb_10 ?_
    refine g_aload_n (pc := 13) X (i := 0) d_H_absorb_13 rfl rfl ?_
    refine g_get (pc := 14) X in_H 0 rfl rfl 11 (by decide) wd_87 rfl d_H_absorb_14 ?_
    refine g_aload_n (pc := 17) X (i := 1) d_H_absorb_17 rfl rfl ?_
    refine g_iload_n (pc := 18) X (i := 2) d_H_absorb_18 rfl rfl ?_
    refine g_iload (pc := 19) X d_H_absorb_19 rfl ?_
    refine g_iaddN (pc := 21) X (fr + k) (by omega) d_H_absorb_21 ?_
    refine g_bald (pc := 22) X 4 rfl (fr + k) rfl (by omega) (by omega) d_H_absorb_22 ?_
    refine g_bastB (pc := 23) X 1 rfl s.2.1 rfl (by omega) (by omega) d_H_absorb_23 ?_
    refine g_wsq [co a 0 [.int (nI (wbN v)), .int (nI (8 * wbN v)), .int (nI (rdN v)), .ref (b_t B (dk v)), .long (mk9 v), .int (nI (16 * wbN v)), .int (nI (8 * wbN v)), .ref bk, .ref sa, .ref sc, .ref ma, .int (nI s.2.1), .long (lN tt), .long (lN mt)], cb B bk (16 * wbN v) (va_up s.1 s.2.1 (x (fr + k))), cj B sa 8 s.2.2.1, cj B sc (rdN v) s.2.2.2, cb B xa xn x] rfl ?_
    refine g_aload_n (pc := 24) X (i := 0) d_H_absorb_24 rfl rfl ?_
    refine g_dup (pc := 25) X d_H_absorb_25 rfl ?_
    refine g_get (pc := 26) X in_H 0 rfl rfl 11 (by decide) wd_87 rfl d_H_absorb_26 ?_
    refine g_iconst (pc := 29) X (v := nI 1) d_H_absorb_29 (by decide) ?_
    refine g_iaddN (pc := 30) X (s.2.1 + 1) (by omega) d_H_absorb_30 ?_
    refine g_put (pc := 31) X in_H ty_H ok_H nm_H 0 rfl rfl 11 (by decide) wd_87 rfl rfl rfl (Nat.le_of_ble_eq_true rfl) d_H_absorb_31 ?_
    refine g_wsq [co a 0 [.int (nI (wbN v)), .int (nI (8 * wbN v)), .int (nI (rdN v)), .ref (b_t B (dk v)), .long (mk9 v), .int (nI (16 * wbN v)), .int (nI (8 * wbN v)), .ref bk, .ref sa, .ref sc, .ref ma, .int (nI (s.2.1 + 1)), .long (lN tt), .long (lN mt)], cb B bk (16 * wbN v) (va_up s.1 s.2.1 (x (fr + k))), cj B sa 8 s.2.2.1, cj B sc (rdN v) s.2.2.2, cb B xa xn x] rfl ?_
    refine g_aload_n (pc := 34) X (i := 0) d_H_absorb_34 rfl rfl ?_
    refine g_get (pc := 35) X in_H 0 rfl rfl 11 (by decide) wd_87 rfl d_H_absorb_35 ?_
    refine g_aload_n (pc := 38) X (i := 0) d_H_absorb_38 rfl rfl ?_
    refine g_get (pc := 39) X in_H 0 rfl rfl 5 (by decide) wd_79 rfl d_H_absorb_39 ?_
    refine g_icmp_neN (pc := 42) X (tgt := 54) d_H_absorb_42 (by decide) (by omega) (by omega) (fun h_42 => ?_) (fun h_42 => ?_)
    · refine g_iincN (pc := 54) X (a := k) (k + 1) d_H_absorb_54 rfl 1 rfl (by omega) (by decide) ?_
      refine g_lv [(0, .ref a), (1, .ref xa), (2, .int (nI fr)), (3, .int (nI n)), (4, .int (nI (k + 1)))] rfl ?_
      refine g_goto (pc := 57) X (tgt := 3) d_H_absorb_57 (by decide) ?_
      refine g_lv [(0, .ref a), (1, .ref xa), (2, .int (nI fr)), (3, .int (nI n)), (4, .int (nI (k + 1)))] rfl ?_
      exact kk3 (_, _, _, _) (by unfold hbF; first | (rw [if_pos (by omega)] <;> rfl) | (rw [if_neg (by omega)] <;> rfl))
    · refine g_aload_n (pc := 45) X (i := 0) d_H_absorb_45 rfl rfl ?_
      refine g_callVv (pc := 46) (q0 := 0) X (c_H_compress (m_l M) B v a bk sa sc ma (s.2.1 + 1) tt mt (va_up s.1 s.2.1 (x (fr + k))) s.2.2.1 s.2.2.2 ) wd_612 wd_614 wp_H_compress wd_4 wd_615 hd_H_compress [0, 1, 2, 3] rfl rfl [a, bk, sa, sc] (fun _ => rfl) rfl rfl rfl (by rw [hR]; decide) (by rw [hR]; decide) rfl (Nat.le_of_ble_eq_true rfl) d_H_absorb_46 (fun _ _ => ?_)
      refine g_wsq [co a 0 [.int (nI (wbN v)), .int (nI (8 * wbN v)), .int (nI (rdN v)), .ref (b_t B (dk v)), .long (mk9 v), .int (nI (16 * wbN v)), .int (nI (8 * wbN v)), .ref bk, .ref sa, .ref sc, .ref ma, .int (nI (s.2.1 + 1)), .long (lN tt), .long (lN mt)], cb B bk (16 * wbN v) (va_up s.1 s.2.1 (x (fr + k))), cj B sa 8 (cmpS v (va_up s.1 s.2.1 (x (fr + k))) s.2.2.1 s.2.2.2), cj B sc (rdN v) (schC v (va_up s.1 s.2.1 (x (fr + k))) s.2.2.2), cb B xa xn x] rfl ?_
      refine g_aload_n (pc := 49) X (i := 0) d_H_absorb_49 rfl rfl ?_
      refine g_iconst (pc := 50) X (v := nI 0) d_H_absorb_50 (by decide) ?_
      refine g_put (pc := 51) X in_H ty_H ok_H nm_H 0 rfl rfl 11 (by decide) wd_87 rfl rfl rfl (Nat.le_of_ble_eq_true rfl) d_H_absorb_51 ?_
      refine g_wsq [co a 0 [.int (nI (wbN v)), .int (nI (8 * wbN v)), .int (nI (rdN v)), .ref (b_t B (dk v)), .long (mk9 v), .int (nI (16 * wbN v)), .int (nI (8 * wbN v)), .ref bk, .ref sa, .ref sc, .ref ma, .int (nI 0), .long (lN tt), .long (lN mt)], cb B bk (16 * wbN v) (va_up s.1 s.2.1 (x (fr + k))), cj B sa 8 (cmpS v (va_up s.1 s.2.1 (x (fr + k))) s.2.2.1 s.2.2.2), cj B sc (rdN v) (schC v (va_up s.1 s.2.1 (x (fr + k))) s.2.2.2), cb B xa xn x] rfl ?_
      refine g_iincN (pc := 54) X (a := k) (k + 1) d_H_absorb_54 rfl 1 rfl (by omega) (by decide) ?_
      refine g_lv [(0, .ref a), (1, .ref xa), (2, .int (nI fr)), (3, .int (nI n)), (4, .int (nI (k + 1)))] rfl ?_
      refine g_goto (pc := 57) X (tgt := 3) d_H_absorb_57 (by decide) ?_
      refine g_lv [(0, .ref a), (1, .ref xa), (2, .int (nI fr)), (3, .int (nI n)), (4, .int (nI (k + 1)))] rfl ?_
      exact kk3 (_, _, _, _) (by unfold hbF; first | (rw [if_pos (by omega)] <;> rfl) | (rw [if_neg (by omega)] <;> rfl))
  · intro hI3
    rw [show it (hbF v x fr) n (g, fl, S, w) = hbS v x fr n (g, fl, S, w) from rfl] at hI3 ⊢
    show G B M 5 0 0 Q [co a 0 [.int (nI (wbN v)), .int (nI (8 * wbN v)), .int (nI (rdN v)), .ref (b_t B (dk v)), .long (mk9 v), .int (nI (16 * wbN v)), .int (nI (8 * wbN v)), .ref bk, .ref sa, .ref sc, .ref ma, .int (nI ((hbS v x fr n (g, fl, S, w)).2.1)), .long (lN tt), .long (lN mt)], cb B bk (16 * wbN v) ((hbS v x fr n (g, fl, S, w)).1), cj B sa 8 ((hbS v x fr n (g, fl, S, w)).2.2.1), cj B sc (rdN v) ((hbS v x fr n (g, fl, S, w)).2.2.2), cb B xa xn x] [(0, .ref a), (1, .ref xa), (2, .int (nI fr)), (3, .int (nI n)), (4, .int (nI n))] 3 []
    refine g_iload (pc := 3) X d_H_absorb_3 rfl ?_
    refine g_iload_n (pc := 5) X (i := 3) d_H_absorb_5 rfl rfl ?_
    refine g_icmp_geN (pc := 6) X (tgt := 60) d_H_absorb_6 (by decide) (by omega) (by omega) (fun h_6 => ?_) (fun h_6 => absurd h_6 (by omega))
    refine g_aload_n (pc := 60) X (i := 0) d_H_absorb_60 rfl rfl ?_
    refine g_dup (pc := 61) X d_H_absorb_61 rfl ?_
    refine g_get (pc := 62) X in_H 0 rfl rfl 12 (by decide) wd_88 rfl d_H_absorb_62 ?_
    refine g_iload_n (pc := 65) X (i := 3) d_H_absorb_65 rfl rfl ?_
    refine g_i2l (pc := 66) X (v := lN n) d_H_absorb_66 (nI_l (by omega)) ?_
    refine g_ladd (pc := 67) X d_H_absorb_67 ?_
    refine g_setl (lN (tt + n)) (lN_add _ _) ?_
    refine g_put (pc := 68) X in_H ty_H ok_H nm_H 0 rfl rfl 12 (by decide) wd_88 rfl rfl rfl (Nat.le_of_ble_eq_true rfl) d_H_absorb_68 ?_
    refine g_wsq [co a 0 [.int (nI (wbN v)), .int (nI (8 * wbN v)), .int (nI (rdN v)), .ref (b_t B (dk v)), .long (mk9 v), .int (nI (16 * wbN v)), .int (nI (8 * wbN v)), .ref bk, .ref sa, .ref sc, .ref ma, .int (nI ((hbS v x fr n (g, fl, S, w)).2.1)), .long (lN (tt + n)), .long (lN mt)], cb B bk (16 * wbN v) ((hbS v x fr n (g, fl, S, w)).1), cj B sa 8 ((hbS v x fr n (g, fl, S, w)).2.2.1), cj B sc (rdN v) ((hbS v x fr n (g, fl, S, w)).2.2.2), cb B xa xn x] rfl ?_
    exact kret () _ 71 trivial d_H_absorb_71

theorem c_H_begin (l : Launch) (B : Bx) (v : Bool) (a : Nat) (bk : Nat) (sa : Nat) (sc : Nat) (ma : Nat) (fl : Nat) (tt : Nat) (mt : Nat) (S : Nat → Int64) (k : Nat) (h1 : k < 12) (h2 : s_ty k = .long) (h3 : s_N k = 8) : Cv (S := Unit) l B y_H_begin b_H_begin 2 (Rm 2 0 0) [.ref a, .ref (b_t B k)] [co a 0 [.int (nI (wbN v)), .int (nI (8 * wbN v)), .int (nI (rdN v)), .ref (b_t B (dk v)), .long (mk9 v), .int (nI (16 * wbN v)), .int (nI (8 * wbN v)), .ref bk, .ref sa, .ref sc, .ref ma, .int (nI fl), .long (lN tt), .long (lN mt)], cj B sa 8 S] (fun _ => True) (fun _ => [co a 0 [.int (nI (wbN v)), .int (nI (8 * wbN v)), .int (nI (rdN v)), .ref (b_t B (dk v)), .long (mk9 v), .int (nI (16 * wbN v)), .int (nI (8 * wbN v)), .ref bk, .ref sa, .ref sc, .ref ma, .int (nI 0), .long (lN 0), .long (lN mt)], cj B sa 8 (va_cpy (s_l k) S 0 0 8)]) := by
  refine ctr_v (by decide) (Nat.le_of_ble_eq_true rfl) ?_
  intro M Q hl hR hin X kret
  subst hl
  have hv := vf v
  refine g_lv [(0, .ref a), (1, .ref (b_t B k))] rfl ?_
  refine g_aload_n (pc := 0) X (i := 1) d_H_begin_0 rfl rfl ?_
  refine g_iconst (pc := 1) X (v := nI 0) d_H_begin_1 (by decide) ?_
  refine g_aload_n (pc := 2) X (i := 0) d_H_begin_2 rfl rfl ?_
  refine g_get (pc := 3) X in_H 0 rfl rfl 8 (by decide) wd_84 rfl d_H_begin_3 ?_
  refine g_iconst (pc := 6) X (v := nI 0) d_H_begin_6 (by decide) ?_
  refine g_bipush (pc := 7) X (v := nI 8) d_H_begin_7 (by decide) ?_
  refine g_copyt (pc := 9) X wd_607 wd_266 wd_265 wd_11 k h1 h2 1 rfl 0 0 8 rfl rfl rfl (by omega) (by omega) (by omega) (by rw [hR]; decide) (by rw [hR]; decide) d_H_begin_9 ?_
  refine g_wsq [co a 0 [.int (nI (wbN v)), .int (nI (8 * wbN v)), .int (nI (rdN v)), .ref (b_t B (dk v)), .long (mk9 v), .int (nI (16 * wbN v)), .int (nI (8 * wbN v)), .ref bk, .ref sa, .ref sc, .ref ma, .int (nI fl), .long (lN tt), .long (lN mt)], cj B sa 8 (va_cpy (s_l k) S 0 0 8)] rfl ?_
  refine g_aload_n (pc := 12) X (i := 0) d_H_begin_12 rfl rfl ?_
  refine g_iconst (pc := 13) X (v := nI 0) d_H_begin_13 (by decide) ?_
  refine g_put (pc := 14) X in_H ty_H ok_H nm_H 0 rfl rfl 11 (by decide) wd_87 rfl rfl rfl (Nat.le_of_ble_eq_true rfl) d_H_begin_14 ?_
  refine g_wsq [co a 0 [.int (nI (wbN v)), .int (nI (8 * wbN v)), .int (nI (rdN v)), .ref (b_t B (dk v)), .long (mk9 v), .int (nI (16 * wbN v)), .int (nI (8 * wbN v)), .ref bk, .ref sa, .ref sc, .ref ma, .int (nI 0), .long (lN tt), .long (lN mt)], cj B sa 8 (va_cpy (s_l k) S 0 0 8)] rfl ?_
  refine g_aload_n (pc := 17) X (i := 0) d_H_begin_17 rfl rfl ?_
  refine g_lconst (pc := 18) X (v := 0) d_H_begin_18 (by decide) ?_
  refine g_setl (lN 0) rfl ?_
  refine g_put (pc := 19) X in_H ty_H ok_H nm_H 0 rfl rfl 12 (by decide) wd_88 rfl rfl rfl (Nat.le_of_ble_eq_true rfl) d_H_begin_19 ?_
  refine g_wsq [co a 0 [.int (nI (wbN v)), .int (nI (8 * wbN v)), .int (nI (rdN v)), .ref (b_t B (dk v)), .long (mk9 v), .int (nI (16 * wbN v)), .int (nI (8 * wbN v)), .ref bk, .ref sa, .ref sc, .ref ma, .int (nI 0), .long (lN 0), .long (lN mt)], cj B sa 8 (va_cpy (s_l k) S 0 0 8)] rfl ?_
  exact kret () _ 22 trivial d_H_begin_22

theorem c_H_setMark (l : Launch) (B : Bx) (v : Bool) (a : Nat) (bk : Nat) (sa : Nat) (sc : Nat) (ma : Nat) (fl : Nat) (tt : Nat) (mt : Nat) (S : Nat → Int64) (ms : Nat → Int64)  : Cv (S := Unit) l B y_H_setMark b_H_setMark 1 (Rm 2 0 0) [.ref a] [co a 0 [.int (nI (wbN v)), .int (nI (8 * wbN v)), .int (nI (rdN v)), .ref (b_t B (dk v)), .long (mk9 v), .int (nI (16 * wbN v)), .int (nI (8 * wbN v)), .ref bk, .ref sa, .ref sc, .ref ma, .int (nI fl), .long (lN tt), .long (lN mt)], cj B sa 8 S, cj B ma 8 ms] (fun _ => True) (fun _ => [co a 0 [.int (nI (wbN v)), .int (nI (8 * wbN v)), .int (nI (rdN v)), .ref (b_t B (dk v)), .long (mk9 v), .int (nI (16 * wbN v)), .int (nI (8 * wbN v)), .ref bk, .ref sa, .ref sc, .ref ma, .int (nI fl), .long (lN tt), .long (lN tt)], cj B sa 8 S, cj B ma 8 (va_cpy S ms 0 0 8)]) := by
  refine ctr_v (by decide) (Nat.le_of_ble_eq_true rfl) ?_
  intro M Q hl hR hin X kret
  subst hl
  have hv := vf v
  refine g_lv [(0, .ref a)] rfl ?_
  refine g_aload_n (pc := 0) X (i := 0) d_H_setMark_0 rfl rfl ?_
  refine g_get (pc := 1) X in_H 0 rfl rfl 8 (by decide) wd_84 rfl d_H_setMark_1 ?_
  refine g_iconst (pc := 4) X (v := nI 0) d_H_setMark_4 (by decide) ?_
  refine g_aload_n (pc := 5) X (i := 0) d_H_setMark_5 rfl rfl ?_
  refine g_get (pc := 6) X in_H 0 rfl rfl 10 (by decide) wd_86 rfl d_H_setMark_6 ?_
  refine g_iconst (pc := 9) X (v := nI 0) d_H_setMark_9 (by decide) ?_
  refine g_bipush (pc := 10) X (v := nI 8) d_H_setMark_10 (by decide) ?_
  refine g_copyj (pc := 12) X wd_607 wd_266 wd_265 wd_11 1 2 rfl rfl 0 0 8 rfl rfl rfl (by omega) (by omega) (by omega) (by omega) (by rw [hR]; decide) (by rw [hR]; decide) d_H_setMark_12 ?_
  refine g_wsq [co a 0 [.int (nI (wbN v)), .int (nI (8 * wbN v)), .int (nI (rdN v)), .ref (b_t B (dk v)), .long (mk9 v), .int (nI (16 * wbN v)), .int (nI (8 * wbN v)), .ref bk, .ref sa, .ref sc, .ref ma, .int (nI fl), .long (lN tt), .long (lN mt)], cj B sa 8 S, cj B ma 8 (va_cpy S ms 0 0 8)] rfl ?_
  refine g_aload_n (pc := 15) X (i := 0) d_H_setMark_15 rfl rfl ?_
  refine g_aload_n (pc := 16) X (i := 0) d_H_setMark_16 rfl rfl ?_
  refine g_get (pc := 17) X in_H 0 rfl rfl 12 (by decide) wd_88 rfl d_H_setMark_17 ?_
  refine g_put (pc := 20) X in_H ty_H ok_H nm_H 0 rfl rfl 13 (by decide) wd_89 rfl rfl rfl (Nat.le_of_ble_eq_true rfl) d_H_setMark_20 ?_
  refine g_wsq [co a 0 [.int (nI (wbN v)), .int (nI (8 * wbN v)), .int (nI (rdN v)), .ref (b_t B (dk v)), .long (mk9 v), .int (nI (16 * wbN v)), .int (nI (8 * wbN v)), .ref bk, .ref sa, .ref sc, .ref ma, .int (nI fl), .long (lN tt), .long (lN tt)], cj B sa 8 S, cj B ma 8 (va_cpy S ms 0 0 8)] rfl ?_
  exact kret () _ 23 trivial d_H_setMark_23

theorem c_H_goToMark (l : Launch) (B : Bx) (v : Bool) (a : Nat) (bk : Nat) (sa : Nat) (sc : Nat) (ma : Nat) (fl : Nat) (tt : Nat) (mt : Nat) (S : Nat → Int64) (ms : Nat → Int64)  : Cv (S := Unit) l B y_H_goToMark b_H_goToMark 1 (Rm 2 0 0) [.ref a] [co a 0 [.int (nI (wbN v)), .int (nI (8 * wbN v)), .int (nI (rdN v)), .ref (b_t B (dk v)), .long (mk9 v), .int (nI (16 * wbN v)), .int (nI (8 * wbN v)), .ref bk, .ref sa, .ref sc, .ref ma, .int (nI fl), .long (lN tt), .long (lN mt)], cj B sa 8 S, cj B ma 8 ms] (fun _ => True) (fun _ => [co a 0 [.int (nI (wbN v)), .int (nI (8 * wbN v)), .int (nI (rdN v)), .ref (b_t B (dk v)), .long (mk9 v), .int (nI (16 * wbN v)), .int (nI (8 * wbN v)), .ref bk, .ref sa, .ref sc, .ref ma, .int (nI 0), .long (lN mt), .long (lN mt)], cj B sa 8 (va_cpy ms S 0 0 8), cj B ma 8 ms]) := by
  refine ctr_v (by decide) (Nat.le_of_ble_eq_true rfl) ?_
  intro M Q hl hR hin X kret
  subst hl
  have hv := vf v
  refine g_lv [(0, .ref a)] rfl ?_
  refine g_aload_n (pc := 0) X (i := 0) d_H_goToMark_0 rfl rfl ?_
  refine g_get (pc := 1) X in_H 0 rfl rfl 10 (by decide) wd_86 rfl d_H_goToMark_1 ?_
  refine g_iconst (pc := 4) X (v := nI 0) d_H_goToMark_4 (by decide) ?_
  refine g_aload_n (pc := 5) X (i := 0) d_H_goToMark_5 rfl rfl ?_
  refine g_get (pc := 6) X in_H 0 rfl rfl 8 (by decide) wd_84 rfl d_H_goToMark_6 ?_
  refine g_iconst (pc := 9) X (v := nI 0) d_H_goToMark_9 (by decide) ?_
  refine g_bipush (pc := 10) X (v := nI 8) d_H_goToMark_10 (by decide) ?_
  refine g_copyj (pc := 12) X wd_607 wd_266 wd_265 wd_11 2 1 rfl rfl 0 0 8 rfl rfl rfl (by omega) (by omega) (by omega) (by omega) (by rw [hR]; decide) (by rw [hR]; decide) d_H_goToMark_12 ?_
  refine g_wsq [co a 0 [.int (nI (wbN v)), .int (nI (8 * wbN v)), .int (nI (rdN v)), .ref (b_t B (dk v)), .long (mk9 v), .int (nI (16 * wbN v)), .int (nI (8 * wbN v)), .ref bk, .ref sa, .ref sc, .ref ma, .int (nI fl), .long (lN tt), .long (lN mt)], cj B sa 8 (va_cpy ms S 0 0 8), cj B ma 8 ms] rfl ?_
  refine g_aload_n (pc := 15) X (i := 0) d_H_goToMark_15 rfl rfl ?_
  refine g_aload_n (pc := 16) X (i := 0) d_H_goToMark_16 rfl rfl ?_
  refine g_get (pc := 17) X in_H 0 rfl rfl 13 (by decide) wd_89 rfl d_H_goToMark_17 ?_
  refine g_put (pc := 20) X in_H ty_H ok_H nm_H 0 rfl rfl 12 (by decide) wd_88 rfl rfl rfl (Nat.le_of_ble_eq_true rfl) d_H_goToMark_20 ?_
  refine g_wsq [co a 0 [.int (nI (wbN v)), .int (nI (8 * wbN v)), .int (nI (rdN v)), .ref (b_t B (dk v)), .long (mk9 v), .int (nI (16 * wbN v)), .int (nI (8 * wbN v)), .ref bk, .ref sa, .ref sc, .ref ma, .int (nI fl), .long (lN mt), .long (lN mt)], cj B sa 8 (va_cpy ms S 0 0 8), cj B ma 8 ms] rfl ?_
  refine g_aload_n (pc := 23) X (i := 0) d_H_goToMark_23 rfl rfl ?_
  refine g_iconst (pc := 24) X (v := nI 0) d_H_goToMark_24 (by decide) ?_
  refine g_put (pc := 25) X in_H ty_H ok_H nm_H 0 rfl rfl 11 (by decide) wd_87 rfl rfl rfl (Nat.le_of_ble_eq_true rfl) d_H_goToMark_25 ?_
  refine g_wsq [co a 0 [.int (nI (wbN v)), .int (nI (8 * wbN v)), .int (nI (rdN v)), .ref (b_t B (dk v)), .long (mk9 v), .int (nI (16 * wbN v)), .int (nI (8 * wbN v)), .ref bk, .ref sa, .ref sc, .ref ma, .int (nI 0), .long (lN mt), .long (lN mt)], cj B sa 8 (va_cpy ms S 0 0 8), cj B ma 8 ms] rfl ?_
  exact kret () _ 28 trivial d_H_goToMark_28
