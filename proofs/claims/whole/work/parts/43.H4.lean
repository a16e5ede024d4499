theorem c_H_writeState (l : Launch) (B : Bx) (v : Bool) (a : Nat) (bk : Nat) (sa : Nat) (sc : Nat) (ma : Nat) (fl : Nat) (tt : Nat) (mt : Nat) (S : Nat → Int64) (ta : Nat) (tn : Nat) (at_ : Nat) (n : Nat) (o : Nat → Int8) (h1 : at_ + n ≤ tn) (h2 : tn < 2 ^ 31) (h3 : n ≤ 8 * wbN v) : Cv (S := Unit) l B y_H_writeState b_H_writeState 7 (Rm 1 0 0) [.ref a, .ref ta, .int (nI at_), .int (nI n)] [co a 0 [.int (nI (wbN v)), .int (nI (8 * wbN v)), .int (nI (rdN v)), .ref (b_t B (dk v)), .long (mk9 v), .int (nI (16 * wbN v)), .int (nI (8 * wbN v)), .ref bk, .ref sa, .ref sc, .ref ma, .int (nI fl), .long (lN tt), .long (lN mt)], cj B sa 8 S, cb B ta tn o] (fun _ => True) (fun _ => [co a 0 [.int (nI (wbN v)), .int (nI (8 * wbN v)), .int (nI (rdN v)), .ref (b_t B (dk v)), .long (mk9 v), .int (nI (16 * wbN v)), .int (nI (8 * wbN v)), .ref bk, .ref sa, .ref sc, .ref ma, .int (nI fl), .long (lN tt), .long (lN mt)], cj B sa 8 S, cb B ta tn (wrS v S o at_ n)]) := by
  refine ctr_v (by decide) (Nat.le_of_ble_eq_true rfl) ?_
  intro M Q hl hR hin X kret
  subst hl
  have hv := vf v
  refine g_lv [(0, .ref a), (1, .ref ta), (2, .int (nI at_)), (3, .int (nI n))] rfl ?_
  refine g_iconst (pc := 0) X (v := nI 0) d_H_writeState_0 (by decide) ?_
  refine g_istore (pc := 1) X d_H_writeState_1 (by decide) ?_
  refine g_lv [(0, .ref a), (1, .ref ta), (2, .int (nI at_)), (3, .int (nI n)), (4, .int (nI 0))] rfl ?_
  refine g_iconst (pc := 3) X (v := nI 0) d_H_writeState_3 (by decide) ?_
  refine g_istore (pc := 4) X d_H_writeState_4 (by decide) ?_
  refine g_lv [(0, .ref a), (1, .ref ta), (2, .int (nI at_)), (3, .int (nI n)), (4, .int (nI 0)), (5, .int (nI 0))] rfl ?_
  refine g_lv [(0, .ref a), (1, .ref ta), (2, .int (nI at_)), (3, .int (nI n)), (4, .int (nI 0)), (5, .int (nI 0))] rfl ?_
  refine g_lve [(0, .ref a), (1, .ref ta), (2, .int (nI at_)), (3, .int (nI n)), (4, .int (nI (min (0 * wbN v) n))), (5, .int (nI 0))] (by rw [show min (0 * wbN v) n = 0 by rw [Nat.zero_mul]; exact Nat.zero_min _]) ?_
  refine g_wsq [co a 0 [.int (nI (wbN v)), .int (nI (8 * wbN v)), .int (nI (rdN v)), .ref (b_t B (dk v)), .long (mk9 v), .int (nI (16 * wbN v)), .int (nI (8 * wbN v)), .ref bk, .ref sa, .ref sc, .ref ma, .int (nI fl), .long (lN tt), .long (lN mt)], cj B sa 8 S, cb B ta tn (wrS v S o at_ (min (0 * wbN v) n))] (by rw [show min (0 * wbN v) n = 0 by rw [Nat.zero_mul]; exact Nat.zero_min _, ← wrS_0]) ?_
  refine loopK (fun k => G B M 7 0 0 Q [co a 0 [.int (nI (wbN v)), .int (nI (8 * wbN v)), .int (nI (rdN v)), .ref (b_t B (dk v)), .long (mk9 v), .int (nI (16 * wbN v)), .int (nI (8 * wbN v)), .ref bk, .ref sa, .ref sc, .ref ma, .int (nI fl), .long (lN tt), .long (lN mt)], cj B sa 8 S, cb B ta tn (wrS v S o at_ (min (k * wbN v) n))] [(0, .ref a), (1, .ref ta), (2, .int (nI at_)), (3, .int (nI n)), (4, .int (nI (min (k * wbN v) n))), (5, .int (nI k))] 6 []) 8 ?_ ?_
  · intro k hk6 kk6
    have e1 : (k + 1) * wbN v = k * wbN v + wbN v := Nat.succ_mul _ _
    show G B M 7 0 0 Q [co a 0 [.int (nI (wbN v)), .int (nI (8 * wbN v)), .int (nI (rdN v)), .ref (b_t B (dk v)), .long (mk9 v), .int (nI (16 * wbN v)), .int (nI (8 * wbN v)), .ref bk, .ref sa, .ref sc, .ref ma, .int (nI fl), .long (lN tt), .long (lN mt)], cj B sa 8 S, cb B ta tn (wrS v S o at_ (min (k * wbN v) n))] [(0, .ref a), (1, .ref ta), (2, .int (nI at_)), (3, .int (nI n)), (4, .int (nI (min (k * wbN v) n))), (5, .int (nI k))] 6 []
    refine g_iload (pc := 6) X d_H_writeState_6 rfl ?_
    refine g_bipush (pc := 8) X (v := nI 8) d_H_writeState_8 (by decide) ?_
    refine g_icmp_geN (pc := 10) X (tgt := 66) d_H_writeState_10 (by decide) (by omega) (by omega) (fun h_10 => absurd h_10 (by omega)) (fun h_10 => ?_)
    refine g_aload_n (pc := 13) X (i := 0) d_H_writeState_13 rfl rfl ?_
    refine g_get (pc := 14) X in_H 0 rfl rfl 1 (by decide) wd_75 rfl d_H_writeState_14 ?_
    refine g_bipush (pc := 17) X (v := nI 8) d_H_writeState_17 (by decide) ?_
    refine g_isubN (pc := 19) X (8 * wbN v - 8) (by omega) d_H_writeState_19 ?_
    refine g_istore (pc := 20) X d_H_writeState_20 (by decide) ?_
    refine g_lv [(0, .ref a), (1, .ref ta), (2, .int (nI at_)), (3, .int (nI n)), (4, .int (nI (min (k * wbN v) n))), (5, .int (nI k)), (6, .int (nI (8 * wbN v - 8)))] rfl ?_
    refine g_lv [(0, .ref a), (1, .ref ta), (2, .int (nI at_)), (3, .int (nI n)), (4, .int (nI (min (k * wbN v) n))), (5, .int (nI k)), (6, .int (nI (8 * wbN v - 8)))] rfl ?_
    refine g_lve [(0, .ref a), (1, .ref ta), (2, .int (nI at_)), (3, .int (nI n)), (4, .int (nI (min (k * wbN v + 0) n))), (5, .int (nI k)), (6, .int (nI (8 * wbN v - 8 * 0) - nI 8))] (by rw [pk_sub (by omega)]; rfl) ?_
    refine g_wsq [co a 0 [.int (nI (wbN v)), .int (nI (8 * wbN v)), .int (nI (rdN v)), .ref (b_t B (dk v)), .long (mk9 v), .int (nI (16 * wbN v)), .int (nI (8 * wbN v)), .ref bk, .ref sa, .ref sc, .ref ma, .int (nI fl), .long (lN tt), .long (lN mt)], cj B sa 8 S, cb B ta tn (wrS v S o at_ (min (k * wbN v + 0) n))] (by rfl) ?_
    refine loopK (fun r => G B M 7 0 0 Q [co a 0 [.int (nI (wbN v)), .int (nI (8 * wbN v)), .int (nI (rdN v)), .ref (b_t B (dk v)), .long (mk9 v), .int (nI (16 * wbN v)), .int (nI (8 * wbN v)), .ref bk, .ref sa, .ref sc, .ref ma, .int (nI fl), .long (lN tt), .long (lN mt)], cj B sa 8 S, cb B ta tn (wrS v S o at_ (min (k * wbN v + r) n))] [(0, .ref a), (1, .ref ta), (2, .int (nI at_)), (3, .int (nI n)), (4, .int (nI (min (k * wbN v + r) n))), (5, .int (nI k)), (6, .int (nI (8 * wbN v - 8 * r) - nI 8))] 22 []) (wbN v) ?_ ?_
    · intro r hk22 kk22
      show G B M 7 0 0 Q [co a 0 [.int (nI (wbN v)), .int (nI (8 * wbN v)), .int (nI (rdN v)), .ref (b_t B (dk v)), .long (mk9 v), .int (nI (16 * wbN v)), .int (nI (8 * wbN v)), .ref bk, .ref sa, .ref sc, .ref ma, .int (nI fl), .long (lN tt), .long (lN mt)], cj B sa 8 S, cb B ta tn (wrS v S o at_ (min (k * wbN v + r) n))] [(0, .ref a), (1, .ref ta), (2, .int (nI at_)), (3, .int (nI n)), (4, .int (nI (min (k * wbN v + r) n))), (5, .int (nI k)), (6, .int (nI (8 * wbN v - 8 * r) - nI 8))] 22 []
      refine g_lve [(0, .ref a), (1, .ref ta), (2, .int (nI at_)), (3, .int (nI n)), (4, .int (nI (min (k * wbN v + r) n))), (5, .int (nI k)), (6, .int (nI (8 * wbN v - 8 * r - 8)))] (by rw [pk_sub (by omega)]) ?_
      refine g_iload (pc := 22) X d_H_writeState_22 rfl ?_
      refine g_if_ltN (pc := 24) X (tgt := 60) d_H_writeState_24 (by decide) (by omega) ?_
      refine g_iload (pc := 27) X d_H_writeState_27 rfl ?_
      refine g_iload_n (pc := 29) X (i := 3) d_H_writeState_29 rfl rfl ?_
      refine g_icmp_geN (pc := 30) X (tgt := 60) d_H_writeState_30 (by decide) (by omega) (by omega) (fun h_30 => ?_) (fun h_30 => ?_)
      · refine g_iincN (pc := 60) X (a := k) (k + 1) d_H_writeState_60 rfl 1 rfl (by omega) (by decide) ?_
        refine g_lv [(0, .ref a), (1, .ref ta), (2, .int (nI at_)), (3, .int (nI n)), (4, .int (nI (min (k * wbN v + r) n))), (5, .int (nI (k + 1))), (6, .int (nI (8 * wbN v - 8 * r - 8)))] rfl ?_
        refine g_goto (pc := 63) X (tgt := 6) d_H_writeState_63 (by decide) ?_
        refine g_lv [(0, .ref a), (1, .ref ta), (2, .int (nI at_)), (3, .int (nI n)), (4, .int (nI (min (k * wbN v + r) n))), (5, .int (nI (k + 1)))] rfl ?_
        refine g_lve [(0, .ref a), (1, .ref ta), (2, .int (nI at_)), (3, .int (nI n)), (4, .int (nI (min ((k + 1) * wbN v) n))), (5, .int (nI (k + 1)))] (by first | rw [show min (k * wbN v + r) n = min ((k + 1) * wbN v) n by omega] | rw [show min (k * wbN v + wbN v) n = min ((k + 1) * wbN v) n by omega]) ?_
        refine g_wsq [co a 0 [.int (nI (wbN v)), .int (nI (8 * wbN v)), .int (nI (rdN v)), .ref (b_t B (dk v)), .long (mk9 v), .int (nI (16 * wbN v)), .int (nI (8 * wbN v)), .ref bk, .ref sa, .ref sc, .ref ma, .int (nI fl), .long (lN tt), .long (lN mt)], cj B sa 8 S, cb B ta tn (wrS v S o at_ (min ((k + 1) * wbN v) n))] (by first | rw [show min (k * wbN v + r) n = min ((k + 1) * wbN v) n by omega] | rw [show min (k * wbN v + wbN v) n = min ((k + 1) * wbN v) n by omega]) ?_
        exact kk6
      · refine g_aload_n (pc := 33) X (i := 1) d_H_writeState_33 rfl rfl ?_
        refine g_iload_n (pc := 34) X (i := 2) d_H_writeState_34 rfl rfl ?_
        refine g_iload (pc := 35) X d_H_writeState_35 rfl ?_
        refine g_iaddN (pc := 37) X (at_ + (min (k * wbN v + r) n)) (by omega) d_H_writeState_37 ?_
        refine g_aload_n (pc := 38) X (i := 0) d_H_writeState_38 rfl rfl ?_
        refine g_get (pc := 39) X in_H 0 rfl rfl 8 (by decide) wd_84 rfl d_H_writeState_39 ?_
        refine g_iload (pc := 42) X d_H_writeState_42 rfl ?_
        refine g_lald (pc := 44) X 1 rfl k rfl (by omega) (by omega) d_H_writeState_44 ?_
        refine g_iload (pc := 45) X d_H_writeState_45 rfl ?_
        refine g_lushr (pc := 47) X (v := lush (S k) (nI (8 * wbN v - 8 * r - 8))) d_H_writeState_47 rfl ?_
        refine g_l2i (pc := 48) X d_H_writeState_48 rfl ?_
        refine g_i2b (pc := 49) X d_H_writeState_49 rfl ?_
        refine g_bastB (pc := 50) X 2 rfl (at_ + (min (k * wbN v + r) n)) rfl (by omega) (by omega) d_H_writeState_50 ?_
        refine g_wsq [co a 0 [.int (nI (wbN v)), .int (nI (8 * wbN v)), .int (nI (rdN v)), .ref (b_t B (dk v)), .long (mk9 v), .int (nI (16 * wbN v)), .int (nI (8 * wbN v)), .ref bk, .ref sa, .ref sc, .ref ma, .int (nI fl), .long (lN tt), .long (lN mt)], cj B sa 8 S, cb B ta tn (va_up (wrS v S o at_ (min (k * wbN v + r) n)) (at_ + (min (k * wbN v + r) n)) (((lush (S k) (nI (8 * wbN v - 8 * r - 8))).toInt32).toInt8))] rfl ?_
        refine g_iincN (pc := 51) X (a := min (k * wbN v + r) n) (min (k * wbN v + r) n + 1) d_H_writeState_51 rfl 1 rfl (by omega) (by decide) ?_
        refine g_lv [(0, .ref a), (1, .ref ta), (2, .int (nI at_)), (3, .int (nI n)), (4, .int (nI (min (k * wbN v + r) n + 1))), (5, .int (nI k)), (6, .int (nI (8 * wbN v - 8 * r - 8)))] rfl ?_
        refine g_iinc (pc := 54) X (k9 := (-8)) d_H_writeState_54 rfl (by decide) (by decide) ?_
        refine g_lv [(0, .ref a), (1, .ref ta), (2, .int (nI at_)), (3, .int (nI n)), (4, .int (nI (min (k * wbN v + r) n + 1))), (5, .int (nI k)), (6, .int ((nI (8 * wbN v - 8 * r - 8)) + (-8)))] rfl ?_
        refine g_goto (pc := 57) X (tgt := 22) d_H_writeState_57 (by decide) ?_
        refine g_lv [(0, .ref a), (1, .ref ta), (2, .int (nI at_)), (3, .int (nI n)), (4, .int (nI (min (k * wbN v + r) n + 1))), (5, .int (nI k)), (6, .int ((nI (8 * wbN v - 8 * r - 8)) + (-8)))] rfl ?_
        refine g_lve [(0, .ref a), (1, .ref ta), (2, .int (nI at_)), (3, .int (nI n)), (4, .int (nI (min (k * wbN v + (r + 1)) n))), (5, .int (nI k)), (6, .int (nI (8 * wbN v - 8 * (r + 1)) - nI 8))] (by rw [show min (k * wbN v + (r + 1)) n = min (k * wbN v + r) n + 1 by omega, show 8 * wbN v - 8 * (r + 1) = 8 * wbN v - 8 * r - 8 by omega, Int32.sub_eq_add_neg]; rfl) ?_
        refine g_wsq [co a 0 [.int (nI (wbN v)), .int (nI (8 * wbN v)), .int (nI (rdN v)), .ref (b_t B (dk v)), .long (mk9 v), .int (nI (16 * wbN v)), .int (nI (8 * wbN v)), .ref bk, .ref sa, .ref sc, .ref ma, .int (nI fl), .long (lN tt), .long (lN mt)], cj B sa 8 S, cb B ta tn (wrS v S o at_ (min (k * wbN v + (r + 1)) n))] (by rw [show min (k * wbN v + (r + 1)) n = min (k * wbN v + r) n + 1 by omega, ← wrS_s, show min (k * wbN v + r) n = k * wbN v + r by omega, stB_at v S k r (by omega)]) ?_
        exact kk22
    · show G B M 7 0 0 Q [co a 0 [.int (nI (wbN v)), .int (nI (8 * wbN v)), .int (nI (rdN v)), .ref (b_t B (dk v)), .long (mk9 v), .int (nI (16 * wbN v)), .int (nI (8 * wbN v)), .ref bk, .ref sa, .ref sc, .ref ma, .int (nI fl), .long (lN tt), .long (lN mt)], cj B sa 8 S, cb B ta tn (wrS v S o at_ (min (k * wbN v + (wbN v)) n))] [(0, .ref a), (1, .ref ta), (2, .int (nI at_)), (3, .int (nI n)), (4, .int (nI (min (k * wbN v + (wbN v)) n))), (5, .int (nI k)), (6, .int (nI (8 * wbN v - 8 * (wbN v)) - nI 8))] 22 []
      refine g_iload (pc := 22) X d_H_writeState_22 rfl ?_
      refine g_if_lt (pc := 24) X (tgt := 60) d_H_writeState_24 (by decide) (fun hz => ?_) (fun hz => absurd (pk_sneg (by omega) (by omega)) hz)
      refine g_iincN (pc := 60) X (a := k) (k + 1) d_H_writeState_60 rfl 1 rfl (by omega) (by decide) ?_
      refine g_lv [(0, .ref a), (1, .ref ta), (2, .int (nI at_)), (3, .int (nI n)), (4, .int (nI (min (k * wbN v + (wbN v)) n))), (5, .int (nI (k + 1))), (6, .int (nI (8 * wbN v - 8 * (wbN v)) - nI 8))] rfl ?_
      refine g_goto (pc := 63) X (tgt := 6) d_H_writeState_63 (by decide) ?_
      refine g_lv [(0, .ref a), (1, .ref ta), (2, .int (nI at_)), (3, .int (nI n)), (4, .int (nI (min (k * wbN v + (wbN v)) n))), (5, .int (nI (k + 1)))] rfl ?_
      refine g_lve [(0, .ref a), (1, .ref ta), (2, .int (nI at_)), (3, .int (nI n)), (4, .int (nI (min ((k + 1) * wbN v) n))), (5, .int (nI (k + 1)))] (by first | rw [show min (k * wbN v + r) n = min ((k + 1) * wbN v) n by omega] | rw [show min (k * wbN v + wbN v) n = min ((k + 1) * wbN v) n by omega]) ?_
      refine g_wsq [co a 0 [.int (nI (wbN v)), .int (nI (8 * wbN v)), .int (nI (rdN v)), .ref (b_t B (dk v)), .long (mk9 v), .int (nI (16 * wbN v)), .int (nI (8 * wbN v)), .ref bk, .ref sa, .ref sc, .ref ma, .int (nI fl), .long (lN tt), .long (lN mt)], cj B sa 8 S, cb B ta tn (wrS v S o at_ (min ((k + 1) * wbN v) n))] (by first | rw [show min (k * wbN v + r) n = min ((k + 1) * wbN v) n by omega] | rw [show min (k * wbN v + wbN v) n = min ((k + 1) * wbN v) n by omega]) ?_
      exact kk6
  · show G B M 7 0 0 Q [co a 0 [.int (nI (wbN v)), .int (nI (8 * wbN v)), .int (nI (rdN v)), .ref (b_t B (dk v)), .long (mk9 v), .int (nI (16 * wbN v)), .int (nI (8 * wbN v)), .ref bk, .ref sa, .ref sc, .ref ma, .int (nI fl), .long (lN tt), .long (lN mt)], cj B sa 8 S, cb B ta tn (wrS v S o at_ (min (8 * wbN v) n))] [(0, .ref a), (1, .ref ta), (2, .int (nI at_)), (3, .int (nI n)), (4, .int (nI (min (8 * wbN v) n))), (5, .int (nI 8))] 6 []
    refine g_iload (pc := 6) X d_H_writeState_6 rfl ?_
    refine g_bipush (pc := 8) X (v := nI 8) d_H_writeState_8 (by decide) ?_
    refine g_icmp_geN (pc := 10) X (tgt := 66) d_H_writeState_10 (by decide) (by omega) (by omega) (fun h_10 => ?_) (fun h_10 => absurd h_10 (by omega))
    refine g_wsq [co a 0 [.int (nI (wbN v)), .int (nI (8 * wbN v)), .int (nI (rdN v)), .ref (b_t B (dk v)), .long (mk9 v), .int (nI (16 * wbN v)), .int (nI (8 * wbN v)), .ref bk, .ref sa, .ref sc, .ref ma, .int (nI fl), .long (lN tt), .long (lN mt)], cj B sa 8 S, cb B ta tn (wrS v S o at_ n)] (by rw [show min (8 * wbN v) n = n by omega]) ?_
    exact kret () _ 66 trivial d_H_writeState_66
