theorem c_H_rotr (l : Launch) (B : Bx) (v : Bool) (a : Nat) (bk : Nat) (sa : Nat) (sc : Nat) (ma : Nat) (fl : Nat) (tt : Nat) (mt : Nat) (x : Int64) (n : Int32)  : Cl (S := Unit) l B y_H_rotr b_H_rotr 4 (Rm 1 0 0) [.ref a, .long x, .int n] [co a 0 [.int (nI (wbN v)), .int (nI (8 * wbN v)), .int (nI (rdN v)), .ref (b_t B (dk v)), .long (mk9 v), .int (nI (16 * wbN v)), .int (nI (8 * wbN v)), .ref bk, .ref sa, .ref sc, .ref ma, .int (nI fl), .long (lN tt), .long (lN mt)]] (fun r _ => r = rotrC v x n) (fun _ => [co a 0 [.int (nI (wbN v)), .int (nI (8 * wbN v)), .int (nI (rdN v)), .ref (b_t B (dk v)), .long (mk9 v), .int (nI (16 * wbN v)), .int (nI (8 * wbN v)), .ref bk, .ref sa, .ref sc, .ref ma, .int (nI fl), .long (lN tt), .long (lN mt)]]) := by
  refine ctr_l (by decide) (Nat.le_of_ble_eq_true rfl) ?_
  intro M Q hl hR hin X kret
  subst hl
  have hv := vf v
  refine g_lv [(0, .ref a), (1, .long x), (3, .int n)] rfl ?_
  refine g_lload_n (pc := 0) X (i := 1) d_H_rotr_0 rfl rfl ?_
  refine g_iload_n (pc := 1) X (i := 3) d_H_rotr_1 rfl rfl ?_
  refine g_lushr (pc := 2) X (v := lush x n) d_H_rotr_2 rfl ?_
  refine g_lload_n (pc := 3) X (i := 1) d_H_rotr_3 rfl rfl ?_
  refine g_aload_n (pc := 4) X (i := 0) d_H_rotr_4 rfl rfl ?_
  refine g_get (pc := 5) X in_H 0 rfl rfl 1 (by decide) wd_75 rfl d_H_rotr_5 ?_
  refine g_iload_n (pc := 8) X (i := 3) d_H_rotr_8 rfl rfl ?_
  refine g_isub (pc := 9) X d_H_rotr_9 ?_
  refine g_lshl (pc := 10) X (v := lshl x ((nI (8 * wbN v)) - n)) d_H_rotr_10 rfl ?_
  refine g_lor (pc := 11) X d_H_rotr_11 ?_
  refine g_aload_n (pc := 12) X (i := 0) d_H_rotr_12 rfl rfl ?_
  refine g_get (pc := 13) X in_H 0 rfl rfl 4 (by decide) wd_78 rfl d_H_rotr_13 ?_
  refine g_land (pc := 16) X d_H_rotr_16 ?_
  exact kret _ () _ 17 rfl d_H_rotr_17

theorem c_H_threeTurns (l : Launch) (B : Bx) (v : Bool) (a : Nat) (bk : Nat) (sa : Nat) (sc : Nat) (ma : Nat) (fl : Nat) (tt : Nat) (mt : Nat) (x : Int64) (at_ : Nat) (h1 : at_ + 3 ≤ 12) : Cl (S := Unit) l B y_H_threeTurns b_H_threeTurns 4 (Rm 2 0 0) [.ref a, .long x, .int (nI at_)] [co a 0 [.int (nI (wbN v)), .int (nI (8 * wbN v)), .int (nI (rdN v)), .ref (b_t B (dk v)), .long (mk9 v), .int (nI (16 * wbN v)), .int (nI (8 * wbN v)), .ref bk, .ref sa, .ref sc, .ref ma, .int (nI fl), .long (lN tt), .long (lN mt)]] (fun r _ => r = thr v x at_) (fun _ => [co a 0 [.int (nI (wbN v)), .int (nI (8 * wbN v)), .int (nI (rdN v)), .ref (b_t B (dk v)), .long (mk9 v), .int (nI (16 * wbN v)), .int (nI (8 * wbN v)), .ref bk, .ref sa, .ref sc, .ref ma, .int (nI fl), .long (lN tt), .long (lN mt)]]) := by
  refine ctr_l (by decide) (Nat.le_of_ble_eq_true rfl) ?_
  intro M Q hl hR hin X kret
  subst hl
  have hv := vf v
  refine g_lv [(0, .ref a), (1, .long x), (3, .int (nI at_))] rfl ?_
  refine g_aload_n (pc := 0) X (i := 0) d_H_threeTurns_0 rfl rfl ?_
  refine g_lload_n (pc := 1) X (i := 1) d_H_threeTurns_1 rfl rfl ?_
  refine g_aload_n (pc := 2) X (i := 0) d_H_threeTurns_2 rfl rfl ?_
  refine g_get (pc := 3) X in_H 0 rfl rfl 3 (by decide) wd_77 rfl d_H_threeTurns_3 ?_
  refine g_iload_n (pc := 6) X (i := 3) d_H_threeTurns_6 rfl rfl ?_
  refine g_ti (pc := 7) X (dk v) (dk_lt v) (dk_ty v) at_ rfl (by rw [sN_dk]; omega) d_H_threeTurns_7 ?_
  refine g_callVl (pc := 8) (q0 := 0) X (c_H_rotr (m_l M) B v a bk sa sc ma fl tt mt x (s_i (dk v) at_) ) wd_624 wd_626 wp_H_rotr wd_4 wd_627 hd_H_rotr [0] rfl rfl [a] (fun _ => rfl) rfl rfl rfl (by rw [hR]; decide) (by rw [hR]; decide) rfl (Nat.le_of_ble_eq_true rfl) d_H_threeTurns_8 (fun r9 _ hr9 => ?_)
  subst hr9
  refine g_wsq [co a 0 [.int (nI (wbN v)), .int (nI (8 * wbN v)), .int (nI (rdN v)), .ref (b_t B (dk v)), .long (mk9 v), .int (nI (16 * wbN v)), .int (nI (8 * wbN v)), .ref bk, .ref sa, .ref sc, .ref ma, .int (nI fl), .long (lN tt), .long (lN mt)]] rfl ?_
  refine g_aload_n (pc := 11) X (i := 0) d_H_threeTurns_11 rfl rfl ?_
  refine g_lload_n (pc := 12) X (i := 1) d_H_threeTurns_12 rfl rfl ?_
  refine g_aload_n (pc := 13) X (i := 0) d_H_threeTurns_13 rfl rfl ?_
  refine g_get (pc := 14) X in_H 0 rfl rfl 3 (by decide) wd_77 rfl d_H_threeTurns_14 ?_
  refine g_iload_n (pc := 17) X (i := 3) d_H_threeTurns_17 rfl rfl ?_
  refine g_iconst (pc := 18) X (v := nI 1) d_H_threeTurns_18 (by decide) ?_
  refine g_iaddN (pc := 19) X (at_ + 1) (by omega) d_H_threeTurns_19 ?_
  refine g_ti (pc := 20) X (dk v) (dk_lt v) (dk_ty v) (at_ + 1) rfl (by rw [sN_dk]; omega) d_H_threeTurns_20 ?_
  refine g_callVl (pc := 21) (q0 := 0) X (c_H_rotr (m_l M) B v a bk sa sc ma fl tt mt x (s_i (dk v) (at_ + 1)) ) wd_624 wd_626 wp_H_rotr wd_4 wd_627 hd_H_rotr [0] rfl rfl [a] (fun _ => rfl) rfl rfl rfl (by rw [hR]; decide) (by rw [hR]; decide) rfl (Nat.le_of_ble_eq_true rfl) d_H_threeTurns_21 (fun r9 _ hr9 => ?_)
  subst hr9
  refine g_wsq [co a 0 [.int (nI (wbN v)), .int (nI (8 * wbN v)), .int (nI (rdN v)), .ref (b_t B (dk v)), .long (mk9 v), .int (nI (16 * wbN v)), .int (nI (8 * wbN v)), .ref bk, .ref sa, .ref sc, .ref ma, .int (nI fl), .long (lN tt), .long (lN mt)]] rfl ?_
  refine g_lxor (pc := 24) X d_H_threeTurns_24 ?_
  refine g_aload_n (pc := 25) X (i := 0) d_H_threeTurns_25 rfl rfl ?_
  refine g_lload_n (pc := 26) X (i := 1) d_H_threeTurns_26 rfl rfl ?_
  refine g_aload_n (pc := 27) X (i := 0) d_H_threeTurns_27 rfl rfl ?_
  refine g_get (pc := 28) X in_H 0 rfl rfl 3 (by decide) wd_77 rfl d_H_threeTurns_28 ?_
  refine g_iload_n (pc := 31) X (i := 3) d_H_threeTurns_31 rfl rfl ?_
  refine g_iconst (pc := 32) X (v := nI 2) d_H_threeTurns_32 (by decide) ?_
  refine g_iaddN (pc := 33) X (at_ + 2) (by omega) d_H_threeTurns_33 ?_
  refine g_ti (pc := 34) X (dk v) (dk_lt v) (dk_ty v) (at_ + 2) rfl (by rw [sN_dk]; omega) d_H_threeTurns_34 ?_
  refine g_callVl (pc := 35) (q0 := 0) X (c_H_rotr (m_l M) B v a bk sa sc ma fl tt mt x (s_i (dk v) (at_ + 2)) ) wd_624 wd_626 wp_H_rotr wd_4 wd_627 hd_H_rotr [0] rfl rfl [a] (fun _ => rfl) rfl rfl rfl (by rw [hR]; decide) (by rw [hR]; decide) rfl (Nat.le_of_ble_eq_true rfl) d_H_threeTurns_35 (fun r9 _ hr9 => ?_)
  subst hr9
  refine g_wsq [co a 0 [.int (nI (wbN v)), .int (nI (8 * wbN v)), .int (nI (rdN v)), .ref (b_t B (dk v)), .long (mk9 v), .int (nI (16 * wbN v)), .int (nI (8 * wbN v)), .ref bk, .ref sa, .ref sc, .ref ma, .int (nI fl), .long (lN tt), .long (lN mt)]] rfl ?_
  refine g_lxor (pc := 38) X d_H_threeTurns_38 ?_
  exact kret _ () _ 39 rfl d_H_threeTurns_39

theorem c_H_twoTurnsAndShift (l : Launch) (B : Bx) (v : Bool) (a : Nat) (bk : Nat) (sa : Nat) (sc : Nat) (ma : Nat) (fl : Nat) (tt : Nat) (mt : Nat) (x : Int64) (at_ : Nat) (h1 : at_ + 3 ≤ 12) : Cl (S := Unit) l B y_H_twoTurnsAndShift b_H_twoTurnsAndShift 4 (Rm 2 0 0) [.ref a, .long x, .int (nI at_)] [co a 0 [.int (nI (wbN v)), .int (nI (8 * wbN v)), .int (nI (rdN v)), .ref (b_t B (dk v)), .long (mk9 v), .int (nI (16 * wbN v)), .int (nI (8 * wbN v)), .ref bk, .ref sa, .ref sc, .ref ma, .int (nI fl), .long (lN tt), .long (lN mt)]] (fun r _ => r = tws v x at_) (fun _ => [co a 0 [.int (nI (wbN v)), .int (nI (8 * wbN v)), .int (nI (rdN v)), .ref (b_t B (dk v)), .long (mk9 v), .int (nI (16 * wbN v)), .int (nI (8 * wbN v)), .ref bk, .ref sa, .ref sc, .ref ma, .int (nI fl), .long (lN tt), .long (lN mt)]]) := by
  refine ctr_l (by decide) (Nat.le_of_ble_eq_true rfl) ?_
  intro M Q hl hR hin X kret
  subst hl
  have hv := vf v
  refine g_lv [(0, .ref a), (1, .long x), (3, .int (nI at_))] rfl ?_
  refine g_aload_n (pc := 0) X (i := 0) d_H_twoTurnsAndShift_0 rfl rfl ?_
  refine g_lload_n (pc := 1) X (i := 1) d_H_twoTurnsAndShift_1 rfl rfl ?_
  refine g_aload_n (pc := 2) X (i := 0) d_H_twoTurnsAndShift_2 rfl rfl ?_
  refine g_get (pc := 3) X in_H 0 rfl rfl 3 (by decide) wd_77 rfl d_H_twoTurnsAndShift_3 ?_
  refine g_iload_n (pc := 6) X (i := 3) d_H_twoTurnsAndShift_6 rfl rfl ?_
  refine g_ti (pc := 7) X (dk v) (dk_lt v) (dk_ty v) at_ rfl (by rw [sN_dk]; omega) d_H_twoTurnsAndShift_7 ?_
  refine g_callVl (pc := 8) (q0 := 0) X (c_H_rotr (m_l M) B v a bk sa sc ma fl tt mt x (s_i (dk v) at_) ) wd_624 wd_626 wp_H_rotr wd_4 wd_627 hd_H_rotr [0] rfl rfl [a] (fun _ => rfl) rfl rfl rfl (by rw [hR]; decide) (by rw [hR]; decide) rfl (Nat.le_of_ble_eq_true rfl) d_H_twoTurnsAndShift_8 (fun r9 _ hr9 => ?_)
  subst hr9
  refine g_wsq [co a 0 [.int (nI (wbN v)), .int (nI (8 * wbN v)), .int (nI (rdN v)), .ref (b_t B (dk v)), .long (mk9 v), .int (nI (16 * wbN v)), .int (nI (8 * wbN v)), .ref bk, .ref sa, .ref sc, .ref ma, .int (nI fl), .long (lN tt), .long (lN mt)]] rfl ?_
  refine g_aload_n (pc := 11) X (i := 0) d_H_twoTurnsAndShift_11 rfl rfl ?_
  refine g_lload_n (pc := 12) X (i := 1) d_H_twoTurnsAndShift_12 rfl rfl ?_
  refine g_aload_n (pc := 13) X (i := 0) d_H_twoTurnsAndShift_13 rfl rfl ?_
  refine g_get (pc := 14) X in_H 0 rfl rfl 3 (by decide) wd_77 rfl d_H_twoTurnsAndShift_14 ?_
  refine g_iload_n (pc := 17) X (i := 3) d_H_twoTurnsAndShift_17 rfl rfl ?_
  refine g_iconst (pc := 18) X (v := nI 1) d_H_twoTurnsAndShift_18 (by decide) ?_
  refine g_iaddN (pc := 19) X (at_ + 1) (by omega) d_H_twoTurnsAndShift_19 ?_
  refine g_ti (pc := 20) X (dk v) (dk_lt v) (dk_ty v) (at_ + 1) rfl (by rw [sN_dk]; omega) d_H_twoTurnsAndShift_20 ?_
  refine g_callVl (pc := 21) (q0 := 0) X (c_H_rotr (m_l M) B v a bk sa sc ma fl tt mt x (s_i (dk v) (at_ + 1)) ) wd_624 wd_626 wp_H_rotr wd_4 wd_627 hd_H_rotr [0] rfl rfl [a] (fun _ => rfl) rfl rfl rfl (by rw [hR]; decide) (by rw [hR]; decide) rfl (Nat.le_of_ble_eq_true rfl) d_H_twoTurnsAndShift_21 (fun r9 _ hr9 => ?_)
  subst hr9
  refine g_wsq [co a 0 [.int (nI (wbN v)), .int (nI (8 * wbN v)), .int (nI (rdN v)), .ref (b_t B (dk v)), .long (mk9 v), .int (nI (16 * wbN v)), .int (nI (8 * wbN v)), .ref bk, .ref sa, .ref sc, .ref ma, .int (nI fl), .long (lN tt), .long (lN mt)]] rfl ?_
  refine g_lxor (pc := 24) X d_H_twoTurnsAndShift_24 ?_
  refine g_lload_n (pc := 25) X (i := 1) d_H_twoTurnsAndShift_25 rfl rfl ?_
  refine g_aload_n (pc := 26) X (i := 0) d_H_twoTurnsAndShift_26 rfl rfl ?_
  refine g_get (pc := 27) X in_H 0 rfl rfl 3 (by decide) wd_77 rfl d_H_twoTurnsAndShift_27 ?_
  refine g_iload_n (pc := 30) X (i := 3) d_H_twoTurnsAndShift_30 rfl rfl ?_
  refine g_iconst (pc := 31) X (v := nI 2) d_H_twoTurnsAndShift_31 (by decide) ?_
  refine g_iaddN (pc := 32) X (at_ + 2) (by omega) d_H_twoTurnsAndShift_32 ?_
  refine g_ti (pc := 33) X (dk v) (dk_lt v) (dk_ty v) (at_ + 2) rfl (by rw [sN_dk]; omega) d_H_twoTurnsAndShift_33 ?_
  refine g_lushr (pc := 34) X (v := lush x (s_i (dk v) (at_ + 2))) d_H_twoTurnsAndShift_34 rfl ?_
  refine g_lxor (pc := 35) X d_H_twoTurnsAndShift_35 ?_
  exact kret _ () _ 36 rfl d_H_twoTurnsAndShift_36

theorem c_H_fillSchedule (l : Launch) (B : Bx) (v : Bool) (a : Nat) (bk : Nat) (sa : Nat) (sc : Nat) (ma : Nat) (fl : Nat) (tt : Nat) (mt : Nat) (g : Nat → Int8) (w : Nat → Int64)  : Cv (S := Unit) l B y_H_fillSchedule b_H_fillSchedule 6 (Rm 3 0 0) [.ref a] [co a 0 [.int (nI (wbN v)), .int (nI (8 * wbN v)), .int (nI (rdN v)), .ref (b_t B (dk v)), .long (mk9 v), .int (nI (16 * wbN v)), .int (nI (8 * wbN v)), .ref bk, .ref sa, .ref sc, .ref ma, .int (nI fl), .long (lN tt), .long (lN mt)], cb B bk (16 * wbN v) g, cj B sc (rdN v) w] (fun _ => True) (fun _ => [co a 0 [.int (nI (wbN v)), .int (nI (8 * wbN v)), .int (nI (rdN v)), .ref (b_t B (dk v)), .long (mk9 v), .int (nI (16 * wbN v)), .int (nI (8 * wbN v)), .ref bk, .ref sa, .ref sc, .ref ma, .int (nI fl), .long (lN tt), .long (lN mt)], cb B bk (16 * wbN v) g, cj B sc (rdN v) (schC v g w)]) := by
  refine ctr_v (by decide) (Nat.le_of_ble_eq_true rfl) ?_
  intro M Q hl hR hin X kret
  subst hl
  have hv := vf v
  refine g_lv [(0, .ref a)] rfl ?_
  refine g_iconst (pc := 0) X (v := nI 0) d_H_fillSchedule_0 (by decide) ?_
  refine g_istore_n (pc := 1) X (i := 1) d_H_fillSchedule_1 rfl (by decide) ?_
  refine g_lv [(0, .ref a), (1, .int (nI 0))] rfl ?_
  refine g_lv [(0, .ref a), (1, .int (nI 0))] rfl ?_
  refine loopF (σ := Nat → Int64) (sc1F v g) (fun k s => G B M 6 0 0 Q [co a 0 [.int (nI (wbN v)), .int (nI (8 * wbN v)), .int (nI (rdN v)), .ref (b_t B (dk v)), .long (mk9 v), .int (nI (16 * wbN v)), .int (nI (8 * wbN v)), .ref bk, .ref sa, .ref sc, .ref ma, .int (nI fl), .long (lN tt), .long (lN mt)], cb B bk (16 * wbN v) g, cj B sc (rdN v) s] [(0, .ref a), (1, .int (nI k))] 2 []) 16 w ?_ ?_
  · intro k s hk2 kk2
    show G B M 6 0 0 Q [co a 0 [.int (nI (wbN v)), .int (nI (8 * wbN v)), .int (nI (rdN v)), .ref (b_t B (dk v)), .long (mk9 v), .int (nI (16 * wbN v)), .int (nI (8 * wbN v)), .ref bk, .ref sa, .ref sc, .ref ma, .int (nI fl), .long (lN tt), .long (lN mt)], cb B bk (16 * wbN v) g, cj B sc (rdN v) s] [(0, .ref a), (1, .int (nI k))] 2 []
    refine g_iload_n (pc := 2) X (i := 1) d_H_fillSchedule_2 rfl rfl ?_
    refine g_bipush (pc := 3) X (v := nI 16) d_H_fillSchedule_3 (by decide) ?_
    refine g_icmp_geN (pc := 5) X (tgt := 66) d_H_fillSchedule_5 (by decide) (by omega) (by omega) (fun h_5 => absurd h_5 (by omega)) (fun h_5 => ?_)
    refine g_lconst (pc := 8) X (v := 0) d_H_fillSchedule_8 (by decide) ?_
    refine g_lstore_n (pc := 9) X (i := 2) d_H_fillSchedule_9 rfl (by decide) ?_
    refine g_lv [(0, .ref a), (1, .int (nI k)), (2, .long 0)] rfl ?_
    refine g_iconst (pc := 10) X (v := nI 0) d_H_fillSchedule_10 (by decide) ?_
    refine g_istore (pc := 11) X d_H_fillSchedule_11 (by decide) ?_
    refine g_lv [(0, .ref a), (1, .int (nI k)), (2, .long 0), (4, .int (nI 0))] rfl ?_
    refine g_lv [(0, .ref a), (1, .int (nI k)), (2, .long 0), (4, .int (nI 0))] rfl ?_
    refine loopF (σ := Int64) (wdF v g k) (fun r z => G B M 6 0 0 Q [co a 0 [.int (nI (wbN v)), .int (nI (8 * wbN v)), .int (nI (rdN v)), .ref (b_t B (dk v)), .long (mk9 v), .int (nI (16 * wbN v)), .int (nI (8 * wbN v)), .ref bk, .ref sa, .ref sc, .ref ma, .int (nI fl), .long (lN tt), .long (lN mt)], cb B bk (16 * wbN v) g, cj B sc (rdN v) s] [(0, .ref a), (1, .int (nI k)), (2, .long z), (4, .int (nI r))] 13 []) (wbN v) 0 ?_ ?_
    · intro r z hk13 kk13
      have hb : k * wbN v + r < 16 * wbN v := mul_lt (by assumption) (by assumption)
      show G B M 6 0 0 Q [co a 0 [.int (nI (wbN v)), .int (nI (8 * wbN v)), .int (nI (rdN v)), .ref (b_t B (dk v)), .long (mk9 v), .int (nI (16 * wbN v)), .int (nI (8 * wbN v)), .ref bk, .ref sa, .ref sc, .ref ma, .int (nI fl), .long (lN tt), .long (lN mt)], cb B bk (16 * wbN v) g, cj B sc (rdN v) s] [(0, .ref a), (1, .int (nI k)), (2, .long z), (4, .int (nI r))] 13 []
      refine g_iload (pc := 13) X d_H_fillSchedule_13 rfl ?_
      refine g_aload_n (pc := 15) X (i := 0) d_H_fillSchedule_15 rfl rfl ?_
      refine g_get (pc := 16) X in_H 0 rfl rfl 0 (by decide) wd_74 rfl d_H_fillSchedule_16 ?_
      refine g_icmp_geN (pc := 19) X (tgt := 53) d_H_fillSchedule_19 (by decide) (by omega) (by omega) (fun h_19 => absurd h_19 (by omega)) (fun h_19 => ?_)
      refine g_lload_n (pc := 22) X (i := 2) d_H_fillSchedule_22 rfl rfl ?_
      refine g_bipush (pc := 23) X (v := nI 8) d_H_fillSchedule_23 (by decide) ?_
      refine g_lshl (pc := 25) X (v := lshl z (nI 8)) d_H_fillSchedule_25 rfl ?_
      refine g_aload_n (pc := 26) X (i := 0) d_H_fillSchedule_26 rfl rfl ?_
      refine g_get (pc := 27) X in_H 0 rfl rfl 7 (by decide) wd_83 rfl d_H_fillSchedule_27 ?_
      refine g_iload_n (pc := 30) X (i := 1) d_H_fillSchedule_30 rfl rfl ?_
      refine g_aload_n (pc := 31) X (i := 0) d_H_fillSchedule_31 rfl rfl ?_
      refine g_get (pc := 32) X in_H 0 rfl rfl 0 (by decide) wd_74 rfl d_H_fillSchedule_32 ?_
      refine g_imulN (pc := 35) X (k * (wbN v)) rfl d_H_fillSchedule_35 ?_
      refine g_iload (pc := 36) X d_H_fillSchedule_36 rfl ?_
      refine g_iaddN (pc := 38) X (k * (wbN v) + r) (by omega) d_H_fillSchedule_38 ?_
      refine g_bald (pc := 39) X 1 rfl (k * (wbN v) + r) rfl (by omega) (by omega) d_H_fillSchedule_39 ?_
      refine g_sipush (pc := 40) X (v := nI 255) d_H_fillSchedule_40 (by decide) ?_
      refine g_iand (pc := 43) X d_H_fillSchedule_43 ?_
      refine g_i2l (pc := 44) X d_H_fillSchedule_44 rfl ?_
      refine g_lor (pc := 45) X d_H_fillSchedule_45 ?_
      refine g_lstore_n (pc := 46) X (i := 2) d_H_fillSchedule_46 rfl (by decide) ?_
      refine g_lv [(0, .ref a), (1, .int (nI k)), (2, .long ((lshl z (nI 8)) ||| ((((g (k * (wbN v) + r)).toInt32) &&& (nI 255)).toInt64))), (4, .int (nI r))] rfl ?_
      refine g_iincN (pc := 47) X (a := r) (r + 1) d_H_fillSchedule_47 rfl 1 rfl (by omega) (by decide) ?_
      refine g_lv [(0, .ref a), (1, .int (nI k)), (2, .long ((lshl z (nI 8)) ||| ((((g (k * (wbN v) + r)).toInt32) &&& (nI 255)).toInt64))), (4, .int (nI (r + 1)))] rfl ?_
      refine g_goto (pc := 50) X (tgt := 13) d_H_fillSchedule_50 (by decide) ?_
      refine g_lv [(0, .ref a), (1, .int (nI k)), (2, .long ((lshl z (nI 8)) ||| ((((g (k * (wbN v) + r)).toInt32) &&& (nI 255)).toInt64))), (4, .int (nI (r + 1)))] rfl ?_
      exact kk13 _ (by unfold wdF ub; rfl)
    · show G B M 6 0 0 Q [co a 0 [.int (nI (wbN v)), .int (nI (8 * wbN v)), .int (nI (rdN v)), .ref (b_t B (dk v)), .long (mk9 v), .int (nI (16 * wbN v)), .int (nI (8 * wbN v)), .ref bk, .ref sa, .ref sc, .ref ma, .int (nI fl), .long (lN tt), .long (lN mt)], cb B bk (16 * wbN v) g, cj B sc (rdN v) s] [(0, .ref a), (1, .int (nI k)), (2, .long (it (wdF v g k) (wbN v) 0)), (4, .int (nI (wbN v)))] 13 []
      refine g_iload (pc := 13) X d_H_fillSchedule_13 rfl ?_
      refine g_aload_n (pc := 15) X (i := 0) d_H_fillSchedule_15 rfl rfl ?_
      refine g_get (pc := 16) X in_H 0 rfl rfl 0 (by decide) wd_74 rfl d_H_fillSchedule_16 ?_
      refine g_icmp_geN (pc := 19) X (tgt := 53) d_H_fillSchedule_19 (by decide) (by omega) (by omega) (fun h_19 => ?_) (fun h_19 => absurd h_19 (by omega))
      refine g_aload_n (pc := 53) X (i := 0) d_H_fillSchedule_53 rfl rfl ?_
      refine g_get (pc := 54) X in_H 0 rfl rfl 9 (by decide) wd_85 rfl d_H_fillSchedule_54 ?_
      refine g_iload_n (pc := 57) X (i := 1) d_H_fillSchedule_57 rfl rfl ?_
      refine g_lload_n (pc := 58) X (i := 2) d_H_fillSchedule_58 rfl rfl ?_
      refine g_last (pc := 59) X 2 rfl k rfl (by omega) (by omega) d_H_fillSchedule_59 ?_
      refine g_wsq [co a 0 [.int (nI (wbN v)), .int (nI (8 * wbN v)), .int (nI (rdN v)), .ref (b_t B (dk v)), .long (mk9 v), .int (nI (16 * wbN v)), .int (nI (8 * wbN v)), .ref bk, .ref sa, .ref sc, .ref ma, .int (nI fl), .long (lN tt), .long (lN mt)], cb B bk (16 * wbN v) g, cj B sc (rdN v) (va_up s k (it (wdF v g k) (wbN v) 0))] rfl ?_
      refine g_iincN (pc := 60) X (a := k) (k + 1) d_H_fillSchedule_60 rfl 1 rfl (by omega) (by decide) ?_
      refine g_lv [(0, .ref a), (1, .int (nI (k + 1))), (2, .long (it (wdF v g k) (wbN v) 0)), (4, .int (nI (wbN v)))] rfl ?_
      refine g_goto (pc := 63) X (tgt := 2) d_H_fillSchedule_63 (by decide) ?_
      refine g_lv [(0, .ref a), (1, .int (nI (k + 1)))] rfl ?_
      exact kk2 _ (by rfl)
  · show G B M 6 0 0 Q [co a 0 [.int (nI (wbN v)), .int (nI (8 * wbN v)), .int (nI (rdN v)), .ref (b_t B (dk v)), .long (mk9 v), .int (nI (16 * wbN v)), .int (nI (8 * wbN v)), .ref bk, .ref sa, .ref sc, .ref ma, .int (nI fl), .long (lN tt), .long (lN mt)], cb B bk (16 * wbN v) g, cj B sc (rdN v) (it (sc1F v g) 16 w)] [(0, .ref a), (1, .int (nI 16))] 2 []
    refine g_iload_n (pc := 2) X (i := 1) d_H_fillSchedule_2 rfl rfl ?_
    refine g_bipush (pc := 3) X (v := nI 16) d_H_fillSchedule_3 (by decide) ?_
    refine g_icmp_geN (pc := 5) X (tgt := 66) d_H_fillSchedule_5 (by decide) (by omega) (by omega) (fun h_5 => ?_) (fun h_5 => absurd h_5 (by omega))
    refine g_bipush (pc := 66) X (v := nI 16) d_H_fillSchedule_66 (by decide) ?_
    refine g_istore_n (pc := 68) X (i := 1) d_H_fillSchedule_68 rfl (by decide) ?_
    refine g_lv [(0, .ref a), (1, .int (nI 16))] rfl ?_
    refine g_lv [(0, .ref a), (1, .int (nI 16))] rfl ?_
    refine loopF (σ := Nat → Int64) (sc2F v) (fun k s => G B M 6 0 0 Q [co a 0 [.int (nI (wbN v)), .int (nI (8 * wbN v)), .int (nI (rdN v)), .ref (b_t B (dk v)), .long (mk9 v), .int (nI (16 * wbN v)), .int (nI (8 * wbN v)), .ref bk, .ref sa, .ref sc, .ref ma, .int (nI fl), .long (lN tt), .long (lN mt)], cb B bk (16 * wbN v) g, cj B sc (rdN v) s] [(0, .ref a), (1, .int (nI (k + 16)))] 69 []) (rdN v - 16) (it (sc1F v g) 16 w) ?_ ?_
    · intro k s hk69 kk69
      show G B M 6 0 0 Q [co a 0 [.int (nI (wbN v)), .int (nI (8 * wbN v)), .int (nI (rdN v)), .ref (b_t B (dk v)), .long (mk9 v), .int (nI (16 * wbN v)), .int (nI (8 * wbN v)), .ref bk, .ref sa, .ref sc, .ref ma, .int (nI fl), .long (lN tt), .long (lN mt)], cb B bk (16 * wbN v) g, cj B sc (rdN v) s] [(0, .ref a), (1, .int (nI (k + 16)))] 69 []
      refine g_iload_n (pc := 69) X (i := 1) d_H_fillSchedule_69 rfl rfl ?_
      refine g_aload_n (pc := 70) X (i := 0) d_H_fillSchedule_70 rfl rfl ?_
      refine g_get (pc := 71) X in_H 0 rfl rfl 2 (by decide) wd_76 rfl d_H_fillSchedule_71 ?_
      refine g_icmp_geN (pc := 74) X (tgt := 150) d_H_fillSchedule_74 (by decide) (by omega) (by omega) (fun h_74 => absurd h_74 (by omega)) (fun h_74 => ?_)
      refine g_aload_n (pc := 77) X (i := 0) d_H_fillSchedule_77 rfl rfl ?_
      refine g_aload_n (pc := 78) X (i := 0) d_H_fillSchedule_78 rfl rfl ?_
      refine g_get (pc := 79) X in_H 0 rfl rfl 9 (by decide) wd_85 rfl d_H_fillSchedule_79 ?_
      refine g_iload_n (pc := 82) X (i := 1) d_H_fillSchedule_82 rfl rfl ?_
      refine g_iconst (pc := 83) X (v := nI 2) d_H_fillSchedule_83 (by decide) ?_
      refine g_isubN (pc := 84) X (k + 14) (by omega) d_H_fillSchedule_84 ?_
      refine g_lald (pc := 85) X 2 rfl (k + 14) rfl (by omega) (by omega) d_H_fillSchedule_85 ?_
      refine g_bipush (pc := 86) X (v := nI 9) d_H_fillSchedule_86 (by decide) ?_
      refine g_callVl (pc := 88) (q0 := 0) X (c_H_twoTurnsAndShift (m_l M) B v a bk sa sc ma fl tt mt (s (k + 14)) 9 (by omega)) wd_620 wd_622 wp_H_twoTurnsAndShift wd_4 wd_623 hd_H_twoTurnsAndShift [0] rfl rfl [a] (fun _ => rfl) rfl rfl rfl (by rw [hR]; decide) (by rw [hR]; decide) rfl (Nat.le_of_ble_eq_true rfl) d_H_fillSchedule_88 (fun r9 _ hr9 => ?_)
      subst hr9
      refine g_wsq [co a 0 [.int (nI (wbN v)), .int (nI (8 * wbN v)), .int (nI (rdN v)), .ref (b_t B (dk v)), .long (mk9 v), .int (nI (16 * wbN v)), .int (nI (8 * wbN v)), .ref bk, .ref sa, .ref sc, .ref ma, .int (nI fl), .long (lN tt), .long (lN mt)], cb B bk (16 * wbN v) g, cj B sc (rdN v) s] rfl ?_
      refine g_lstore_n (pc := 91) X (i := 2) d_H_fillSchedule_91 rfl (by decide) ?_
      refine g_lv [(0, .ref a), (1, .int (nI (k + 16))), (2, .long (tws v (s (k + 14)) 9))] rfl ?_
      refine g_aload_n (pc := 92) X (i := 0) d_H_fillSchedule_92 rfl rfl ?_
      refine g_aload_n (pc := 93) X (i := 0) d_H_fillSchedule_93 rfl rfl ?_
      refine g_get (pc := 94) X in_H 0 rfl rfl 9 (by decide) wd_85 rfl d_H_fillSchedule_94 ?_
      refine g_iload_n (pc := 97) X (i := 1) d_H_fillSchedule_97 rfl rfl ?_
      refine g_bipush (pc := 98) X (v := nI 15) d_H_fillSchedule_98 (by decide) ?_
      refine g_isubN (pc := 100) X (k + 1) (by omega) d_H_fillSchedule_100 ?_
      refine g_lald (pc := 101) X 2 rfl (k + 1) rfl (by omega) (by omega) d_H_fillSchedule_101 ?_
      refine g_bipush (pc := 102) X (v := nI 6) d_H_fillSchedule_102 (by decide) ?_
      refine g_callVl (pc := 104) (q0 := 0) X (c_H_twoTurnsAndShift (m_l M) B v a bk sa sc ma fl tt mt (s (k + 1)) 6 (by omega)) wd_620 wd_622 wp_H_twoTurnsAndShift wd_4 wd_623 hd_H_twoTurnsAndShift [0] rfl rfl [a] (fun _ => rfl) rfl rfl rfl (by rw [hR]; decide) (by rw [hR]; decide) rfl (Nat.le_of_ble_eq_true rfl) d_H_fillSchedule_104 (fun r9 _ hr9 => ?_)
      subst hr9
      refine g_wsq [co a 0 [.int (nI (wbN v)), .int (nI (8 * wbN v)), .int (nI (rdN v)), .ref (b_t B (dk v)), .long (mk9 v), .int (nI (16 * wbN v)), .int (nI (8 * wbN v)), .ref bk, .ref sa, .ref sc, .ref ma, .int (nI fl), .long (lN tt), .long (lN mt)], cb B bk (16 * wbN v) g, cj B sc (rdN v) s] rfl ?_
      refine g_lstore (pc := 107) X d_H_fillSchedule_107 (by decide) ?_
      refine g_lv [(0, .ref a), (1, .int (nI (k + 16))), (2, .long (tws v (s (k + 14)) 9)), (4, .long (tws v (s (k + 1)) 6))] rfl ?_
      refine g_aload_n (pc := 109) X (i := 0) d_H_fillSchedule_109 rfl rfl ?_
      refine g_get (pc := 110) X in_H 0 rfl rfl 9 (by decide) wd_85 rfl d_H_fillSchedule_110 ?_
      refine g_iload_n (pc := 113) X (i := 1) d_H_fillSchedule_113 rfl rfl ?_
      refine g_lload_n (pc := 114) X (i := 2) d_H_fillSchedule_114 rfl rfl ?_
      refine g_aload_n (pc := 115) X (i := 0) d_H_fillSchedule_115 rfl rfl ?_
      refine g_get (pc := 116) X in_H 0 rfl rfl 9 (by decide) wd_85 rfl d_H_fillSchedule_116 ?_
      refine g_iload_n (pc := 119) X (i := 1) d_H_fillSchedule_119 rfl rfl ?_
      refine g_bipush (pc := 120) X (v := nI 7) d_H_fillSchedule_120 (by decide) ?_
      refine g_isubN (pc := 122) X (k + 9) (by omega) d_H_fillSchedule_122 ?_
      refine g_lald (pc := 123) X 2 rfl (k + 9) rfl (by omega) (by omega) d_H_fillSchedule_123 ?_
      refine g_ladd (pc := 124) X d_H_fillSchedule_124 ?_
      refine g_lload (pc := 125) X d_H_fillSchedule_125 rfl ?_
      refine g_ladd (pc := 127) X d_H_fillSchedule_127 ?_
      refine g_aload_n (pc := 128) X (i := 0) d_H_fillSchedule_128 rfl rfl ?_
      refine g_get (pc := 129) X in_H 0 rfl rfl 9 (by decide) wd_85 rfl d_H_fillSchedule_129 ?_
      refine g_iload_n (pc := 132) X (i := 1) d_H_fillSchedule_132 rfl rfl ?_
      refine g_bipush (pc := 133) X (v := nI 16) d_H_fillSchedule_133 (by decide) ?_
      refine g_isubN (pc := 135) X k (by omega) d_H_fillSchedule_135 ?_
      refine g_lald (pc := 136) X 2 rfl k rfl (by omega) (by omega) d_H_fillSchedule_136 ?_
      refine g_ladd (pc := 137) X d_H_fillSchedule_137 ?_
      refine g_aload_n (pc := 138) X (i := 0) d_H_fillSchedule_138 rfl rfl ?_
      refine g_get (pc := 139) X in_H 0 rfl rfl 4 (by decide) wd_78 rfl d_H_fillSchedule_139 ?_
      refine g_land (pc := 142) X d_H_fillSchedule_142 ?_
      refine g_last (pc := 143) X 2 rfl (k + 16) rfl (by omega) (by omega) d_H_fillSchedule_143 ?_
      refine g_wsq [co a 0 [.int (nI (wbN v)), .int (nI (8 * wbN v)), .int (nI (rdN v)), .ref (b_t B (dk v)), .long (mk9 v), .int (nI (16 * wbN v)), .int (nI (8 * wbN v)), .ref bk, .ref sa, .ref sc, .ref ma, .int (nI fl), .long (lN tt), .long (lN mt)], cb B bk (16 * wbN v) g, cj B sc (rdN v) (va_up s (k + 16) (((((tws v (s (k + 14)) 9) + (s (k + 9))) + (tws v (s (k + 1)) 6)) + (s k)) &&& (mk9 v)))] rfl ?_
      refine g_iincN (pc := 144) X (a := k + 16) (k + 17) d_H_fillSchedule_144 rfl 1 rfl (by omega) (by decide) ?_
      refine g_lv [(0, .ref a), (1, .int (nI (k + 17))), (2, .long (tws v (s (k + 14)) 9)), (4, .long (tws v (s (k + 1)) 6))] rfl ?_
      refine g_goto (pc := 147) X (tgt := 69) d_H_fillSchedule_147 (by decide) ?_
      refine g_lv [(0, .ref a), (1, .int (nI (k + 17)))] rfl ?_
      exact kk69 _ (by rfl)
    · show G B M 6 0 0 Q [co a 0 [.int (nI (wbN v)), .int (nI (8 * wbN v)), .int (nI (rdN v)), .ref (b_t B (dk v)), .long (mk9 v), .int (nI (16 * wbN v)), .int (nI (8 * wbN v)), .ref bk, .ref sa, .ref sc, .ref ma, .int (nI fl), .long (lN tt), .long (lN mt)], cb B bk (16 * wbN v) g, cj B sc (rdN v) (it (sc2F v) (rdN v - 16) (it (sc1F v g) 16 w))] [(0, .ref a), (1, .int (nI (rdN v - 16 + 16)))] 69 []
      refine g_iload_n (pc := 69) X (i := 1) d_H_fillSchedule_69 rfl rfl ?_
      refine g_aload_n (pc := 70) X (i := 0) d_H_fillSchedule_70 rfl rfl ?_
      refine g_get (pc := 71) X in_H 0 rfl rfl 2 (by decide) wd_76 rfl d_H_fillSchedule_71 ?_
      refine g_icmp_geN (pc := 74) X (tgt := 150) d_H_fillSchedule_74 (by decide) (by omega) (by omega) (fun h_74 => ?_) (fun h_74 => absurd h_74 (by omega))
      exact kret () _ 150 trivial d_H_fillSchedule_150

theorem c_H_addToState (l : Launch) (B : Bx) (v : Bool) (a : Nat) (bk : Nat) (sa : Nat) (sc : Nat) (ma : Nat) (fl : Nat) (tt : Nat) (mt : Nat) (S : Nat → Int64) (i : Nat) (p : Int64) (q : Int64) (r : Int64) (s : Int64) (h1 : i + 4 ≤ 8) : Cv (S := Unit) l B y_H_addToState b_H_addToState 10 (Rm 1 0 0) [.ref a, .int (nI i), .long p, .long q, .long r, .long s] [co a 0 [.int (nI (wbN v)), .int (nI (8 * wbN v)), .int (nI (rdN v)), .ref (b_t B (dk v)), .long (mk9 v), .int (nI (16 * wbN v)), .int (nI (8 * wbN v)), .ref bk, .ref sa, .ref sc, .ref ma, .int (nI fl), .long (lN tt), .long (lN mt)], cj B sa 8 S] (fun _ => True) (fun _ => [co a 0 [.int (nI (wbN v)), .int (nI (8 * wbN v)), .int (nI (rdN v)), .ref (b_t B (dk v)), .long (mk9 v), .int (nI (16 * wbN v)), .int (nI (8 * wbN v)), .ref bk, .ref sa, .ref sc, .ref ma, .int (nI fl), .long (lN tt), .long (lN mt)], cj B sa 8 (add4 v S i p q r s)]) := by
  refine ctr_v (by decide) (Nat.le_of_ble_eq_true rfl) ?_
  intro M Q hl hR hin X kret
  subst hl
  have hv := vf v
  refine g_lv [(0, .ref a), (1, .int (nI i)), (2, .long p), (4, .long q), (6, .long r), (8, .long s)] rfl ?_
  refine g_aload_n (pc := 0) X (i := 0) d_H_addToState_0 rfl rfl ?_
  refine g_get (pc := 1) X in_H 0 rfl rfl 8 (by decide) wd_84 rfl d_H_addToState_1 ?_
  refine g_iload_n (pc := 4) X (i := 1) d_H_addToState_4 rfl rfl ?_
  refine g_aload_n (pc := 5) X (i := 0) d_H_addToState_5 rfl rfl ?_
  refine g_get (pc := 6) X in_H 0 rfl rfl 8 (by decide) wd_84 rfl d_H_addToState_6 ?_
  refine g_iload_n (pc := 9) X (i := 1) d_H_addToState_9 rfl rfl ?_
  refine g_lald (pc := 10) X 1 rfl i rfl (by omega) (by omega) d_H_addToState_10 ?_
  refine g_lload_n (pc := 11) X (i := 2) d_H_addToState_11 rfl rfl ?_
  refine g_ladd (pc := 12) X d_H_addToState_12 ?_
  refine g_aload_n (pc := 13) X (i := 0) d_H_addToState_13 rfl rfl ?_
  refine g_get (pc := 14) X in_H 0 rfl rfl 4 (by decide) wd_78 rfl d_H_addToState_14 ?_
  refine g_land (pc := 17) X d_H_addToState_17 ?_
  refine g_last (pc := 18) X 1 rfl i rfl (by omega) (by omega) d_H_addToState_18 ?_
  refine g_wsq [co a 0 [.int (nI (wbN v)), .int (nI (8 * wbN v)), .int (nI (rdN v)), .ref (b_t B (dk v)), .long (mk9 v), .int (nI (16 * wbN v)), .int (nI (8 * wbN v)), .ref bk, .ref sa, .ref sc, .ref ma, .int (nI fl), .long (lN tt), .long (lN mt)], cj B sa 8 (va_up S i (((S i) + p) &&& (mk9 v)))] rfl ?_
  refine g_aload_n (pc := 19) X (i := 0) d_H_addToState_19 rfl rfl ?_
  refine g_get (pc := 20) X in_H 0 rfl rfl 8 (by decide) wd_84 rfl d_H_addToState_20 ?_
  refine g_iload_n (pc := 23) X (i := 1) d_H_addToState_23 rfl rfl ?_
  refine g_iconst (pc := 24) X (v := nI 1) d_H_addToState_24 (by decide) ?_
  refine g_iaddN (pc := 25) X (i + 1) (by omega) d_H_addToState_25 ?_
  refine g_aload_n (pc := 26) X (i := 0) d_H_addToState_26 rfl rfl ?_
  refine g_get (pc := 27) X in_H 0 rfl rfl 8 (by decide) wd_84 rfl d_H_addToState_27 ?_
  refine g_iload_n (pc := 30) X (i := 1) d_H_addToState_30 rfl rfl ?_
  refine g_iconst (pc := 31) X (v := nI 1) d_H_addToState_31 (by decide) ?_
  refine g_iaddN (pc := 32) X (i + 1) (by omega) d_H_addToState_32 ?_
  refine g_lald (pc := 33) X 1 rfl (i + 1) rfl (by omega) (by omega) d_H_addToState_33 ?_
  refine g_lload (pc := 34) X d_H_addToState_34 rfl ?_
  refine g_ladd (pc := 36) X d_H_addToState_36 ?_
  refine g_aload_n (pc := 37) X (i := 0) d_H_addToState_37 rfl rfl ?_
  refine g_get (pc := 38) X in_H 0 rfl rfl 4 (by decide) wd_78 rfl d_H_addToState_38 ?_
  refine g_land (pc := 41) X d_H_addToState_41 ?_
  refine g_last (pc := 42) X 1 rfl (i + 1) rfl (by omega) (by omega) d_H_addToState_42 ?_
  refine g_wsq [co a 0 [.int (nI (wbN v)), .int (nI (8 * wbN v)), .int (nI (rdN v)), .ref (b_t B (dk v)), .long (mk9 v), .int (nI (16 * wbN v)), .int (nI (8 * wbN v)), .ref bk, .ref sa, .ref sc, .ref ma, .int (nI fl), .long (lN tt), .long (lN mt)], cj B sa 8 (va_up (va_up S i (((S i) + p) &&& (mk9 v))) (i + 1) ((((va_up S i (((S i) + p) &&& (mk9 v))) (i + 1)) + q) &&& (mk9 v)))] rfl ?_
  refine g_aload_n (pc := 43) X (i := 0) d_H_addToState_43 rfl rfl ?_
  refine g_get (pc := 44) X in_H 0 rfl rfl 8 (by decide) wd_84 rfl d_H_addToState_44 ?_
  refine g_iload_n (pc := 47) X (i := 1) d_H_addToState_47 rfl rfl ?_
  refine g_iconst (pc := 48) X (v := nI 2) d_H_addToState_48 (by decide) ?_
  refine g_iaddN (pc := 49) X (i + 2) (by omega) d_H_addToState_49 ?_
  refine g_aload_n (pc := 50) X (i := 0) d_H_addToState_50 rfl rfl ?_
  refine g_get (pc := 51) X in_H 0 rfl rfl 8 (by decide) wd_84 rfl d_H_addToState_51 ?_
  refine g_iload_n (pc := 54) X (i := 1) d_H_addToState_54 rfl rfl ?_
  refine g_iconst (pc := 55) X (v := nI 2) d_H_addToState_55 (by decide) ?_
  refine g_iaddN (pc := 56) X (i + 2) (by omega) d_H_addToState_56 ?_
  refine g_lald (pc := 57) X 1 rfl (i + 2) rfl (by omega) (by omega) d_H_addToState_57 ?_
  refine g_lload (pc := 58) X d_H_addToState_58 rfl ?_
  refine g_ladd (pc := 60) X d_H_addToState_60 ?_
  refine g_aload_n (pc := 61) X (i := 0) d_H_addToState_61 rfl rfl ?_
  refine g_get (pc := 62) X in_H 0 rfl rfl 4 (by decide) wd_78 rfl d_H_addToState_62 ?_
  refine g_land (pc := 65) X d_H_addToState_65 ?_
  refine g_last (pc := 66) X 1 rfl (i + 2) rfl (by omega) (by omega) d_H_addToState_66 ?_
  refine g_wsq [co a 0 [.int (nI (wbN v)), .int (nI (8 * wbN v)), .int (nI (rdN v)), .ref (b_t B (dk v)), .long (mk9 v), .int (nI (16 * wbN v)), .int (nI (8 * wbN v)), .ref bk, .ref sa, .ref sc, .ref ma, .int (nI fl), .long (lN tt), .long (lN mt)], cj B sa 8 (va_up (va_up (va_up S i (((S i) + p) &&& (mk9 v))) (i + 1) ((((va_up S i (((S i) + p) &&& (mk9 v))) (i + 1)) + q) &&& (mk9 v))) (i + 2) ((((va_up (va_up S i (((S i) + p) &&& (mk9 v))) (i + 1) ((((va_up S i (((S i) + p) &&& (mk9 v))) (i + 1)) + q) &&& (mk9 v))) (i + 2)) + r) &&& (mk9 v)))] rfl ?_
  refine g_aload_n (pc := 67) X (i := 0) d_H_addToState_67 rfl rfl ?_
  refine g_get (pc := 68) X in_H 0 rfl rfl 8 (by decide) wd_84 rfl d_H_addToState_68 ?_
  refine g_iload_n (pc := 71) X (i := 1) d_H_addToState_71 rfl rfl ?_
  refine g_iconst (pc := 72) X (v := nI 3) d_H_addToState_72 (by decide) ?_
  refine g_iaddN (pc := 73) X (i + 3) (by omega) d_H_addToState_73 ?_
  refine g_aload_n (pc := 74) X (i := 0) d_H_addToState_74 rfl rfl ?_
  refine g_get (pc := 75) X in_H 0 rfl rfl 8 (by decide) wd_84 rfl d_H_addToState_75 ?_
  refine g_iload_n (pc := 78) X (i := 1) d_H_addToState_78 rfl rfl ?_
  refine g_iconst (pc := 79) X (v := nI 3) d_H_addToState_79 (by decide) ?_
  refine g_iaddN (pc := 80) X (i + 3) (by omega) d_H_addToState_80 ?_
  refine g_lald (pc := 81) X 1 rfl (i + 3) rfl (by omega) (by omega) d_H_addToState_81 ?_
  refine g_lload (pc := 82) X d_H_addToState_82 rfl ?_
  refine g_ladd (pc := 84) X d_H_addToState_84 ?_
  refine g_aload_n (pc := 85) X (i := 0) d_H_addToState_85 rfl rfl ?_
  refine g_get (pc := 86) X in_H 0 rfl rfl 4 (by decide) wd_78 rfl d_H_addToState_86 ?_
  refine g_land (pc := 89) X d_H_addToState_89 ?_
  refine g_last (pc := 90) X 1 rfl (i + 3) rfl (by omega) (by omega) d_H_addToState_90 ?_
  refine g_wsq [co a 0 [.int (nI (wbN v)), .int (nI (8 * wbN v)), .int (nI (rdN v)), .ref (b_t B (dk v)), .long (mk9 v), .int (nI (16 * wbN v)), .int (nI (8 * wbN v)), .ref bk, .ref sa, .ref sc, .ref ma, .int (nI fl), .long (lN tt), .long (lN mt)], cj B sa 8 (va_up (va_up (va_up (va_up S i (((S i) + p) &&& (mk9 v))) (i + 1) ((((va_up S i (((S i) + p) &&& (mk9 v))) (i + 1)) + q) &&& (mk9 v))) (i + 2) ((((va_up (va_up S i (((S i) + p) &&& (mk9 v))) (i + 1) ((((va_up S i (((S i) + p) &&& (mk9 v))) (i + 1)) + q) &&& (mk9 v))) (i + 2)) + r) &&& (mk9 v))) (i + 3) ((((va_up (va_up (va_up S i (((S i) + p) &&& (mk9 v))) (i + 1) ((((va_up S i (((S i) + p) &&& (mk9 v))) (i + 1)) + q) &&& (mk9 v))) (i + 2) ((((va_up (va_up S i (((S i) + p) &&& (mk9 v))) (i + 1) ((((va_up S i (((S i) + p) &&& (mk9 v))) (i + 1)) + q) &&& (mk9 v))) (i + 2)) + r) &&& (mk9 v))) (i + 3)) + s) &&& (mk9 v)))] rfl ?_
  exact kret () _ 91 trivial d_H_addToState_91
