theorem c_J_rangeCheck (l : Launch) (B : Bx) (n : Nat) (lo : Nat) (hi : Nat) (h1 : lo ≤ hi) (h2 : hi ≤ n) (h3 : n < 2 ^ 31) : Cv (S := Unit) l B y_J_rangeCheck b_J_rangeCheck 3 (Rm 1 0 0) [.int (nI n), .int (nI lo), .int (nI hi)] [] (fun _ => True) (fun _ => []) := by
  refine ctr_v (by decide) (Nat.le_of_ble_eq_true rfl) ?_
  intro M Q hl hR hin X kret
  subst hl
  refine g_lv [(0, .int (nI n)), (1, .int (nI lo)), (2, .int (nI hi))] rfl ?_
  refine g_iload_n (pc := 0) X (i := 1) d_J_rangeCheck_0 rfl rfl ?_
  refine g_iload_n (pc := 1) X (i := 2) d_J_rangeCheck_1 rfl rfl ?_
  refine g_icmp_leN (pc := 2) X (tgt := 46) d_J_rangeCheck_2 (by decide) (by omega) (by omega) (fun h_2 => ?_) (fun h_2 => absurd h_2 (by omega))
  refine g_iload_n (pc := 46) X (i := 1) d_J_rangeCheck_46 rfl rfl ?_
  refine g_if_geN (pc := 47) X (tgt := 59) d_J_rangeCheck_47 (by decide) (by omega) ?_
  refine g_iload_n (pc := 59) X (i := 2) d_J_rangeCheck_59 rfl rfl ?_
  refine g_iload_n (pc := 60) X (i := 0) d_J_rangeCheck_60 rfl rfl ?_
  refine g_icmp_leN (pc := 61) X (tgt := 73) d_J_rangeCheck_61 (by decide) (by omega) (by omega) (fun h_61 => ?_) (fun h_61 => absurd h_61 (by omega))
  exact kret () _ 73 trivial d_J_rangeCheck_73

theorem c_J_fill (l : Launch) (B : Bx) (a : Nat) (n : Nat) (lo : Nat) (hi : Nat) (f : Nat → Int8) (w : Int32) (h1 : lo ≤ hi) (h2 : hi ≤ n) (h3 : n < 2 ^ 31) : Cv (S := Unit) l B y_J_fill b_J_fill 5 (Rm 2 0 0) [.ref a, .int (nI lo), .int (nI hi), .int w] [cb B a n f] (fun _ => True) (fun _ => [cb B a n (fil f lo hi w.toInt8)]) := by
  refine ctr_v (by decide) (Nat.le_of_ble_eq_true rfl) ?_
  intro M Q hl hR hin X kret
  subst hl
  refine g_lv [(0, .ref a), (1, .int (nI lo)), (2, .int (nI hi)), (3, .int w)] rfl ?_
  refine g_aload_n (pc := 0) X (i := 0) d_J_fill_0 rfl rfl ?_
  refine g_alen (pc := 1) X 0 0 rfl rfl rfl d_J_fill_1 ?_
  refine g_iload_n (pc := 2) X (i := 1) d_J_fill_2 rfl rfl ?_
  refine g_iload_n (pc := 3) X (i := 2) d_J_fill_3 rfl rfl ?_
  refine g_callSv (pc := 4) X (c_J_rangeCheck (m_l M) B n lo hi (by omega) (by omega) (by omega)) wd_288 wd_289 wd_12 wd_290 hd_J_rangeCheck [] rfl rfl [] (fun _ => rfl) rfl (by rw [hR]; decide) (by rw [hR]; decide) rfl (Nat.le_of_ble_eq_true rfl) d_J_fill_4 (fun _ _ => ?_)
  refine g_wsq [cb B a n f] rfl ?_
  refine g_iload_n (pc := 7) X (i := 1) d_J_fill_7 rfl rfl ?_
  refine g_istore (pc := 8) X d_J_fill_8 (by decide) ?_
  refine g_lv [(0, .ref a), (1, .int (nI lo)), (2, .int (nI hi)), (3, .int w), (4, .int (nI lo))] rfl ?_
  refine g_lv [(0, .ref a), (1, .int (nI lo)), (2, .int (nI hi)), (3, .int w), (4, .int (nI lo))] rfl ?_
  refine g_wsq [cb B a n (fil f lo (lo + 0) w.toInt8)] (by rw [Nat.add_zero, ← fil_0]) ?_
  refine loopK (fun k => G B M 5 0 0 Q [cb B a n (fil f lo (lo + k) w.toInt8)] [(0, .ref a), (1, .int (nI lo)), (2, .int (nI hi)), (3, .int w), (4, .int (nI (lo + k)))] 10 []) (hi - lo) ?_ ?_
  · intro k hk10 kk10
    show G B M 5 0 0 Q [cb B a n (fil f lo (lo + k) w.toInt8)] [(0, .ref a), (1, .int (nI lo)), (2, .int (nI hi)), (3, .int w), (4, .int (nI (lo + k)))] 10 []
    refine g_iload (pc := 10) X d_J_fill_10 rfl ?_
    refine g_iload_n (pc := 12) X (i := 2) d_J_fill_12 rfl rfl ?_
    refine g_icmp_geN (pc := 13) X (tgt := 27) d_J_fill_13 (by decide) (by omega) (by omega) (fun h_13 => absurd h_13 (by omega)) (fun h_13 => ?_)
    refine g_aload_n (pc := 16) X (i := 0) d_J_fill_16 rfl rfl ?_
    refine g_iload (pc := 17) X d_J_fill_17 rfl ?_
    refine g_iload_n (pc := 19) X (i := 3) d_J_fill_19 rfl rfl ?_
    refine g_bast (pc := 20) X 0 rfl (lo + k) rfl (by omega) (by omega) d_J_fill_20 ?_
    refine g_wsq [cb B a n (va_up (fil f lo (lo + k) w.toInt8) (lo + k) w.toInt8)] rfl ?_
    refine g_iincN (pc := 21) X (a := lo + k) (lo + k + 1) d_J_fill_21 rfl 1 rfl (by omega) (by decide) ?_
    refine g_lv [(0, .ref a), (1, .int (nI lo)), (2, .int (nI hi)), (3, .int w), (4, .int (nI (lo + k + 1)))] rfl ?_
    refine g_goto (pc := 24) X (tgt := 10) d_J_fill_24 (by decide) ?_
    refine g_lv [(0, .ref a), (1, .int (nI lo)), (2, .int (nI hi)), (3, .int w), (4, .int (nI (lo + k + 1)))] rfl ?_
    refine g_wsq [cb B a n (fil f lo (lo + (k + 1)) w.toInt8)] (by rw [fil_s _ (by omega)]; rfl) ?_
    exact kk10
  · show G B M 5 0 0 Q [cb B a n (fil f lo (lo + (hi - lo)) w.toInt8)] [(0, .ref a), (1, .int (nI lo)), (2, .int (nI hi)), (3, .int w), (4, .int (nI (lo + (hi - lo))))] 10 []
    refine g_iload (pc := 10) X d_J_fill_10 rfl ?_
    refine g_iload_n (pc := 12) X (i := 2) d_J_fill_12 rfl rfl ?_
    refine g_icmp_geN (pc := 13) X (tgt := 27) d_J_fill_13 (by decide) (by omega) (by omega) (fun h_13 => ?_) (fun h_13 => absurd h_13 (by omega))
    refine g_wsq [cb B a n (fil f lo hi w.toInt8)] (by rw [show lo + (hi - lo) = hi by omega]) ?_
    exact kret () _ 27 trivial d_J_fill_27

theorem c_J_fill3 (l : Launch) (B : Bx) (a : Nat) (n : Nat) (f : Nat → Int8) (w : Int32) (h3 : n < 2 ^ 31) : Cv (S := Unit) l B y_J_fill3 b_J_fill3 4 (Rm 1 0 0) [.ref a, .int w] [cb B a n f] (fun _ => True) (fun _ => [cb B a n (fil f 0 n w.toInt8)]) := by
  refine ctr_v (by decide) (Nat.le_of_ble_eq_true rfl) ?_
  intro M Q hl hR hin X kret
  subst hl
  refine g_lv [(0, .ref a), (1, .int w)] rfl ?_
  refine g_iconst (pc := 0) X (v := nI 0) d_J_fill3_0 (by decide) ?_
  refine g_istore_n (pc := 1) X (i := 2) d_J_fill3_1 rfl (by decide) ?_
  refine g_lv [(0, .ref a), (1, .int w), (2, .int (nI 0))] rfl ?_
  refine g_aload_n (pc := 2) X (i := 0) d_J_fill3_2 rfl rfl ?_
  refine g_alen (pc := 3) X 0 0 rfl rfl rfl d_J_fill3_3 ?_
  refine g_istore_n (pc := 4) X (i := 3) d_J_fill3_4 rfl (by decide) ?_
  refine g_lv [(0, .ref a), (1, .int w), (2, .int (nI 0)), (3, .int (nI n))] rfl ?_
  refine g_lv [(0, .ref a), (1, .int w), (2, .int (nI 0)), (3, .int (nI n))] rfl ?_
  refine g_wsq [cb B a n (fil f 0 0 w.toInt8)] (by rw [← fil_0]) ?_
  refine loopK (fun k => G B M 4 0 0 Q [cb B a n (fil f 0 k w.toInt8)] [(0, .ref a), (1, .int w), (2, .int (nI k)), (3, .int (nI n))] 5 []) n ?_ ?_
  · intro k hk5 kk5
    show G B M 4 0 0 Q [cb B a n (fil f 0 k w.toInt8)] [(0, .ref a), (1, .int w), (2, .int (nI k)), (3, .int (nI n))] 5 []
    refine g_iload_n (pc := 5) X (i := 2) d_J_fill3_5 rfl rfl ?_
    refine g_iload_n (pc := 6) X (i := 3) d_J_fill3_6 rfl rfl ?_
    refine g_icmp_geN (pc := 7) X (tgt := 20) d_J_fill3_7 (by decide) (by omega) (by omega) (fun h_7 => absurd h_7 (by omega)) (fun h_7 => ?_)
    refine g_aload_n (pc := 10) X (i := 0) d_J_fill3_10 rfl rfl ?_
    refine g_iload_n (pc := 11) X (i := 2) d_J_fill3_11 rfl rfl ?_
    refine g_iload_n (pc := 12) X (i := 1) d_J_fill3_12 rfl rfl ?_
    refine g_bast (pc := 13) X 0 rfl k rfl (by omega) (by omega) d_J_fill3_13 ?_
    refine g_wsq [cb B a n (va_up (fil f 0 k w.toInt8) k w.toInt8)] rfl ?_
    refine g_iincN (pc := 14) X (a := k) (k + 1) d_J_fill3_14 rfl 1 rfl (by omega) (by decide) ?_
    refine g_lv [(0, .ref a), (1, .int w), (2, .int (nI (k + 1))), (3, .int (nI n))] rfl ?_
    refine g_goto (pc := 17) X (tgt := 5) d_J_fill3_17 (by decide) ?_
    refine g_lv [(0, .ref a), (1, .int w), (2, .int (nI (k + 1))), (3, .int (nI n))] rfl ?_
    refine g_wsq [cb B a n (fil f 0 (k + 1) w.toInt8)] (by rw [fil_s _ (by omega)]) ?_
    exact kk5
  · show G B M 4 0 0 Q [cb B a n (fil f 0 n w.toInt8)] [(0, .ref a), (1, .int w), (2, .int (nI n)), (3, .int (nI n))] 5 []
    refine g_iload_n (pc := 5) X (i := 2) d_J_fill3_5 rfl rfl ?_
    refine g_iload_n (pc := 6) X (i := 3) d_J_fill3_6 rfl rfl ?_
    refine g_icmp_geN (pc := 7) X (tgt := 20) d_J_fill3_7 (by decide) (by omega) (by omega) (fun h_7 => ?_) (fun h_7 => absurd h_7 (by omega))
    exact kret () _ 20 trivial d_J_fill3_20

theorem c_J_fill2 (l : Launch) (B : Bx) (a : Nat) (n : Nat) (f : Nat → Int64) (w : Int64) (h3 : n < 2 ^ 31) : Cv (S := Unit) l B y_J_fill2 b_J_fill2 5 (Rm 1 0 0) [.ref a, .long w] [cj B a n f] (fun _ => True) (fun _ => [cj B a n (fil f 0 n w)]) := by
  refine ctr_v (by decide) (Nat.le_of_ble_eq_true rfl) ?_
  intro M Q hl hR hin X kret
  subst hl
  refine g_lv [(0, .ref a), (1, .long w)] rfl ?_
  refine g_iconst (pc := 0) X (v := nI 0) d_J_fill2_0 (by decide) ?_
  refine g_istore_n (pc := 1) X (i := 3) d_J_fill2_1 rfl (by decide) ?_
  refine g_lv [(0, .ref a), (1, .long w), (3, .int (nI 0))] rfl ?_
  refine g_aload_n (pc := 2) X (i := 0) d_J_fill2_2 rfl rfl ?_
  refine g_alen (pc := 3) X 0 1 rfl rfl rfl d_J_fill2_3 ?_
  refine g_istore (pc := 4) X d_J_fill2_4 (by decide) ?_
  refine g_lv [(0, .ref a), (1, .long w), (3, .int (nI 0)), (4, .int (nI n))] rfl ?_
  refine g_lv [(0, .ref a), (1, .long w), (3, .int (nI 0)), (4, .int (nI n))] rfl ?_
  refine g_wsq [cj B a n (fil f 0 0 w)] (by rw [← fil_0]) ?_
  refine loopK (fun k => G B M 5 0 0 Q [cj B a n (fil f 0 k w)] [(0, .ref a), (1, .long w), (3, .int (nI k)), (4, .int (nI n))] 6 []) n ?_ ?_
  · intro k hk6 kk6
    show G B M 5 0 0 Q [cj B a n (fil f 0 k w)] [(0, .ref a), (1, .long w), (3, .int (nI k)), (4, .int (nI n))] 6 []
    refine g_iload_n (pc := 6) X (i := 3) d_J_fill2_6 rfl rfl ?_
    refine g_iload (pc := 7) X d_J_fill2_7 rfl ?_
    refine g_icmp_geN (pc := 9) X (tgt := 22) d_J_fill2_9 (by decide) (by omega) (by omega) (fun h_9 => absurd h_9 (by omega)) (fun h_9 => ?_)
    refine g_aload_n (pc := 12) X (i := 0) d_J_fill2_12 rfl rfl ?_
    refine g_iload_n (pc := 13) X (i := 3) d_J_fill2_13 rfl rfl ?_
    refine g_lload_n (pc := 14) X (i := 1) d_J_fill2_14 rfl rfl ?_
    refine g_last (pc := 15) X 0 rfl k rfl (by omega) (by omega) d_J_fill2_15 ?_
    refine g_wsq [cj B a n (va_up (fil f 0 k w) k w)] rfl ?_
    refine g_iincN (pc := 16) X (a := k) (k + 1) d_J_fill2_16 rfl 1 rfl (by omega) (by decide) ?_
    refine g_lv [(0, .ref a), (1, .long w), (3, .int (nI (k + 1))), (4, .int (nI n))] rfl ?_
    refine g_goto (pc := 19) X (tgt := 6) d_J_fill2_19 (by decide) ?_
    refine g_lv [(0, .ref a), (1, .long w), (3, .int (nI (k + 1))), (4, .int (nI n))] rfl ?_
    refine g_wsq [cj B a n (fil f 0 (k + 1) w)] (by rw [fil_s _ (by omega)]) ?_
    exact kk6
  · show G B M 5 0 0 Q [cj B a n (fil f 0 n w)] [(0, .ref a), (1, .long w), (3, .int (nI n)), (4, .int (nI n))] 6 []
    refine g_iload_n (pc := 6) X (i := 3) d_J_fill2_6 rfl rfl ?_
    refine g_iload (pc := 7) X d_J_fill2_7 rfl ?_
    refine g_icmp_geN (pc := 9) X (tgt := 22) d_J_fill2_9 (by decide) (by omega) (by omega) (fun h_9 => ?_) (fun h_9 => absurd h_9 (by omega))
    exact kret () _ 22 trivial d_J_fill2_22
