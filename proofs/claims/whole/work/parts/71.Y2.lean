theorem c_Y_matches (l : Launch) (B : Bx) (a : Nat) (d : Nat) (n : Nat) (b : Nat) (c : Nat) (m : Nat) (f : Nat → Int8) (g : Nat → Int8) (h1 : n ≤ 8192) (h2 : m ≤ 8192) : Ci (S := Unit) l B y_Y_matches b_Y_matches 3 .boolean (Rm 1 0 0) [.ref a, .ref b] [co a 1 [.ref d, .int (nI n)], cb B d 8192 f, co b 1 [.ref c, .int (nI m)], cb B c 8192 g] (fun r _ => r = mtC f g n m) (fun _ => [co a 1 [.ref d, .int (nI n)], cb B d 8192 f, co b 1 [.ref c, .int (nI m)], cb B c 8192 g]) := by
  refine ctr_z (by decide) (Nat.le_of_ble_eq_true rfl) ?_
  intro M Q hl hR hin X kret
  subst hl
  refine g_lv [(0, .ref a), (1, .ref b)] rfl ?_
  refine g_aload_n (pc := 0) X (i := 0) d_Y_matches_0 rfl rfl ?_
  refine g_get (pc := 1) X in_Y 0 rfl rfl 1 (by decide) wd_41 rfl d_Y_matches_1 ?_
  refine g_aload_n (pc := 4) X (i := 1) d_Y_matches_4 rfl rfl ?_
  refine g_get (pc := 5) X in_Y 2 rfl rfl 1 (by decide) wd_41 rfl d_Y_matches_5 ?_
  refine g_icmp_eqN (pc := 8) X (tgt := 13) d_Y_matches_8 (by decide) (by omega) (by omega) (fun h_8 => ?_) (fun h_8 => ?_)
  · refine g_iconst (pc := 13) X (v := nI 0) d_Y_matches_13 (by decide) ?_
    refine g_istore_n (pc := 14) X (i := 2) d_Y_matches_14 rfl (by decide) ?_
    refine g_lv [(0, .ref a), (1, .ref b), (2, .int (nI 0))] rfl ?_
    refine g_lv [(0, .ref a), (1, .ref b), (2, .int (nI 0))] rfl ?_
    refine g_wsq [co a 1 [.ref d, .int (nI n)], cb B d 8192 f, co b 1 [.ref c, .int (nI m)], cb B c 8192 g] (by rfl) ?_
    refine loopM (fun k => G B M 3 0 0 Q [co a 1 [.ref d, .int (nI n)], cb B d 8192 f, co b 1 [.ref c, .int (nI m)], cb B c 8192 g] [(0, .ref a), (1, .ref b), (2, .int (nI k))] 15 []) (fun k => ∀ j, j < k → (f j).toInt32 = (g j).toInt32) n (fun j hj => absurd hj (by omega)) ?_ ?_
    · intro k hk15 hq kk15
      show G B M 3 0 0 Q [co a 1 [.ref d, .int (nI n)], cb B d 8192 f, co b 1 [.ref c, .int (nI m)], cb B c 8192 g] [(0, .ref a), (1, .ref b), (2, .int (nI k))] 15 []
      refine g_iload_n (pc := 15) X (i := 2) d_Y_matches_15 rfl rfl ?_
      refine g_aload_n (pc := 16) X (i := 0) d_Y_matches_16 rfl rfl ?_
      refine g_get (pc := 17) X in_Y 0 rfl rfl 1 (by decide) wd_41 rfl d_Y_matches_17 ?_
      refine g_icmp_geN (pc := 20) X (tgt := 46) d_Y_matches_20 (by decide) (by omega) (by omega) (fun h_20 => absurd h_20 (by omega)) (fun h_20 => ?_)
      refine g_aload_n (pc := 23) X (i := 0) d_Y_matches_23 rfl rfl ?_
      refine g_get (pc := 24) X in_Y 0 rfl rfl 0 (by decide) wd_38 rfl d_Y_matches_24 ?_
      refine g_iload_n (pc := 27) X (i := 2) d_Y_matches_27 rfl rfl ?_
      refine g_bald (pc := 28) X 1 rfl k rfl (by omega) (by omega) d_Y_matches_28 ?_
      refine g_aload_n (pc := 29) X (i := 1) d_Y_matches_29 rfl rfl ?_
      refine g_get (pc := 30) X in_Y 2 rfl rfl 0 (by decide) wd_38 rfl d_Y_matches_30 ?_
      refine g_iload_n (pc := 33) X (i := 2) d_Y_matches_33 rfl rfl ?_
      refine g_bald (pc := 34) X 3 rfl k rfl (by omega) (by omega) d_Y_matches_34 ?_
      refine g_icmp_eq (pc := 35) X (tgt := 40) d_Y_matches_35 (by decide) (fun h_35 => ?_) (fun h_35 => ?_)
      · refine g_iincN (pc := 40) X (a := k) (k + 1) d_Y_matches_40 rfl 1 rfl (by omega) (by decide) ?_
        refine g_lv [(0, .ref a), (1, .ref b), (2, .int (nI (k + 1)))] rfl ?_
        refine g_goto (pc := 43) X (tgt := 15) d_Y_matches_43 (by decide) ?_
        refine g_lv [(0, .ref a), (1, .ref b), (2, .int (nI (k + 1)))] rfl ?_
        refine g_wsq [co a 1 [.ref d, .int (nI n)], cb B d 8192 f, co b 1 [.ref c, .int (nI m)], cb B c 8192 g] (by rfl) ?_
        exact kk15 (lt_up hq (by assumption))
      · refine g_iconst (pc := 38) X (v := nI 0) d_Y_matches_38 (by decide) ?_
        exact kret _ () _ 39 ⟨by rfl, by exact (mtC_ne (by omega) (by assumption) (by assumption)).symm⟩ d_Y_matches_39
    · intro hq
      show G B M 3 0 0 Q [co a 1 [.ref d, .int (nI n)], cb B d 8192 f, co b 1 [.ref c, .int (nI m)], cb B c 8192 g] [(0, .ref a), (1, .ref b), (2, .int (nI n))] 15 []
      refine g_iload_n (pc := 15) X (i := 2) d_Y_matches_15 rfl rfl ?_
      refine g_aload_n (pc := 16) X (i := 0) d_Y_matches_16 rfl rfl ?_
      refine g_get (pc := 17) X in_Y 0 rfl rfl 1 (by decide) wd_41 rfl d_Y_matches_17 ?_
      refine g_icmp_geN (pc := 20) X (tgt := 46) d_Y_matches_20 (by decide) (by omega) (by omega) (fun h_20 => ?_) (fun h_20 => absurd h_20 (by omega))
      refine g_iconst (pc := 46) X (v := nI 1) d_Y_matches_46 (by decide) ?_
      exact kret _ () _ 47 ⟨by rfl, by exact (mtC_eq (by omega) hq).symm⟩ d_Y_matches_47
  · refine g_iconst (pc := 11) X (v := nI 0) d_Y_matches_11 (by decide) ?_
    exact kret _ () _ 12 ⟨by rfl, by exact (mtC_ln (by omega)).symm⟩ d_Y_matches_12

theorem c_Y_matches_self (l : Launch) (B : Bx) (a : Nat) (d : Nat) (n : Nat) (f : Nat → Int8) (h1 : n ≤ 8192) : Ci (S := Unit) l B y_Y_matches b_Y_matches 3 .boolean (Rm 1 0 0) [.ref a, .ref a] [co a 1 [.ref d, .int (nI n)], cb B d 8192 f] (fun r _ => r = mtC f f n n) (fun _ => [co a 1 [.ref d, .int (nI n)], cb B d 8192 f]) := by
  refine ctr_z (by decide) (Nat.le_of_ble_eq_true rfl) ?_
  intro M Q hl hR hin X kret
  subst hl
  refine g_lv [(0, .ref a), (1, .ref a)] rfl ?_
  refine g_aload_n (pc := 0) X (i := 0) d_Y_matches_0 rfl rfl ?_
  refine g_get (pc := 1) X in_Y 0 rfl rfl 1 (by decide) wd_41 rfl d_Y_matches_1 ?_
  refine g_aload_n (pc := 4) X (i := 1) d_Y_matches_4 rfl rfl ?_
  refine g_get (pc := 5) X in_Y 0 rfl rfl 1 (by decide) wd_41 rfl d_Y_matches_5 ?_
  refine g_icmp_eqN (pc := 8) X (tgt := 13) d_Y_matches_8 (by decide) (by omega) (by omega) (fun h_8 => ?_) (fun h_8 => absurd h_8 (by omega))
  refine g_iconst (pc := 13) X (v := nI 0) d_Y_matches_13 (by decide) ?_
  refine g_istore_n (pc := 14) X (i := 2) d_Y_matches_14 rfl (by decide) ?_
  refine g_lv [(0, .ref a), (1, .ref a), (2, .int (nI 0))] rfl ?_
  refine g_lv [(0, .ref a), (1, .ref a), (2, .int (nI 0))] rfl ?_
  refine g_wsq [co a 1 [.ref d, .int (nI n)], cb B d 8192 f] (by rfl) ?_
  refine loopM (fun k => G B M 3 0 0 Q [co a 1 [.ref d, .int (nI n)], cb B d 8192 f] [(0, .ref a), (1, .ref a), (2, .int (nI k))] 15 []) (fun k => ∀ j, j < k → (f j).toInt32 = (f j).toInt32) n (fun j hj => absurd hj (by omega)) ?_ ?_
  · intro k hk15 hq kk15
    show G B M 3 0 0 Q [co a 1 [.ref d, .int (nI n)], cb B d 8192 f] [(0, .ref a), (1, .ref a), (2, .int (nI k))] 15 []
    refine g_iload_n (pc := 15) X (i := 2) d_Y_matches_15 rfl rfl ?_
    refine g_aload_n (pc := 16) X (i := 0) d_Y_matches_16 rfl rfl ?_
    refine g_get (pc := 17) X in_Y 0 rfl rfl 1 (by decide) wd_41 rfl d_Y_matches_17 ?_
    refine g_icmp_geN (pc := 20) X (tgt := 46) d_Y_matches_20 (by decide) (by omega) (by omega) (fun h_20 => absurd h_20 (by omega)) (fun h_20 => ?_)
    refine g_aload_n (pc := 23) X (i := 0) d_Y_matches_23 rfl rfl ?_
    refine g_get (pc := 24) X in_Y 0 rfl rfl 0 (by decide) wd_38 rfl d_Y_matches_24 ?_
    refine g_iload_n (pc := 27) X (i := 2) d_Y_matches_27 rfl rfl ?_
    refine g_bald (pc := 28) X 1 rfl k rfl (by omega) (by omega) d_Y_matches_28 ?_
    refine g_aload_n (pc := 29) X (i := 1) d_Y_matches_29 rfl rfl ?_
    refine g_get (pc := 30) X in_Y 0 rfl rfl 0 (by decide) wd_38 rfl d_Y_matches_30 ?_
    refine g_iload_n (pc := 33) X (i := 2) d_Y_matches_33 rfl rfl ?_
    refine g_bald (pc := 34) X 1 rfl k rfl (by omega) (by omega) d_Y_matches_34 ?_
    refine g_icmp_eq (pc := 35) X (tgt := 40) d_Y_matches_35 (by decide) (fun h_35 => ?_) (fun h_35 => ?_)
    · refine g_iincN (pc := 40) X (a := k) (k + 1) d_Y_matches_40 rfl 1 rfl (by omega) (by decide) ?_
      refine g_lv [(0, .ref a), (1, .ref a), (2, .int (nI (k + 1)))] rfl ?_
      refine g_goto (pc := 43) X (tgt := 15) d_Y_matches_43 (by decide) ?_
      refine g_lv [(0, .ref a), (1, .ref a), (2, .int (nI (k + 1)))] rfl ?_
      refine g_wsq [co a 1 [.ref d, .int (nI n)], cb B d 8192 f] (by rfl) ?_
      exact kk15 (lt_up hq (by assumption))
    · refine g_iconst (pc := 38) X (v := nI 0) d_Y_matches_38 (by decide) ?_
      exact kret _ () _ 39 ⟨by rfl, by exact (mtC_ne (by omega) (by assumption) (by assumption)).symm⟩ d_Y_matches_39
  · intro hq
    show G B M 3 0 0 Q [co a 1 [.ref d, .int (nI n)], cb B d 8192 f] [(0, .ref a), (1, .ref a), (2, .int (nI n))] 15 []
    refine g_iload_n (pc := 15) X (i := 2) d_Y_matches_15 rfl rfl ?_
    refine g_aload_n (pc := 16) X (i := 0) d_Y_matches_16 rfl rfl ?_
    refine g_get (pc := 17) X in_Y 0 rfl rfl 1 (by decide) wd_41 rfl d_Y_matches_17 ?_
    refine g_icmp_geN (pc := 20) X (tgt := 46) d_Y_matches_20 (by decide) (by omega) (by omega) (fun h_20 => ?_) (fun h_20 => absurd h_20 (by omega))
    refine g_iconst (pc := 46) X (v := nI 1) d_Y_matches_46 (by decide) ?_
    exact kret _ () _ 47 ⟨by rfl, by exact (mtC_eq (by omega) hq).symm⟩ d_Y_matches_47
