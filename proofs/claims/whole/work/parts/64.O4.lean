theorem c_O_sponge_b (l : Launch) (B : Bx) (a : Nat) (q : Nat → Nat) (tp : Nat) (kd : Nat) (rt : Nat) (fl : Nat) (tt : Nat) (cd : Int32) (h1 : kd ≤ 6) : Ci (S := Unit) l B y_O_sponge b_O_sponge 1 .boolean (Rm 1 0 0) [.ref a] [co a 4 [.ref (q 0), .ref (q 1), .ref (q 2), .int (nI tp), .int cd, .ref (q 3), .ref (q 4), .ref (q 5), .ref (q 6), .ref (q 7), .ref (q 8), .ref (q 9), .ref (q 10), .ref (q 11), .ref (q 12), .ref (q 13), .ref (q 14), .ref (q 15), .int (nI kd), .int (nI rt), .int (nI fl), .long (lN tt), .ref (q 16), .ref (q 17)]] (fun r _ => r = nI 0) (fun _ => [co a 4 [.ref (q 0), .ref (q 1), .ref (q 2), .int (nI tp), .int cd, .ref (q 3), .ref (q 4), .ref (q 5), .ref (q 6), .ref (q 7), .ref (q 8), .ref (q 9), .ref (q 10), .ref (q 11), .ref (q 12), .ref (q 13), .ref (q 14), .ref (q 15), .int (nI kd), .int (nI rt), .int (nI fl), .long (lN tt), .ref (q 16), .ref (q 17)]]) := by
  refine ctr_z (by decide) (Nat.le_of_ble_eq_true rfl) ?_
  intro M Q hl hR hin X kret
  subst hl
  refine g_lv [(0, .ref a)] rfl ?_
  refine g_aload_n (pc := 0) X (i := 0) d_O_sponge_0 rfl rfl ?_
  refine g_get (pc := 1) X in_O 0 rfl rfl 18 (by decide) wd_837 rfl d_O_sponge_1 ?_
  refine g_bipush (pc := 4) X (v := nI 6) d_O_sponge_4 (by decide) ?_
  refine g_icmp_leN (pc := 6) X (tgt := 13) d_O_sponge_6 (by decide) (by omega) (by omega) (fun h_6 => ?_) (fun h_6 => absurd h_6 (by omega))
  refine g_iconst (pc := 13) X (v := nI 0) d_O_sponge_13 (by decide) ?_
  exact kret _ () _ 14 ⟨by rfl, rfl⟩ d_O_sponge_14

theorem c_O_sponge_s (l : Launch) (B : Bx) (a : Nat) (q : Nat → Nat) (tp : Nat) (kd : Nat) (rt : Nat) (fl : Nat) (tt : Nat) (cd : Int32) (h1 : 6 < kd) (h2 : kd ≤ 16) : Ci (S := Unit) l B y_O_sponge b_O_sponge 1 .boolean (Rm 1 0 0) [.ref a] [co a 4 [.ref (q 0), .ref (q 1), .ref (q 2), .int (nI tp), .int cd, .ref (q 3), .ref (q 4), .ref (q 5), .ref (q 6), .ref (q 7), .ref (q 8), .ref (q 9), .ref (q 10), .ref (q 11), .ref (q 12), .ref (q 13), .ref (q 14), .ref (q 15), .int (nI kd), .int (nI rt), .int (nI fl), .long (lN tt), .ref (q 16), .ref (q 17)]] (fun r _ => r = nI 1) (fun _ => [co a 4 [.ref (q 0), .ref (q 1), .ref (q 2), .int (nI tp), .int cd, .ref (q 3), .ref (q 4), .ref (q 5), .ref (q 6), .ref (q 7), .ref (q 8), .ref (q 9), .ref (q 10), .ref (q 11), .ref (q 12), .ref (q 13), .ref (q 14), .ref (q 15), .int (nI kd), .int (nI rt), .int (nI fl), .long (lN tt), .ref (q 16), .ref (q 17)]]) := by
  refine ctr_z (by decide) (Nat.le_of_ble_eq_true rfl) ?_
  intro M Q hl hR hin X kret
  subst hl
  refine g_lv [(0, .ref a)] rfl ?_
  refine g_aload_n (pc := 0) X (i := 0) d_O_sponge_0 rfl rfl ?_
  refine g_get (pc := 1) X in_O 0 rfl rfl 18 (by decide) wd_837 rfl d_O_sponge_1 ?_
  refine g_bipush (pc := 4) X (v := nI 6) d_O_sponge_4 (by decide) ?_
  refine g_icmp_leN (pc := 6) X (tgt := 13) d_O_sponge_6 (by decide) (by omega) (by omega) (fun h_6 => absurd h_6 (by omega)) (fun h_6 => ?_)
  refine g_iconst (pc := 9) X (v := nI 1) d_O_sponge_9 (by decide) ?_
  refine g_goto (pc := 10) X (tgt := 14) d_O_sponge_10 (by decide) ?_
  exact kret _ () _ 14 ⟨by rfl, rfl⟩ d_O_sponge_14

theorem c_O_blockOf (l : Launch) (B : Bx) (k : Nat) (h1 : k ≤ 16) : Ci (S := Unit) l B y_O_blockOf b_O_blockOf 1 .int (Rm 1 0 0) [.int (nI k)] [] (fun r _ => r = nI (blN k)) (fun _ => []) := by
  refine ctr_i (by decide) (Nat.le_of_ble_eq_true rfl) ?_
  intro M Q hl hR hin X kret
  subst hl
  refine g_lv [(0, .int (nI k))] rfl ?_
  refine g_iload_n (pc := 0) X (i := 0) d_O_blockOf_0 rfl rfl ?_
  refine g_iconst (pc := 1) X (v := nI 1) d_O_blockOf_1 (by decide) ?_
  refine g_icmp_eqN (pc := 2) X (tgt := 10) d_O_blockOf_2 (by decide) (by omega) (by omega) (fun h_2 => ?_) (fun h_2 => ?_)
  · refine g_bipush (pc := 10) X (v := nI 64) d_O_blockOf_10 (by decide) ?_
    refine g_goto (pc := 12) X (tgt := 18) d_O_blockOf_12 (by decide) ?_
    exact kret _ () _ 18 (by unfold blN; first | rw [if_pos (by omega)] | rw [if_neg (by omega)]) d_O_blockOf_18
  · refine g_iload_n (pc := 5) X (i := 0) d_O_blockOf_5 rfl rfl ?_
    refine g_iconst (pc := 6) X (v := nI 4) d_O_blockOf_6 (by decide) ?_
    refine g_icmp_neN (pc := 7) X (tgt := 15) d_O_blockOf_7 (by decide) (by omega) (by omega) (fun h_7 => ?_) (fun h_7 => ?_)
    · refine g_sipush (pc := 15) X (v := nI 128) d_O_blockOf_15 (by decide) ?_
      exact kret _ () _ 18 (by unfold blN; first | rw [if_pos (by omega)] | rw [if_neg (by omega)]) d_O_blockOf_18
    · refine g_bipush (pc := 10) X (v := nI 64) d_O_blockOf_10 (by decide) ?_
      refine g_goto (pc := 12) X (tgt := 18) d_O_blockOf_12 (by decide) ?_
      exact kret _ () _ 18 (by unfold blN; first | rw [if_pos (by omega)] | rw [if_neg (by omega)]) d_O_blockOf_18

theorem c_O_digestOf (l : Launch) (B : Bx) (k : Nat) (h1 : 1 ≤ k) (h2 : k ≤ 12) : Ci (S := Unit) l B y_O_digestOf b_O_digestOf 1 .int (Rm 1 0 0) [.int (nI k)] [] (fun r _ => r = nI (dgN k)) (fun _ => []) := by
  refine ctr_i (by decide) (Nat.le_of_ble_eq_true rfl) ?_
  intro M Q hl hR hin X kret
  subst hl
  refine g_lv [(0, .int (nI k))] rfl ?_
  refine g_iload_n (pc := 0) X (i := 0) d_O_digestOf_0 rfl rfl ?_
  rcases (show k = 1 ∨ k = 2 ∨ k = 3 ∨ k = 4 ∨ k = 5 ∨ k = 6 ∨ k = 7 ∨ k = 8 ∨ k = 9 ∨ k = 10 ∨ k = 11 ∨ k = 12 from by omega) with hs | hs | hs | hs | hs | hs | hs | hs | hs | hs | hs | hs
  · refine g_tableIn (pc := 1) X (tgt := 64) d_O_digestOf_1 (by rw [hs]; decide) (by rw [hs]; decide) (by rw [hs]; rfl) (by decide) ?_
    refine g_bipush (pc := 64) X (v := nI 32) d_O_digestOf_64 (by decide) ?_
    exact kret _ () _ 66 (by simp [dgN, hs]) d_O_digestOf_66
  · refine g_tableIn (pc := 1) X (tgt := 67) d_O_digestOf_1 (by rw [hs]; decide) (by rw [hs]; decide) (by rw [hs]; rfl) (by decide) ?_
    refine g_bipush (pc := 67) X (v := nI 48) d_O_digestOf_67 (by decide) ?_
    exact kret _ () _ 69 (by simp [dgN, hs]) d_O_digestOf_69
  · refine g_tableIn (pc := 1) X (tgt := 70) d_O_digestOf_1 (by rw [hs]; decide) (by rw [hs]; decide) (by rw [hs]; rfl) (by decide) ?_
    refine g_bipush (pc := 70) X (v := nI 64) d_O_digestOf_70 (by decide) ?_
    exact kret _ () _ 72 (by simp [dgN, hs]) d_O_digestOf_72
  · refine g_tableIn (pc := 1) X (tgt := 73) d_O_digestOf_1 (by rw [hs]; decide) (by rw [hs]; decide) (by rw [hs]; rfl) (by decide) ?_
    refine g_bipush (pc := 73) X (v := nI 28) d_O_digestOf_73 (by decide) ?_
    exact kret _ () _ 75 (by simp [dgN, hs]) d_O_digestOf_75
  · refine g_tableIn (pc := 1) X (tgt := 73) d_O_digestOf_1 (by rw [hs]; decide) (by rw [hs]; decide) (by rw [hs]; rfl) (by decide) ?_
    refine g_bipush (pc := 73) X (v := nI 28) d_O_digestOf_73 (by decide) ?_
    exact kret _ () _ 75 (by simp [dgN, hs]) d_O_digestOf_75
  · refine g_tableIn (pc := 1) X (tgt := 64) d_O_digestOf_1 (by rw [hs]; decide) (by rw [hs]; decide) (by rw [hs]; rfl) (by decide) ?_
    refine g_bipush (pc := 64) X (v := nI 32) d_O_digestOf_64 (by decide) ?_
    exact kret _ () _ 66 (by simp [dgN, hs]) d_O_digestOf_66
  · refine g_tableIn (pc := 1) X (tgt := 73) d_O_digestOf_1 (by rw [hs]; decide) (by rw [hs]; decide) (by rw [hs]; rfl) (by decide) ?_
    refine g_bipush (pc := 73) X (v := nI 28) d_O_digestOf_73 (by decide) ?_
    exact kret _ () _ 75 (by simp [dgN, hs]) d_O_digestOf_75
  · refine g_tableIn (pc := 1) X (tgt := 64) d_O_digestOf_1 (by rw [hs]; decide) (by rw [hs]; decide) (by rw [hs]; rfl) (by decide) ?_
    refine g_bipush (pc := 64) X (v := nI 32) d_O_digestOf_64 (by decide) ?_
    exact kret _ () _ 66 (by simp [dgN, hs]) d_O_digestOf_66
  · refine g_tableIn (pc := 1) X (tgt := 67) d_O_digestOf_1 (by rw [hs]; decide) (by rw [hs]; decide) (by rw [hs]; rfl) (by decide) ?_
    refine g_bipush (pc := 67) X (v := nI 48) d_O_digestOf_67 (by decide) ?_
    exact kret _ () _ 69 (by simp [dgN, hs]) d_O_digestOf_69
  · refine g_tableIn (pc := 1) X (tgt := 70) d_O_digestOf_1 (by rw [hs]; decide) (by rw [hs]; decide) (by rw [hs]; rfl) (by decide) ?_
    refine g_bipush (pc := 70) X (v := nI 64) d_O_digestOf_70 (by decide) ?_
    exact kret _ () _ 72 (by simp [dgN, hs]) d_O_digestOf_72
  · refine g_tableIn (pc := 1) X (tgt := 64) d_O_digestOf_1 (by rw [hs]; decide) (by rw [hs]; decide) (by rw [hs]; rfl) (by decide) ?_
    refine g_bipush (pc := 64) X (v := nI 32) d_O_digestOf_64 (by decide) ?_
    exact kret _ () _ 66 (by simp [dgN, hs]) d_O_digestOf_66
  · refine g_tableIn (pc := 1) X (tgt := 70) d_O_digestOf_1 (by rw [hs]; decide) (by rw [hs]; decide) (by rw [hs]; rfl) (by decide) ?_
    refine g_bipush (pc := 70) X (v := nI 64) d_O_digestOf_70 (by decide) ?_
    exact kret _ () _ 72 (by simp [dgN, hs]) d_O_digestOf_72

theorem c_O_begin_b (l : Launch) (B : Bx) (a : Nat) (q : Nat → Nat) (tp : Nat) (kd : Nat) (rt : Nat) (fl : Nat) (tt : Nat) (cd : Int32) (k : Nat) (S : Nat → Int64) (ro : Nat → Int64) (s2 : Nat → Int64) (s5 : Nat → Int64) (h1 : 1 ≤ k) (h2 : k ≤ 6) : Cv (S := Unit) l B y_O_begin b_O_begin 3 (Rm 2 0 0) [.ref a, .int (nI k)] [co a 4 [.ref (q 0), .ref (q 1), .ref (q 2), .int (nI tp), .int cd, .ref (q 3), .ref (q 4), .ref (q 5), .ref (q 6), .ref (q 7), .ref (q 8), .ref (q 9), .ref (q 10), .ref (q 11), .ref (q 12), .ref (q 13), .ref (q 14), .ref (q 15), .int (nI kd), .int (nI rt), .int (nI fl), .long (lN tt), .ref (q 16), .ref (q 17)], cj B (q 11) 25 S, cj B (q 3) 16 ro, cj B (q 5) 8 s2, cj B (q 6) 8 s5] (fun _ => True) (fun _ => [co a 4 [.ref (q 0), .ref (q 1), .ref (q 2), .int (nI tp), .int cd, .ref (q 3), .ref (q 4), .ref (q 5), .ref (q 6), .ref (q 7), .ref (q 8), .ref (q 9), .ref (q 10), .ref (q 11), .ref (q 12), .ref (q 13), .ref (q 14), .ref (q 15), .int (nI k), .int (nI (rtN k)), .int (nI 0), .long (lN 0), .ref (q 16), .ref (q 17)], cj B (q 11) 25 (bgS k ro s2 s5 S), cj B (q 3) 16 ro, cj B (q 5) 8 s2, cj B (q 6) 8 s5]) := by
  refine ctr_v (by decide) (Nat.le_of_ble_eq_true rfl) ?_
  intro M Q hl hR hin X kret
  subst hl
  refine g_lv [(0, .ref a), (1, .int (nI k))] rfl ?_
  refine g_aload_n (pc := 0) X (i := 0) d_O_begin_0 rfl rfl ?_
  refine g_iload_n (pc := 1) X (i := 1) d_O_begin_1 rfl rfl ?_
  refine g_put (pc := 2) X in_O ty_O ok_O nm_O 0 rfl rfl 18 (by decide) wd_837 rfl rfl rfl (Nat.le_of_ble_eq_true rfl) d_O_begin_2 ?_
  refine g_wsq [co a 4 [.ref (q 0), .ref (q 1), .ref (q 2), .int (nI tp), .int cd, .ref (q 3), .ref (q 4), .ref (q 5), .ref (q 6), .ref (q 7), .ref (q 8), .ref (q 9), .ref (q 10), .ref (q 11), .ref (q 12), .ref (q 13), .ref (q 14), .ref (q 15), .int (nI k), .int (nI rt), .int (nI fl), .long (lN tt), .ref (q 16), .ref (q 17)], cj B (q 11) 25 S, cj B (q 3) 16 ro, cj B (q 5) 8 s2, cj B (q 6) 8 s5] rfl ?_
  refine g_aload_n (pc := 5) X (i := 0) d_O_begin_5 rfl rfl ?_
  refine g_iconst (pc := 6) X (v := nI 0) d_O_begin_6 (by decide) ?_
  refine g_put (pc := 7) X in_O ty_O ok_O nm_O 0 rfl rfl 20 (by decide) wd_839 rfl rfl rfl (Nat.le_of_ble_eq_true rfl) d_O_begin_7 ?_
  refine g_wsq [co a 4 [.ref (q 0), .ref (q 1), .ref (q 2), .int (nI tp), .int cd, .ref (q 3), .ref (q 4), .ref (q 5), .ref (q 6), .ref (q 7), .ref (q 8), .ref (q 9), .ref (q 10), .ref (q 11), .ref (q 12), .ref (q 13), .ref (q 14), .ref (q 15), .int (nI k), .int (nI rt), .int (nI 0), .long (lN tt), .ref (q 16), .ref (q 17)], cj B (q 11) 25 S, cj B (q 3) 16 ro, cj B (q 5) 8 s2, cj B (q 6) 8 s5] rfl ?_
  refine g_aload_n (pc := 10) X (i := 0) d_O_begin_10 rfl rfl ?_
  refine g_lconst (pc := 11) X (v := 0) d_O_begin_11 (by decide) ?_
  refine g_setl (lN 0) rfl ?_
  refine g_put (pc := 12) X in_O ty_O ok_O nm_O 0 rfl rfl 21 (by decide) wd_840 rfl rfl rfl (Nat.le_of_ble_eq_true rfl) d_O_begin_12 ?_
  refine g_wsq [co a 4 [.ref (q 0), .ref (q 1), .ref (q 2), .int (nI tp), .int cd, .ref (q 3), .ref (q 4), .ref (q 5), .ref (q 6), .ref (q 7), .ref (q 8), .ref (q 9), .ref (q 10), .ref (q 11), .ref (q 12), .ref (q 13), .ref (q 14), .ref (q 15), .int (nI k), .int (nI rt), .int (nI 0), .long (lN 0), .ref (q 16), .ref (q 17)], cj B (q 11) 25 S, cj B (q 3) 16 ro, cj B (q 5) 8 s2, cj B (q 6) 8 s5] rfl ?_
  refine g_iconst (pc := 15) X (v := nI 0) d_O_begin_15 (by decide) ?_
  refine g_istore_n (pc := 16) X (i := 2) d_O_begin_16 rfl (by decide) ?_
  refine g_lv [(0, .ref a), (1, .int (nI k)), (2, .int (nI 0))] rfl ?_
  refine g_lv [(0, .ref a), (1, .int (nI k)), (2, .int (nI 0))] rfl ?_
  refine g_wsq [co a 4 [.ref (q 0), .ref (q 1), .ref (q 2), .int (nI tp), .int cd, .ref (q 3), .ref (q 4), .ref (q 5), .ref (q 6), .ref (q 7), .ref (q 8), .ref (q 9), .ref (q 10), .ref (q 11), .ref (q 12), .ref (q 13), .ref (q 14), .ref (q 15), .int (nI k), .int (nI rt), .int (nI 0), .long (lN 0), .ref (q 16), .ref (q 17)], cj B (q 11) 25 (fil S 0 0 0), cj B (q 3) 16 ro, cj B (q 5) 8 s2, cj B (q 6) 8 s5] (by rw [← fil_0]) ?_
  refine loopK (fun j => G B M 3 0 0 Q [co a 4 [.ref (q 0), .ref (q 1), .ref (q 2), .int (nI tp), .int cd, .ref (q 3), .ref (q 4), .ref (q 5), .ref (q 6), .ref (q 7), .ref (q 8), .ref (q 9), .ref (q 10), .ref (q 11), .ref (q 12), .ref (q 13), .ref (q 14), .ref (q 15), .int (nI k), .int (nI rt), .int (nI 0), .long (lN 0), .ref (q 16), .ref (q 17)], cj B (q 11) 25 (fil S 0 j 0), cj B (q 3) 16 ro, cj B (q 5) 8 s2, cj B (q 6) 8 s5] [(0, .ref a), (1, .int (nI k)), (2, .int (nI j))] 17 []) 25 ?_ ?_
  · intro j hk17 kk17
    show G B M 3 0 0 Q [co a 4 [.ref (q 0), .ref (q 1), .ref (q 2), .int (nI tp), .int cd, .ref (q 3), .ref (q 4), .ref (q 5), .ref (q 6), .ref (q 7), .ref (q 8), .ref (q 9), .ref (q 10), .ref (q 11), .ref (q 12), .ref (q 13), .ref (q 14), .ref (q 15), .int (nI k), .int (nI rt), .int (nI 0), .long (lN 0), .ref (q 16), .ref (q 17)], cj B (q 11) 25 (fil S 0 j 0), cj B (q 3) 16 ro, cj B (q 5) 8 s2, cj B (q 6) 8 s5] [(0, .ref a), (1, .int (nI k)), (2, .int (nI j))] 17 []
    refine g_iload_n (pc := 17) X (i := 2) d_O_begin_17 rfl rfl ?_
    refine g_bipush (pc := 18) X (v := nI 25) d_O_begin_18 (by decide) ?_
    refine g_icmp_geN (pc := 20) X (tgt := 36) d_O_begin_20 (by decide) (by omega) (by omega) (fun h_20 => absurd h_20 (by omega)) (fun h_20 => ?_)
    refine g_aload_n (pc := 23) X (i := 0) d_O_begin_23 rfl rfl ?_
    refine g_get (pc := 24) X in_O 0 rfl rfl 13 (by decide) wd_832 rfl d_O_begin_24 ?_
    refine g_iload_n (pc := 27) X (i := 2) d_O_begin_27 rfl rfl ?_
    refine g_lconst (pc := 28) X (v := 0) d_O_begin_28 (by decide) ?_
    refine g_last (pc := 29) X 1 rfl j rfl (by omega) (by omega) d_O_begin_29 ?_
    refine g_wsq [co a 4 [.ref (q 0), .ref (q 1), .ref (q 2), .int (nI tp), .int cd, .ref (q 3), .ref (q 4), .ref (q 5), .ref (q 6), .ref (q 7), .ref (q 8), .ref (q 9), .ref (q 10), .ref (q 11), .ref (q 12), .ref (q 13), .ref (q 14), .ref (q 15), .int (nI k), .int (nI rt), .int (nI 0), .long (lN 0), .ref (q 16), .ref (q 17)], cj B (q 11) 25 (va_up (fil S 0 j 0) j 0), cj B (q 3) 16 ro, cj B (q 5) 8 s2, cj B (q 6) 8 s5] rfl ?_
    refine g_iincN (pc := 30) X (a := j) (j + 1) d_O_begin_30 rfl 1 rfl (by omega) (by decide) ?_
    refine g_lv [(0, .ref a), (1, .int (nI k)), (2, .int (nI (j + 1)))] rfl ?_
    refine g_goto (pc := 33) X (tgt := 17) d_O_begin_33 (by decide) ?_
    refine g_lv [(0, .ref a), (1, .int (nI k)), (2, .int (nI (j + 1)))] rfl ?_
    refine g_wsq [co a 4 [.ref (q 0), .ref (q 1), .ref (q 2), .int (nI tp), .int cd, .ref (q 3), .ref (q 4), .ref (q 5), .ref (q 6), .ref (q 7), .ref (q 8), .ref (q 9), .ref (q 10), .ref (q 11), .ref (q 12), .ref (q 13), .ref (q 14), .ref (q 15), .int (nI k), .int (nI rt), .int (nI 0), .long (lN 0), .ref (q 16), .ref (q 17)], cj B (q 11) 25 (fil S 0 (j + 1) 0), cj B (q 3) 16 ro, cj B (q 5) 8 s2, cj B (q 6) 8 s5] (by rw [fil_s _ (by omega)]) ?_
    exact kk17
  · show G B M 3 0 0 Q [co a 4 [.ref (q 0), .ref (q 1), .ref (q 2), .int (nI tp), .int cd, .ref (q 3), .ref (q 4), .ref (q 5), .ref (q 6), .ref (q 7), .ref (q 8), .ref (q 9), .ref (q 10), .ref (q 11), .ref (q 12), .ref (q 13), .ref (q 14), .ref (q 15), .int (nI k), .int (nI rt), .int (nI 0), .long (lN 0), .ref (q 16), .ref (q 17)], cj B (q 11) 25 (fil S 0 25 0), cj B (q 3) 16 ro, cj B (q 5) 8 s2, cj B (q 6) 8 s5] [(0, .ref a), (1, .int (nI k)), (2, .int (nI 25))] 17 []
    refine g_iload_n (pc := 17) X (i := 2) d_O_begin_17 rfl rfl ?_
    refine g_bipush (pc := 18) X (v := nI 25) d_O_begin_18 (by decide) ?_
    refine g_icmp_geN (pc := 20) X (tgt := 36) d_O_begin_20 (by decide) (by omega) (by omega) (fun h_20 => ?_) (fun h_20 => absurd h_20 (by omega))
    refine g_aload_n (pc := 36) X (i := 0) d_O_begin_36 rfl rfl ?_
    refine g_iload_n (pc := 37) X (i := 1) d_O_begin_37 rfl rfl ?_
    refine g_bipush (pc := 38) X (v := nI 11) d_O_begin_38 (by decide) ?_
    refine g_icmp_neN (pc := 40) X (tgt := 49) d_O_begin_40 (by decide) (by omega) (by omega) (fun h_40 => ?_) (fun h_40 => absurd h_40 (by omega))
    refine g_iload_n (pc := 49) X (i := 1) d_O_begin_49 rfl rfl ?_
    refine g_bipush (pc := 50) X (v := nI 12) d_O_begin_50 (by decide) ?_
    refine g_icmp_neN (pc := 52) X (tgt := 61) d_O_begin_52 (by decide) (by omega) (by omega) (fun h_52 => ?_) (fun h_52 => absurd h_52 (by omega))
    refine g_iload_n (pc := 61) X (i := 1) d_O_begin_61 rfl rfl ?_
    refine g_bipush (pc := 62) X (v := nI 6) d_O_begin_62 (by decide) ?_
    refine g_icmp_leN (pc := 64) X (tgt := 80) d_O_begin_64 (by decide) (by omega) (by omega) (fun h_64 => ?_) (fun h_64 => absurd h_64 (by omega))
    refine g_iload_n (pc := 80) X (i := 1) d_O_begin_80 rfl rfl ?_
    refine g_callSi (pc := 81) X (c_O_blockOf (m_l M) B k (by omega)) wd_774 wd_775 wd_5 wd_776 hd_O_blockOf [] rfl rfl [] (fun _ => rfl) rfl (by rw [hR]; decide) (by rw [hR]; decide) rfl (Nat.le_of_ble_eq_true rfl) d_O_begin_81 (fun r9 _ hr9 => ?_)
    subst hr9
    refine g_wsq [co a 4 [.ref (q 0), .ref (q 1), .ref (q 2), .int (nI tp), .int cd, .ref (q 3), .ref (q 4), .ref (q 5), .ref (q 6), .ref (q 7), .ref (q 8), .ref (q 9), .ref (q 10), .ref (q 11), .ref (q 12), .ref (q 13), .ref (q 14), .ref (q 15), .int (nI k), .int (nI rt), .int (nI 0), .long (lN 0), .ref (q 16), .ref (q 17)], cj B (q 11) 25 (fil S 0 25 0), cj B (q 3) 16 ro, cj B (q 5) 8 s2, cj B (q 6) 8 s5] rfl ?_
    rw [show blN k = rtN k by simp [rtN, show ¬ k = 11 by omega, show ¬ k = 12 by omega, show ¬ 6 < k by omega]]
    refine g_put (pc := 84) X in_O ty_O ok_O nm_O 0 rfl rfl 19 (by decide) wd_838 rfl rfl rfl (Nat.le_of_ble_eq_true rfl) d_O_begin_84 ?_
    refine g_wsq [co a 4 [.ref (q 0), .ref (q 1), .ref (q 2), .int (nI tp), .int cd, .ref (q 3), .ref (q 4), .ref (q 5), .ref (q 6), .ref (q 7), .ref (q 8), .ref (q 9), .ref (q 10), .ref (q 11), .ref (q 12), .ref (q 13), .ref (q 14), .ref (q 15), .int (nI k), .int (nI (rtN k)), .int (nI 0), .long (lN 0), .ref (q 16), .ref (q 17)], cj B (q 11) 25 (fil S 0 25 0), cj B (q 3) 16 ro, cj B (q 5) 8 s2, cj B (q 6) 8 s5] rfl ?_
    refine g_iconst (pc := 87) X (v := nI 0) d_O_begin_87 (by decide) ?_
    refine g_istore_n (pc := 88) X (i := 2) d_O_begin_88 rfl (by decide) ?_
    refine g_lv [(0, .ref a), (1, .int (nI k)), (2, .int (nI 0))] rfl ?_
    refine g_lv [(0, .ref a), (1, .int (nI k)), (2, .int (nI 0))] rfl ?_
    refine loopF (σ := Nat → Int64) (bgF k ro s2 s5) (fun i z => G B M 3 0 0 Q [co a 4 [.ref (q 0), .ref (q 1), .ref (q 2), .int (nI tp), .int cd, .ref (q 3), .ref (q 4), .ref (q 5), .ref (q 6), .ref (q 7), .ref (q 8), .ref (q 9), .ref (q 10), .ref (q 11), .ref (q 12), .ref (q 13), .ref (q 14), .ref (q 15), .int (nI k), .int (nI (rtN k)), .int (nI 0), .long (lN 0), .ref (q 16), .ref (q 17)], cj B (q 11) 25 z, cj B (q 3) 16 ro, cj B (q 5) 8 s2, cj B (q 6) 8 s5] [(0, .ref a), (1, .int (nI k)), (2, .int (nI i))] 89 []) 8 (fil S 0 25 0) ?_ ?_
    · intro i z hk89 kk89
      show G B M 3 0 0 Q [co a 4 [.ref (q 0), .ref (q 1), .ref (q 2), .int (nI tp), .int cd, .ref (q 3), .ref (q 4), .ref (q 5), .ref (q 6), .ref (q 7), .ref (q 8), .ref (q 9), .ref (q 10), .ref (q 11), .ref (q 12), .ref (q 13), .ref (q 14), .ref (q 15), .int (nI k), .int (nI (rtN k)), .int (nI 0), .long (lN 0), .ref (q 16), .ref (q 17)], cj B (q 11) 25 z, cj B (q 3) 16 ro, cj B (q 5) 8 s2, cj B (q 6) 8 s5] [(0, .ref a), (1, .int (nI k)), (2, .int (nI i))] 89 []
      refine g_iload_n (pc := 89) X (i := 2) d_O_begin_89 rfl rfl ?_
      refine g_bipush (pc := 90) X (v := nI 8) d_O_begin_90 (by decide) ?_
      refine g_icmp_geN (pc := 92) X (tgt := 203) d_O_begin_92 (by decide) (by omega) (by omega) (fun h_92 => absurd h_92 (by omega)) (fun h_92 => ?_)
      refine g_iload_n (pc := 95) X (i := 1) d_O_begin_95 rfl rfl ?_
      refine g_bipush (pc := 96) X (v := nI 7) d_O_begin_96 (by decide) ?_
      refine g_icmp_geN (pc := 98) X (tgt := 203) d_O_begin_98 (by decide) (by omega) (by omega) (fun h_98 => absurd h_98 (by omega)) (fun h_98 => ?_)
      refine g_aload_n (pc := 101) X (i := 0) d_O_begin_101 rfl rfl ?_
      refine g_get (pc := 102) X in_O 0 rfl rfl 13 (by decide) wd_832 rfl d_O_begin_102 ?_
      refine g_iload_n (pc := 105) X (i := 2) d_O_begin_105 rfl rfl ?_
      refine g_iload_n (pc := 106) X (i := 1) d_O_begin_106 rfl rfl ?_
      refine g_iconst (pc := 107) X (v := nI 1) d_O_begin_107 (by decide) ?_
      refine g_icmp_neN (pc := 108) X (tgt := 123) d_O_begin_108 (by decide) (by omega) (by omega) (fun h_108 => ?_) (fun h_108 => ?_)
      · refine g_iload_n (pc := 123) X (i := 1) d_O_begin_123 rfl rfl ?_
        refine g_iconst (pc := 124) X (v := nI 4) d_O_begin_124 (by decide) ?_
        refine g_icmp_neN (pc := 125) X (tgt := 144) d_O_begin_125 (by decide) (by omega) (by omega) (fun h_125 => ?_) (fun h_125 => ?_)
        · refine g_iload_n (pc := 144) X (i := 1) d_O_begin_144 rfl rfl ?_
          refine g_iconst (pc := 145) X (v := nI 2) d_O_begin_145 (by decide) ?_
          refine g_icmp_neN (pc := 146) X (tgt := 161) d_O_begin_146 (by decide) (by omega) (by omega) (fun h_146 => ?_) (fun h_146 => ?_)
          · refine g_iload_n (pc := 161) X (i := 1) d_O_begin_161 rfl rfl ?_
            refine g_iconst (pc := 162) X (v := nI 5) d_O_begin_162 (by decide) ?_
            refine g_icmp_neN (pc := 163) X (tgt := 175) d_O_begin_163 (by decide) (by omega) (by omega) (fun h_163 => ?_) (fun h_163 => ?_)
            · refine g_iload_n (pc := 175) X (i := 1) d_O_begin_175 rfl rfl ?_
              refine g_bipush (pc := 176) X (v := nI 6) d_O_begin_176 (by decide) ?_
              refine g_icmp_neN (pc := 178) X (tgt := 190) d_O_begin_178 (by decide) (by omega) (by omega) (fun h_178 => ?_) (fun h_178 => ?_)
              · refine g_aload_n (pc := 190) X (i := 0) d_O_begin_190 rfl rfl ?_
                refine g_get (pc := 191) X in_O 0 rfl rfl 5 (by decide) wd_824 rfl d_O_begin_191 ?_
                refine g_iload_n (pc := 194) X (i := 2) d_O_begin_194 rfl rfl ?_
                refine g_lald (pc := 195) X 2 rfl i rfl (by omega) (by omega) d_O_begin_195 ?_
                refine g_last (pc := 196) X 1 rfl i rfl (by omega) (by omega) d_O_begin_196 ?_
                refine g_wsq [co a 4 [.ref (q 0), .ref (q 1), .ref (q 2), .int (nI tp), .int cd, .ref (q 3), .ref (q 4), .ref (q 5), .ref (q 6), .ref (q 7), .ref (q 8), .ref (q 9), .ref (q 10), .ref (q 11), .ref (q 12), .ref (q 13), .ref (q 14), .ref (q 15), .int (nI k), .int (nI (rtN k)), .int (nI 0), .long (lN 0), .ref (q 16), .ref (q 17)], cj B (q 11) 25 (va_up z i (ro i)), cj B (q 3) 16 ro, cj B (q 5) 8 s2, cj B (q 6) 8 s5] rfl ?_
                refine g_iincN (pc := 197) X (a := i) (i + 1) d_O_begin_197 rfl 1 rfl (by omega) (by decide) ?_
                refine g_lv [(0, .ref a), (1, .int (nI k)), (2, .int (nI (i + 1)))] rfl ?_
                refine g_goto (pc := 200) X (tgt := 89) d_O_begin_200 (by decide) ?_
                refine g_lv [(0, .ref a), (1, .int (nI k)), (2, .int (nI (i + 1)))] rfl ?_
                exact kk89 _ (by unfold bgF bgV; repeat (first | rw [if_pos (by omega)] | rw [if_neg (by omega)]))
              · refine g_aload_n (pc := 181) X (i := 0) d_O_begin_181 rfl rfl ?_
                refine g_get (pc := 182) X in_O 0 rfl rfl 8 (by decide) wd_827 rfl d_O_begin_182 ?_
                refine g_iload_n (pc := 185) X (i := 2) d_O_begin_185 rfl rfl ?_
                refine g_lald (pc := 186) X 4 rfl i rfl (by omega) (by omega) d_O_begin_186 ?_
                refine g_goto (pc := 187) X (tgt := 196) d_O_begin_187 (by decide) ?_
                refine g_last (pc := 196) X 1 rfl i rfl (by omega) (by omega) d_O_begin_196 ?_
                refine g_wsq [co a 4 [.ref (q 0), .ref (q 1), .ref (q 2), .int (nI tp), .int cd, .ref (q 3), .ref (q 4), .ref (q 5), .ref (q 6), .ref (q 7), .ref (q 8), .ref (q 9), .ref (q 10), .ref (q 11), .ref (q 12), .ref (q 13), .ref (q 14), .ref (q 15), .int (nI k), .int (nI (rtN k)), .int (nI 0), .long (lN 0), .ref (q 16), .ref (q 17)], cj B (q 11) 25 (va_up z i (s5 i)), cj B (q 3) 16 ro, cj B (q 5) 8 s2, cj B (q 6) 8 s5] rfl ?_
                refine g_iincN (pc := 197) X (a := i) (i + 1) d_O_begin_197 rfl 1 rfl (by omega) (by decide) ?_
                refine g_lv [(0, .ref a), (1, .int (nI k)), (2, .int (nI (i + 1)))] rfl ?_
                refine g_goto (pc := 200) X (tgt := 89) d_O_begin_200 (by decide) ?_
                refine g_lv [(0, .ref a), (1, .int (nI k)), (2, .int (nI (i + 1)))] rfl ?_
                exact kk89 _ (by unfold bgF bgV; repeat (first | rw [if_pos (by omega)] | rw [if_neg (by omega)]))
            · refine g_aload_n (pc := 166) X (i := 0) d_O_begin_166 rfl rfl ?_
              refine g_get (pc := 167) X in_O 0 rfl rfl 7 (by decide) wd_826 rfl d_O_begin_167 ?_
              refine g_iload_n (pc := 170) X (i := 2) d_O_begin_170 rfl rfl ?_
              refine g_lald (pc := 171) X 3 rfl i rfl (by omega) (by omega) d_O_begin_171 ?_
              refine g_goto (pc := 172) X (tgt := 196) d_O_begin_172 (by decide) ?_
              refine g_last (pc := 196) X 1 rfl i rfl (by omega) (by omega) d_O_begin_196 ?_
              refine g_wsq [co a 4 [.ref (q 0), .ref (q 1), .ref (q 2), .int (nI tp), .int cd, .ref (q 3), .ref (q 4), .ref (q 5), .ref (q 6), .ref (q 7), .ref (q 8), .ref (q 9), .ref (q 10), .ref (q 11), .ref (q 12), .ref (q 13), .ref (q 14), .ref (q 15), .int (nI k), .int (nI (rtN k)), .int (nI 0), .long (lN 0), .ref (q 16), .ref (q 17)], cj B (q 11) 25 (va_up z i (s2 i)), cj B (q 3) 16 ro, cj B (q 5) 8 s2, cj B (q 6) 8 s5] rfl ?_
              refine g_iincN (pc := 197) X (a := i) (i + 1) d_O_begin_197 rfl 1 rfl (by omega) (by decide) ?_
              refine g_lv [(0, .ref a), (1, .int (nI k)), (2, .int (nI (i + 1)))] rfl ?_
              refine g_goto (pc := 200) X (tgt := 89) d_O_begin_200 (by decide) ?_
              refine g_lv [(0, .ref a), (1, .int (nI k)), (2, .int (nI (i + 1)))] rfl ?_
              exact kk89 _ (by unfold bgF bgV; repeat (first | rw [if_pos (by omega)] | rw [if_neg (by omega)]))
          · refine g_aload_n (pc := 149) X (i := 0) d_O_begin_149 rfl rfl ?_
            refine g_get (pc := 150) X in_O 0 rfl rfl 5 (by decide) wd_824 rfl d_O_begin_150 ?_
            refine g_bipush (pc := 153) X (v := nI 8) d_O_begin_153 (by decide) ?_
            refine g_iload_n (pc := 155) X (i := 2) d_O_begin_155 rfl rfl ?_
            refine g_iaddN (pc := 156) X (8 + i) (by omega) d_O_begin_156 ?_
            refine g_lald (pc := 157) X 2 rfl (8 + i) rfl (by omega) (by omega) d_O_begin_157 ?_
            refine g_goto (pc := 158) X (tgt := 196) d_O_begin_158 (by decide) ?_
            refine g_last (pc := 196) X 1 rfl i rfl (by omega) (by omega) d_O_begin_196 ?_
            refine g_wsq [co a 4 [.ref (q 0), .ref (q 1), .ref (q 2), .int (nI tp), .int cd, .ref (q 3), .ref (q 4), .ref (q 5), .ref (q 6), .ref (q 7), .ref (q 8), .ref (q 9), .ref (q 10), .ref (q 11), .ref (q 12), .ref (q 13), .ref (q 14), .ref (q 15), .int (nI k), .int (nI (rtN k)), .int (nI 0), .long (lN 0), .ref (q 16), .ref (q 17)], cj B (q 11) 25 (va_up z i (ro (8 + i))), cj B (q 3) 16 ro, cj B (q 5) 8 s2, cj B (q 6) 8 s5] rfl ?_
            refine g_iincN (pc := 197) X (a := i) (i + 1) d_O_begin_197 rfl 1 rfl (by omega) (by decide) ?_
            refine g_lv [(0, .ref a), (1, .int (nI k)), (2, .int (nI (i + 1)))] rfl ?_
            refine g_goto (pc := 200) X (tgt := 89) d_O_begin_200 (by decide) ?_
            refine g_lv [(0, .ref a), (1, .int (nI k)), (2, .int (nI (i + 1)))] rfl ?_
            exact kk89 _ (by unfold bgF bgV; repeat (first | rw [if_pos (by omega)] | rw [if_neg (by omega)]))
        · refine g_aload_n (pc := 128) X (i := 0) d_O_begin_128 rfl rfl ?_
          refine g_get (pc := 129) X in_O 0 rfl rfl 5 (by decide) wd_824 rfl d_O_begin_129 ?_
          refine g_bipush (pc := 132) X (v := nI 8) d_O_begin_132 (by decide) ?_
          refine g_iload_n (pc := 134) X (i := 2) d_O_begin_134 rfl rfl ?_
          refine g_iaddN (pc := 135) X (8 + i) (by omega) d_O_begin_135 ?_
          refine g_lald (pc := 136) X 2 rfl (8 + i) rfl (by omega) (by omega) d_O_begin_136 ?_
          refine g_ldc2 (pc := 137) X wd_777 d_O_begin_137 ?_
          refine g_land (pc := 140) X d_O_begin_140 ?_
          refine g_goto (pc := 141) X (tgt := 196) d_O_begin_141 (by decide) ?_
          refine g_last (pc := 196) X 1 rfl i rfl (by omega) (by omega) d_O_begin_196 ?_
          refine g_wsq [co a 4 [.ref (q 0), .ref (q 1), .ref (q 2), .int (nI tp), .int cd, .ref (q 3), .ref (q 4), .ref (q 5), .ref (q 6), .ref (q 7), .ref (q 8), .ref (q 9), .ref (q 10), .ref (q 11), .ref (q 12), .ref (q 13), .ref (q 14), .ref (q 15), .int (nI k), .int (nI (rtN k)), .int (nI 0), .long (lN 0), .ref (q 16), .ref (q 17)], cj B (q 11) 25 (va_up z i ((ro (8 + i)) &&& 4294967295)), cj B (q 3) 16 ro, cj B (q 5) 8 s2, cj B (q 6) 8 s5] rfl ?_
          refine g_iincN (pc := 197) X (a := i) (i + 1) d_O_begin_197 rfl 1 rfl (by omega) (by decide) ?_
          refine g_lv [(0, .ref a), (1, .int (nI k)), (2, .int (nI (i + 1)))] rfl ?_
          refine g_goto (pc := 200) X (tgt := 89) d_O_begin_200 (by decide) ?_
          refine g_lv [(0, .ref a), (1, .int (nI k)), (2, .int (nI (i + 1)))] rfl ?_
          exact kk89 _ (by unfold bgF bgV; repeat (first | rw [if_pos (by omega)] | rw [if_neg (by omega)]))
      · refine g_aload_n (pc := 111) X (i := 0) d_O_begin_111 rfl rfl ?_
        refine g_get (pc := 112) X in_O 0 rfl rfl 5 (by decide) wd_824 rfl d_O_begin_112 ?_
        refine g_iload_n (pc := 115) X (i := 2) d_O_begin_115 rfl rfl ?_
        refine g_lald (pc := 116) X 2 rfl i rfl (by omega) (by omega) d_O_begin_116 ?_
        refine g_bipush (pc := 117) X (v := nI 32) d_O_begin_117 (by decide) ?_
        refine g_lushr (pc := 119) X (v := lush (ro i) (nI 32)) d_O_begin_119 rfl ?_
        refine g_goto (pc := 120) X (tgt := 196) d_O_begin_120 (by decide) ?_
        refine g_last (pc := 196) X 1 rfl i rfl (by omega) (by omega) d_O_begin_196 ?_
        refine g_wsq [co a 4 [.ref (q 0), .ref (q 1), .ref (q 2), .int (nI tp), .int cd, .ref (q 3), .ref (q 4), .ref (q 5), .ref (q 6), .ref (q 7), .ref (q 8), .ref (q 9), .ref (q 10), .ref (q 11), .ref (q 12), .ref (q 13), .ref (q 14), .ref (q 15), .int (nI k), .int (nI (rtN k)), .int (nI 0), .long (lN 0), .ref (q 16), .ref (q 17)], cj B (q 11) 25 (va_up z i (lush (ro i) (nI 32))), cj B (q 3) 16 ro, cj B (q 5) 8 s2, cj B (q 6) 8 s5] rfl ?_
        refine g_iincN (pc := 197) X (a := i) (i + 1) d_O_begin_197 rfl 1 rfl (by omega) (by decide) ?_
        refine g_lv [(0, .ref a), (1, .int (nI k)), (2, .int (nI (i + 1)))] rfl ?_
        refine g_goto (pc := 200) X (tgt := 89) d_O_begin_200 (by decide) ?_
        refine g_lv [(0, .ref a), (1, .int (nI k)), (2, .int (nI (i + 1)))] rfl ?_
        exact kk89 _ (by unfold bgF bgV; repeat (first | rw [if_pos (by omega)] | rw [if_neg (by omega)]))
    · rw [show it (bgF k ro s2 s5) 8 (fil S 0 25 0) = bgS k ro s2 s5 S from rfl]
      show G B M 3 0 0 Q [co a 4 [.ref (q 0), .ref (q 1), .ref (q 2), .int (nI tp), .int cd, .ref (q 3), .ref (q 4), .ref (q 5), .ref (q 6), .ref (q 7), .ref (q 8), .ref (q 9), .ref (q 10), .ref (q 11), .ref (q 12), .ref (q 13), .ref (q 14), .ref (q 15), .int (nI k), .int (nI (rtN k)), .int (nI 0), .long (lN 0), .ref (q 16), .ref (q 17)], cj B (q 11) 25 (bgS k ro s2 s5 S), cj B (q 3) 16 ro, cj B (q 5) 8 s2, cj B (q 6) 8 s5] [(0, .ref a), (1, .int (nI k)), (2, .int (nI 8))] 89 []
      refine g_iload_n (pc := 89) X (i := 2) d_O_begin_89 rfl rfl ?_
      refine g_bipush (pc := 90) X (v := nI 8) d_O_begin_90 (by decide) ?_
      refine g_icmp_geN (pc := 92) X (tgt := 203) d_O_begin_92 (by decide) (by omega) (by omega) (fun h_92 => ?_) (fun h_92 => absurd h_92 (by omega))
      exact kret () _ 203 trivial d_O_begin_203

theorem c_O_begin_s (l : Launch) (B : Bx) (a : Nat) (q : Nat → Nat) (tp : Nat) (kd : Nat) (rt : Nat) (fl : Nat) (tt : Nat) (cd : Int32) (k : Nat) (S : Nat → Int64) (ro : Nat → Int64) (s2 : Nat → Int64) (s5 : Nat → Int64) (h1 : 6 < k) (h2 : k ≤ 12) : Cv (S := Unit) l B y_O_begin b_O_begin 3 (Rm 2 0 0) [.ref a, .int (nI k)] [co a 4 [.ref (q 0), .ref (q 1), .ref (q 2), .int (nI tp), .int cd, .ref (q 3), .ref (q 4), .ref (q 5), .ref (q 6), .ref (q 7), .ref (q 8), .ref (q 9), .ref (q 10), .ref (q 11), .ref (q 12), .ref (q 13), .ref (q 14), .ref (q 15), .int (nI kd), .int (nI rt), .int (nI fl), .long (lN tt), .ref (q 16), .ref (q 17)], cj B (q 11) 25 S] (fun _ => True) (fun _ => [co a 4 [.ref (q 0), .ref (q 1), .ref (q 2), .int (nI tp), .int cd, .ref (q 3), .ref (q 4), .ref (q 5), .ref (q 6), .ref (q 7), .ref (q 8), .ref (q 9), .ref (q 10), .ref (q 11), .ref (q 12), .ref (q 13), .ref (q 14), .ref (q 15), .int (nI k), .int (nI (rtN k)), .int (nI 0), .long (lN 0), .ref (q 16), .ref (q 17)], cj B (q 11) 25 (fil S 0 25 0)]) := by
  refine ctr_v (by decide) (Nat.le_of_ble_eq_true rfl) ?_
  intro M Q hl hR hin X kret
  subst hl
  refine g_lv [(0, .ref a), (1, .int (nI k))] rfl ?_
  refine g_aload_n (pc := 0) X (i := 0) d_O_begin_0 rfl rfl ?_
  refine g_iload_n (pc := 1) X (i := 1) d_O_begin_1 rfl rfl ?_
  refine g_put (pc := 2) X in_O ty_O ok_O nm_O 0 rfl rfl 18 (by decide) wd_837 rfl rfl rfl (Nat.le_of_ble_eq_true rfl) d_O_begin_2 ?_
  refine g_wsq [co a 4 [.ref (q 0), .ref (q 1), .ref (q 2), .int (nI tp), .int cd, .ref (q 3), .ref (q 4), .ref (q 5), .ref (q 6), .ref (q 7), .ref (q 8), .ref (q 9), .ref (q 10), .ref (q 11), .ref (q 12), .ref (q 13), .ref (q 14), .ref (q 15), .int (nI k), .int (nI rt), .int (nI fl), .long (lN tt), .ref (q 16), .ref (q 17)], cj B (q 11) 25 S] rfl ?_
  refine g_aload_n (pc := 5) X (i := 0) d_O_begin_5 rfl rfl ?_
  refine g_iconst (pc := 6) X (v := nI 0) d_O_begin_6 (by decide) ?_
  refine g_put (pc := 7) X in_O ty_O ok_O nm_O 0 rfl rfl 20 (by decide) wd_839 rfl rfl rfl (Nat.le_of_ble_eq_true rfl) d_O_begin_7 ?_
  refine g_wsq [co a 4 [.ref (q 0), .ref (q 1), .ref (q 2), .int (nI tp), .int cd, .ref (q 3), .ref (q 4), .ref (q 5), .ref (q 6), .ref (q 7), .ref (q 8), .ref (q 9), .ref (q 10), .ref (q 11), .ref (q 12), .ref (q 13), .ref (q 14), .ref (q 15), .int (nI k), .int (nI rt), .int (nI 0), .long (lN tt), .ref (q 16), .ref (q 17)], cj B (q 11) 25 S] rfl ?_
  refine g_aload_n (pc := 10) X (i := 0) d_O_begin_10 rfl rfl ?_
  refine g_lconst (pc := 11) X (v := 0) d_O_begin_11 (by decide) ?_
  refine g_setl (lN 0) rfl ?_
  refine g_put (pc := 12) X in_O ty_O ok_O nm_O 0 rfl rfl 21 (by decide) wd_840 rfl rfl rfl (Nat.le_of_ble_eq_true rfl) d_O_begin_12 ?_
  refine g_wsq [co a 4 [.ref (q 0), .ref (q 1), .ref (q 2), .int (nI tp), .int cd, .ref (q 3), .ref (q 4), .ref (q 5), .ref (q 6), .ref (q 7), .ref (q 8), .ref (q 9), .ref (q 10), .ref (q 11), .ref (q 12), .ref (q 13), .ref (q 14), .ref (q 15), .int (nI k), .int (nI rt), .int (nI 0), .long (lN 0), .ref (q 16), .ref (q 17)], cj B (q 11) 25 S] rfl ?_
  refine g_iconst (pc := 15) X (v := nI 0) d_O_begin_15 (by decide) ?_
  refine g_istore_n (pc := 16) X (i := 2) d_O_begin_16 rfl (by decide) ?_
  refine g_lv [(0, .ref a), (1, .int (nI k)), (2, .int (nI 0))] rfl ?_
  refine g_lv [(0, .ref a), (1, .int (nI k)), (2, .int (nI 0))] rfl ?_
  refine g_wsq [co a 4 [.ref (q 0), .ref (q 1), .ref (q 2), .int (nI tp), .int cd, .ref (q 3), .ref (q 4), .ref (q 5), .ref (q 6), .ref (q 7), .ref (q 8), .ref (q 9), .ref (q 10), .ref (q 11), .ref (q 12), .ref (q 13), .ref (q 14), .ref (q 15), .int (nI k), .int (nI rt), .int (nI 0), .long (lN 0), .ref (q 16), .ref (q 17)], cj B (q 11) 25 (fil S 0 0 0)] (by rw [← fil_0]) ?_
  refine loopK (fun j => G B M 3 0 0 Q [co a 4 [.ref (q 0), .ref (q 1), .ref (q 2), .int (nI tp), .int cd, .ref (q 3), .ref (q 4), .ref (q 5), .ref (q 6), .ref (q 7), .ref (q 8), .ref (q 9), .ref (q 10), .ref (q 11), .ref (q 12), .ref (q 13), .ref (q 14), .ref (q 15), .int (nI k), .int (nI rt), .int (nI 0), .long (lN 0), .ref (q 16), .ref (q 17)], cj B (q 11) 25 (fil S 0 j 0)] [(0, .ref a), (1, .int (nI k)), (2, .int (nI j))] 17 []) 25 ?_ ?_
  · intro j hk17 kk17
    show G B M 3 0 0 Q [co a 4 [.ref (q 0), .ref (q 1), .ref (q 2), .int (nI tp), .int cd, .ref (q 3), .ref (q 4), .ref (q 5), .ref (q 6), .ref (q 7), .ref (q 8), .ref (q 9), .ref (q 10), .ref (q 11), .ref (q 12), .ref (q 13), .ref (q 14), .ref (q 15), .int (nI k), .int (nI rt), .int (nI 0), .long (lN 0), .ref (q 16), .ref (q 17)], cj B (q 11) 25 (fil S 0 j 0)] [(0, .ref a), (1, .int (nI k)), (2, .int (nI j))] 17 []
    refine g_iload_n (pc := 17) X (i := 2) d_O_begin_17 rfl rfl ?_
    refine g_bipush (pc := 18) X (v := nI 25) d_O_begin_18 (by decide) ?_
    refine g_icmp_geN (pc := 20) X (tgt := 36) d_O_begin_20 (by decide) (by omega) (by omega) (fun h_20 => absurd h_20 (by omega)) (fun h_20 => ?_)
    refine g_aload_n (pc := 23) X (i := 0) d_O_begin_23 rfl rfl ?_
    refine g_get (pc := 24) X in_O 0 rfl rfl 13 (by decide) wd_832 rfl d_O_begin_24 ?_
    refine g_iload_n (pc := 27) X (i := 2) d_O_begin_27 rfl rfl ?_
    refine g_lconst (pc := 28) X (v := 0) d_O_begin_28 (by decide) ?_
    refine g_last (pc := 29) X 1 rfl j rfl (by omega) (by omega) d_O_begin_29 ?_
    refine g_wsq [co a 4 [.ref (q 0), .ref (q 1), .ref (q 2), .int (nI tp), .int cd, .ref (q 3), .ref (q 4), .ref (q 5), .ref (q 6), .ref (q 7), .ref (q 8), .ref (q 9), .ref (q 10), .ref (q 11), .ref (q 12), .ref (q 13), .ref (q 14), .ref (q 15), .int (nI k), .int (nI rt), .int (nI 0), .long (lN 0), .ref (q 16), .ref (q 17)], cj B (q 11) 25 (va_up (fil S 0 j 0) j 0)] rfl ?_
    refine g_iincN (pc := 30) X (a := j) (j + 1) d_O_begin_30 rfl 1 rfl (by omega) (by decide) ?_
    refine g_lv [(0, .ref a), (1, .int (nI k)), (2, .int (nI (j + 1)))] rfl ?_
    refine g_goto (pc := 33) X (tgt := 17) d_O_begin_33 (by decide) ?_
    refine g_lv [(0, .ref a), (1, .int (nI k)), (2, .int (nI (j + 1)))] rfl ?_
    refine g_wsq [co a 4 [.ref (q 0), .ref (q 1), .ref (q 2), .int (nI tp), .int cd, .ref (q 3), .ref (q 4), .ref (q 5), .ref (q 6), .ref (q 7), .ref (q 8), .ref (q 9), .ref (q 10), .ref (q 11), .ref (q 12), .ref (q 13), .ref (q 14), .ref (q 15), .int (nI k), .int (nI rt), .int (nI 0), .long (lN 0), .ref (q 16), .ref (q 17)], cj B (q 11) 25 (fil S 0 (j + 1) 0)] (by rw [fil_s _ (by omega)]) ?_
    exact kk17
  · show G B M 3 0 0 Q [co a 4 [.ref (q 0), .ref (q 1), .ref (q 2), .int (nI tp), .int cd, .ref (q 3), .ref (q 4), .ref (q 5), .ref (q 6), .ref (q 7), .ref (q 8), .ref (q 9), .ref (q 10), .ref (q 11), .ref (q 12), .ref (q 13), .ref (q 14), .ref (q 15), .int (nI k), .int (nI rt), .int (nI 0), .long (lN 0), .ref (q 16), .ref (q 17)], cj B (q 11) 25 (fil S 0 25 0)] [(0, .ref a), (1, .int (nI k)), (2, .int (nI 25))] 17 []
    refine g_iload_n (pc := 17) X (i := 2) d_O_begin_17 rfl rfl ?_
    refine g_bipush (pc := 18) X (v := nI 25) d_O_begin_18 (by decide) ?_
    refine g_icmp_geN (pc := 20) X (tgt := 36) d_O_begin_20 (by decide) (by omega) (by omega) (fun h_20 => ?_) (fun h_20 => absurd h_20 (by omega))
    refine g_aload_n (pc := 36) X (i := 0) d_O_begin_36 rfl rfl ?_
    refine g_iload_n (pc := 37) X (i := 1) d_O_begin_37 rfl rfl ?_
    refine g_bipush (pc := 38) X (v := nI 11) d_O_begin_38 (by decide) ?_
    refine g_icmp_neN (pc := 40) X (tgt := 49) d_O_begin_40 (by decide) (by omega) (by omega) (fun h_40 => ?_) (fun h_40 => ?_)
    · refine g_iload_n (pc := 49) X (i := 1) d_O_begin_49 rfl rfl ?_
      refine g_bipush (pc := 50) X (v := nI 12) d_O_begin_50 (by decide) ?_
      refine g_icmp_neN (pc := 52) X (tgt := 61) d_O_begin_52 (by decide) (by omega) (by omega) (fun h_52 => ?_) (fun h_52 => ?_)
      · refine g_iload_n (pc := 61) X (i := 1) d_O_begin_61 rfl rfl ?_
        refine g_bipush (pc := 62) X (v := nI 6) d_O_begin_62 (by decide) ?_
        refine g_icmp_leN (pc := 64) X (tgt := 80) d_O_begin_64 (by decide) (by omega) (by omega) (fun h_64 => absurd h_64 (by omega)) (fun h_64 => ?_)
        refine g_sipush (pc := 67) X (v := nI 200) d_O_begin_67 (by decide) ?_
        refine g_iconst (pc := 70) X (v := nI 2) d_O_begin_70 (by decide) ?_
        refine g_iload_n (pc := 71) X (i := 1) d_O_begin_71 rfl rfl ?_
        refine g_callSi (pc := 72) X (c_O_digestOf (m_l M) B k (by omega) (by omega)) wd_771 wd_772 wd_5 wd_773 hd_O_digestOf [] rfl rfl [] (fun _ => rfl) rfl (by rw [hR]; decide) (by rw [hR]; decide) rfl (Nat.le_of_ble_eq_true rfl) d_O_begin_72 (fun r9 _ hr9 => ?_)
        subst hr9
        refine g_wsq [co a 4 [.ref (q 0), .ref (q 1), .ref (q 2), .int (nI tp), .int cd, .ref (q 3), .ref (q 4), .ref (q 5), .ref (q 6), .ref (q 7), .ref (q 8), .ref (q 9), .ref (q 10), .ref (q 11), .ref (q 12), .ref (q 13), .ref (q 14), .ref (q 15), .int (nI k), .int (nI rt), .int (nI 0), .long (lN 0), .ref (q 16), .ref (q 17)], cj B (q 11) 25 (fil S 0 25 0)] rfl ?_
        refine g_imulN (pc := 75) X (2 * (dgN k)) rfl d_O_begin_75 ?_
        refine g_isubN (pc := 76) X (200 - (2 * (dgN k))) (by unfold dgN; split <;> (try split) <;> (try split) <;> omega) d_O_begin_76 ?_
        refine g_goto (pc := 77) X (tgt := 84) d_O_begin_77 (by decide) ?_
        refine g_put (pc := 84) X in_O ty_O ok_O nm_O 0 rfl rfl 19 (by decide) wd_838 rfl rfl rfl (Nat.le_of_ble_eq_true rfl) d_O_begin_84 ?_
        refine g_wsq [co a 4 [.ref (q 0), .ref (q 1), .ref (q 2), .int (nI tp), .int cd, .ref (q 3), .ref (q 4), .ref (q 5), .ref (q 6), .ref (q 7), .ref (q 8), .ref (q 9), .ref (q 10), .ref (q 11), .ref (q 12), .ref (q 13), .ref (q 14), .ref (q 15), .int (nI k), .int (nI (200 - (2 * (dgN k)))), .int (nI 0), .long (lN 0), .ref (q 16), .ref (q 17)], cj B (q 11) 25 (fil S 0 25 0)] rfl ?_
        refine g_iconst (pc := 87) X (v := nI 0) d_O_begin_87 (by decide) ?_
        refine g_istore_n (pc := 88) X (i := 2) d_O_begin_88 rfl (by decide) ?_
        refine g_lv [(0, .ref a), (1, .int (nI k)), (2, .int (nI 0))] rfl ?_
        refine g_iload_n (pc := 89) X (i := 2) d_O_begin_89 rfl rfl ?_
        refine g_bipush (pc := 90) X (v := nI 8) d_O_begin_90 (by decide) ?_
        refine g_icmp_geN (pc := 92) X (tgt := 203) d_O_begin_92 (by decide) (by omega) (by omega) (fun h_92 => absurd h_92 (by omega)) (fun h_92 => ?_)
        refine g_iload_n (pc := 95) X (i := 1) d_O_begin_95 rfl rfl ?_
        refine g_bipush (pc := 96) X (v := nI 7) d_O_begin_96 (by decide) ?_
        refine g_icmp_geN (pc := 98) X (tgt := 203) d_O_begin_98 (by decide) (by omega) (by omega) (fun h_98 => ?_) (fun h_98 => absurd h_98 (by omega))
        refine g_wsq [co a 4 [.ref (q 0), .ref (q 1), .ref (q 2), .int (nI tp), .int cd, .ref (q 3), .ref (q 4), .ref (q 5), .ref (q 6), .ref (q 7), .ref (q 8), .ref (q 9), .ref (q 10), .ref (q 11), .ref (q 12), .ref (q 13), .ref (q 14), .ref (q 15), .int (nI k), .int (nI (rtN k)), .int (nI 0), .long (lN 0), .ref (q 16), .ref (q 17)], cj B (q 11) 25 (fil S 0 25 0)] (by unfold rtN; repeat (first | rw [if_pos (by omega)] | rw [if_neg (by omega)])) ?_
        exact kret () _ 203 trivial d_O_begin_203
      · refine g_sipush (pc := 55) X (v := nI 136) d_O_begin_55 (by decide) ?_
        refine g_goto (pc := 58) X (tgt := 84) d_O_begin_58 (by decide) ?_
        refine g_put (pc := 84) X in_O ty_O ok_O nm_O 0 rfl rfl 19 (by decide) wd_838 rfl rfl rfl (Nat.le_of_ble_eq_true rfl) d_O_begin_84 ?_
        refine g_wsq [co a 4 [.ref (q 0), .ref (q 1), .ref (q 2), .int (nI tp), .int cd, .ref (q 3), .ref (q 4), .ref (q 5), .ref (q 6), .ref (q 7), .ref (q 8), .ref (q 9), .ref (q 10), .ref (q 11), .ref (q 12), .ref (q 13), .ref (q 14), .ref (q 15), .int (nI k), .int (nI 136), .int (nI 0), .long (lN 0), .ref (q 16), .ref (q 17)], cj B (q 11) 25 (fil S 0 25 0)] rfl ?_
        refine g_iconst (pc := 87) X (v := nI 0) d_O_begin_87 (by decide) ?_
        refine g_istore_n (pc := 88) X (i := 2) d_O_begin_88 rfl (by decide) ?_
        refine g_lv [(0, .ref a), (1, .int (nI k)), (2, .int (nI 0))] rfl ?_
        refine g_iload_n (pc := 89) X (i := 2) d_O_begin_89 rfl rfl ?_
        refine g_bipush (pc := 90) X (v := nI 8) d_O_begin_90 (by decide) ?_
        refine g_icmp_geN (pc := 92) X (tgt := 203) d_O_begin_92 (by decide) (by omega) (by omega) (fun h_92 => absurd h_92 (by omega)) (fun h_92 => ?_)
        refine g_iload_n (pc := 95) X (i := 1) d_O_begin_95 rfl rfl ?_
        refine g_bipush (pc := 96) X (v := nI 7) d_O_begin_96 (by decide) ?_
        refine g_icmp_geN (pc := 98) X (tgt := 203) d_O_begin_98 (by decide) (by omega) (by omega) (fun h_98 => ?_) (fun h_98 => absurd h_98 (by omega))
        refine g_wsq [co a 4 [.ref (q 0), .ref (q 1), .ref (q 2), .int (nI tp), .int cd, .ref (q 3), .ref (q 4), .ref (q 5), .ref (q 6), .ref (q 7), .ref (q 8), .ref (q 9), .ref (q 10), .ref (q 11), .ref (q 12), .ref (q 13), .ref (q 14), .ref (q 15), .int (nI k), .int (nI (rtN k)), .int (nI 0), .long (lN 0), .ref (q 16), .ref (q 17)], cj B (q 11) 25 (fil S 0 25 0)] (by unfold rtN; repeat (first | rw [if_pos (by omega)] | rw [if_neg (by omega)])) ?_
        exact kret () _ 203 trivial d_O_begin_203
    · refine g_sipush (pc := 43) X (v := nI 168) d_O_begin_43 (by decide) ?_
      refine g_goto (pc := 46) X (tgt := 84) d_O_begin_46 (by decide) ?_
      refine g_put (pc := 84) X in_O ty_O ok_O nm_O 0 rfl rfl 19 (by decide) wd_838 rfl rfl rfl (Nat.le_of_ble_eq_true rfl) d_O_begin_84 ?_
      refine g_wsq [co a 4 [.ref (q 0), .ref (q 1), .ref (q 2), .int (nI tp), .int cd, .ref (q 3), .ref (q 4), .ref (q 5), .ref (q 6), .ref (q 7), .ref (q 8), .ref (q 9), .ref (q 10), .ref (q 11), .ref (q 12), .ref (q 13), .ref (q 14), .ref (q 15), .int (nI k), .int (nI 168), .int (nI 0), .long (lN 0), .ref (q 16), .ref (q 17)], cj B (q 11) 25 (fil S 0 25 0)] rfl ?_
      refine g_iconst (pc := 87) X (v := nI 0) d_O_begin_87 (by decide) ?_
      refine g_istore_n (pc := 88) X (i := 2) d_O_begin_88 rfl (by decide) ?_
      refine g_lv [(0, .ref a), (1, .int (nI k)), (2, .int (nI 0))] rfl ?_
      refine g_iload_n (pc := 89) X (i := 2) d_O_begin_89 rfl rfl ?_
      refine g_bipush (pc := 90) X (v := nI 8) d_O_begin_90 (by decide) ?_
      refine g_icmp_geN (pc := 92) X (tgt := 203) d_O_begin_92 (by decide) (by omega) (by omega) (fun h_92 => absurd h_92 (by omega)) (fun h_92 => ?_)
      refine g_iload_n (pc := 95) X (i := 1) d_O_begin_95 rfl rfl ?_
      refine g_bipush (pc := 96) X (v := nI 7) d_O_begin_96 (by decide) ?_
      refine g_icmp_geN (pc := 98) X (tgt := 203) d_O_begin_98 (by decide) (by omega) (by omega) (fun h_98 => ?_) (fun h_98 => absurd h_98 (by omega))
      refine g_wsq [co a 4 [.ref (q 0), .ref (q 1), .ref (q 2), .int (nI tp), .int cd, .ref (q 3), .ref (q 4), .ref (q 5), .ref (q 6), .ref (q 7), .ref (q 8), .ref (q 9), .ref (q 10), .ref (q 11), .ref (q 12), .ref (q 13), .ref (q 14), .ref (q 15), .int (nI k), .int (nI (rtN k)), .int (nI 0), .long (lN 0), .ref (q 16), .ref (q 17)], cj B (q 11) 25 (fil S 0 25 0)] (by unfold rtN; repeat (first | rw [if_pos (by omega)] | rw [if_neg (by omega)])) ?_
      exact kret () _ 203 trivial d_O_begin_203
