theorem c_P_absorb (l : Launch) (B : Bx) (a : Nat) (la : Nat) (mo : Nat) (cm : Nat) (xa : Nat) (xn : Nat) (rate : Nat) (n : Nat) (f : Nat → Int64) (m : Nat → Int64) (c : Nat → Int64) (x : Nat → Int8) (sf : Int32) (h1 : n ≤ xn) (h2 : xn < 2 ^ 31) (h3 : 0 < rate) (h4 : rate ≤ 200) : Cv (S := Unit) l B y_P_absorb b_P_absorb 7 (Rm 4 0 0) [.ref a, .int (nI rate), .int sf, .ref xa, .int (nI n)] [co a 2 [.ref la, .ref mo, .ref cm], cj B la 25 f, cj B mo 25 m, cj B cm 5 c, cb B xa xn x] (fun _ => True) (fun _ => [co a 2 [.ref la, .ref mo, .ref cm], cj B la 25 ((abE rate sf x n (f, m, c)).1), cj B mo 25 ((abE rate sf x n (f, m, c)).2.1), cj B cm 5 ((abE rate sf x n (f, m, c)).2.2), cb B xa xn x]) := by
  refine ctr_v (by decide) (Nat.le_of_ble_eq_true rfl) ?_
  intro M Q hl hR hin X kret
  subst hl
  refine g_lv [(0, .ref a), (1, .int (nI rate)), (2, .int sf), (3, .ref xa), (4, .int (nI n))] rfl ?_
  refine g_aload_n (pc := 0) X (i := 0) d_P_absorb_0 rfl rfl ?_
  refine g_get (pc := 1) X in_P 0 rfl rfl 0 (by decide) wd_54 rfl d_P_absorb_1 ?_
  refine g_lconst (pc := 4) X (v := 0) d_P_absorb_4 (by decide) ?_
  refine g_callSv (pc := 5) X (c_J_fill2 (m_l M) B la 25 f 0 (by omega)) wd_666 wd_667 wd_12 wd_668 hd_J_fill2 [1] rfl rfl [la] (fun _ => rfl) rfl (by rw [hR]; decide) (by rw [hR]; decide) rfl (Nat.le_of_ble_eq_true rfl) d_P_absorb_5 (fun _ _ => ?_)
  refine g_wsq [co a 2 [.ref la, .ref mo, .ref cm], cj B la 25 (fil f 0 25 0), cj B mo 25 m, cj B cm 5 c, cb B xa xn x] rfl ?_
  refine g_iconst (pc := 8) X (v := nI 0) d_P_absorb_8 (by decide) ?_
  refine g_istore (pc := 9) X d_P_absorb_9 (by decide) ?_
  refine g_lv [(0, .ref a), (1, .int (nI rate)), (2, .int sf), (3, .ref xa), (4, .int (nI n)), (5, .int (nI 0))] rfl ?_
  refine g_iconst (pc := 11) X (v := nI 0) d_P_absorb_11 (by decide) ?_
  refine g_istore (pc := 12) X d_P_absorb_12 (by decide) ?_
  refine g_lv [(0, .ref a), (1, .int (nI rate)), (2, .int sf), (3, .ref xa), (4, .int (nI n)), (5, .int (nI 0)), (6, .int (nI 0))] rfl ?_
  refine g_lv [(0, .ref a), (1, .int (nI rate)), (2, .int sf), (3, .ref xa), (4, .int (nI n)), (5, .int (nI 0)), (6, .int (nI 0))] rfl ?_
  refine loopI (σ := S4) (abF rate x) (fun k s => s.2.2.2 < rate) (fun k s => G B M 7 0 0 Q [co a 2 [.ref la, .ref mo, .ref cm], cj B la 25 s.1, cj B mo 25 s.2.1, cj B cm 5 s.2.2.1, cb B xa xn x] [(0, .ref a), (1, .int (nI rate)), (2, .int sf), (3, .ref xa), (4, .int (nI n)), (5, .int (nI s.2.2.2)), (6, .int (nI k))] 14 []) n (fil f 0 25 0, m, c, 0) h3 (fun k s _ h => abF_lt h3 x k s h) ?_ ?_
  · intro k s hk14 hI14 kk14
    show G B M 7 0 0 Q [co a 2 [.ref la, .ref mo, .ref cm], cj B la 25 s.1, cj B mo 25 s.2.1, cj B cm 5 s.2.2.1, cb B xa xn x] [(0, .ref a), (1, .int (nI rate)), (2, .int sf), (3, .ref xa), (4, .int (nI n)), (5, .int (nI s.2.2.2)), (6, .int (nI k))] 14 []
    refine g_iload (pc := 14) X d_P_absorb_14 rfl ?_
    refine g_iload (pc := 16) X d_P_absorb_16 rfl ?_
    refine g_icmp_geN (pc := 18) X (tgt := 57) d_P_absorb_18 (by decide) (by omega) (by omega) (fun h_18 => absurd h_18 (by omega)) (fun h_18 => ?_)
    refine g_aload_n (pc := 21) X (i := 0) d_P_absorb_21 rfl rfl ?_
    refine g_iload (pc := 22) X d_P_absorb_22 rfl ?_
    refine g_aload_n (pc := 24) X (i := 3) d_P_absorb_24 rfl rfl ?_
    refine g_iload (pc := 25) X d_P_absorb_25 rfl ?_
    refine g_bald (pc := 27) X 4 rfl k rfl (by omega) (by omega) d_P_absorb_27 ?_
    refine g_sipush (pc := 28) X (v := nI 255) d_P_absorb_28 (by decide) ?_
    refine g_iand (pc := 31) X d_P_absorb_31 ?_
    refine g_callVv (pc := 32) (q0 := 0) X (c_P_mixIn (m_l M) B a la mo cm s.2.2.2 s.1 (((x k).toInt32) &&& (nI 255)) (by omega)) wd_669 wd_671 wp_P_mixIn wd_3 wd_672 hd_P_mixIn [0, 1] rfl rfl [a, la] (fun _ => rfl) rfl rfl rfl (by rw [hR]; decide) (by rw [hR]; decide) rfl (Nat.le_of_ble_eq_true rfl) d_P_absorb_32 (fun _ _ => ?_)
    refine g_wsq [co a 2 [.ref la, .ref mo, .ref cm], cj B la 25 (flipC s.1 s.2.2.2 (((x k).toInt32) &&& (nI 255))), cj B mo 25 s.2.1, cj B cm 5 s.2.2.1, cb B xa xn x] rfl ?_
    refine g_iincN (pc := 35) X (a := s.2.2.2) (s.2.2.2 + 1) d_P_absorb_35 rfl 1 rfl (by omega) (by decide) ?_
    refine g_lv [(0, .ref a), (1, .int (nI rate)), (2, .int sf), (3, .ref xa), (4, .int (nI n)), (5, .int (nI (s.2.2.2 + 1))), (6, .int (nI k))] rfl ?_
    refine g_iload (pc := 38) X d_P_absorb_38 rfl ?_
    refine g_iload_n (pc := 40) X (i := 1) d_P_absorb_40 rfl rfl ?_
    refine g_icmp_neN (pc := 41) X (tgt := 51) d_P_absorb_41 (by decide) (by omega) (by omega) (fun h_41 => ?_) (fun h_41 => ?_)
    · refine g_iincN (pc := 51) X (a := k) (k + 1) d_P_absorb_51 rfl 1 rfl (by omega) (by decide) ?_
      refine g_lv [(0, .ref a), (1, .int (nI rate)), (2, .int sf), (3, .ref xa), (4, .int (nI n)), (5, .int (nI (s.2.2.2 + 1))), (6, .int (nI (k + 1)))] rfl ?_
      refine g_goto (pc := 54) X (tgt := 14) d_P_absorb_54 (by decide) ?_
      refine g_lv [(0, .ref a), (1, .int (nI rate)), (2, .int sf), (3, .ref xa), (4, .int (nI n)), (5, .int (nI (s.2.2.2 + 1))), (6, .int (nI (k + 1)))] rfl ?_
      exact kk14 (_, _, _, _) (by unfold abF ub; first | (rw [if_pos (by omega)] <;> rfl) | (rw [if_neg (by omega)] <;> rfl))
    · refine g_aload_n (pc := 44) X (i := 0) d_P_absorb_44 rfl rfl ?_
      refine g_callVv (pc := 45) (q0 := 0) X (c_P_permute (m_l M) B a la mo cm (flipC s.1 s.2.2.2 (((x k).toInt32) &&& (nI 255))) s.2.1 s.2.2.1 ) wd_673 wd_675 wp_P_permute wd_3 wd_676 hd_P_permute [0, 1, 2, 3] rfl rfl [a, la, mo, cm] (fun _ => rfl) rfl rfl rfl (by rw [hR]; decide) (by rw [hR]; decide) rfl (Nat.le_of_ble_eq_true rfl) d_P_absorb_45 (fun _ _ => ?_)
      refine g_wsq [co a 2 [.ref la, .ref mo, .ref cm], cj B la 25 ((prm ((flipC s.1 s.2.2.2 (((x k).toInt32) &&& (nI 255))), s.2.1, s.2.2.1)).1), cj B mo 25 ((prm ((flipC s.1 s.2.2.2 (((x k).toInt32) &&& (nI 255))), s.2.1, s.2.2.1)).2.1), cj B cm 5 ((prm ((flipC s.1 s.2.2.2 (((x k).toInt32) &&& (nI 255))), s.2.1, s.2.2.1)).2.2), cb B xa xn x] rfl ?_
      refine g_iconst (pc := 48) X (v := nI 0) d_P_absorb_48 (by decide) ?_
      refine g_istore (pc := 49) X d_P_absorb_49 (by decide) ?_
      refine g_lv [(0, .ref a), (1, .int (nI rate)), (2, .int sf), (3, .ref xa), (4, .int (nI n)), (5, .int (nI 0)), (6, .int (nI k))] rfl ?_
      refine g_iincN (pc := 51) X (a := k) (k + 1) d_P_absorb_51 rfl 1 rfl (by omega) (by decide) ?_
      refine g_lv [(0, .ref a), (1, .int (nI rate)), (2, .int sf), (3, .ref xa), (4, .int (nI n)), (5, .int (nI 0)), (6, .int (nI (k + 1)))] rfl ?_
      refine g_goto (pc := 54) X (tgt := 14) d_P_absorb_54 (by decide) ?_
      refine g_lv [(0, .ref a), (1, .int (nI rate)), (2, .int sf), (3, .ref xa), (4, .int (nI n)), (5, .int (nI 0)), (6, .int (nI (k + 1)))] rfl ?_
      exact kk14 (_, _, _, _) (by unfold abF ub; first | (rw [if_pos (by omega)] <;> rfl) | (rw [if_neg (by omega)] <;> rfl))
  · intro hI14
    rw [show it (abF rate x) n (fil f 0 25 0, m, c, 0) = abS rate x n (f, m, c) from rfl] at hI14 ⊢
    show G B M 7 0 0 Q [co a 2 [.ref la, .ref mo, .ref cm], cj B la 25 ((abS rate x n (f, m, c)).1), cj B mo 25 ((abS rate x n (f, m, c)).2.1), cj B cm 5 ((abS rate x n (f, m, c)).2.2.1), cb B xa xn x] [(0, .ref a), (1, .int (nI rate)), (2, .int sf), (3, .ref xa), (4, .int (nI n)), (5, .int (nI ((abS rate x n (f, m, c)).2.2.2))), (6, .int (nI n))] 14 []
    refine g_iload (pc := 14) X d_P_absorb_14 rfl ?_
    refine g_iload (pc := 16) X d_P_absorb_16 rfl ?_
    refine g_icmp_geN (pc := 18) X (tgt := 57) d_P_absorb_18 (by decide) (by omega) (by omega) (fun h_18 => ?_) (fun h_18 => absurd h_18 (by omega))
    refine g_aload_n (pc := 57) X (i := 0) d_P_absorb_57 rfl rfl ?_
    refine g_iload (pc := 58) X d_P_absorb_58 rfl ?_
    refine g_iload_n (pc := 60) X (i := 2) d_P_absorb_60 rfl rfl ?_
    refine g_callVv (pc := 61) (q0 := 0) X (c_P_mixIn (m_l M) B a la mo cm ((abS rate x n (f, m, c)).2.2.2) ((abS rate x n (f, m, c)).1) sf (by omega)) wd_669 wd_671 wp_P_mixIn wd_3 wd_672 hd_P_mixIn [0, 1] rfl rfl [a, la] (fun _ => rfl) rfl rfl rfl (by rw [hR]; decide) (by rw [hR]; decide) rfl (Nat.le_of_ble_eq_true rfl) d_P_absorb_61 (fun _ _ => ?_)
    refine g_wsq [co a 2 [.ref la, .ref mo, .ref cm], cj B la 25 (flipC ((abS rate x n (f, m, c)).1) ((abS rate x n (f, m, c)).2.2.2) sf), cj B mo 25 ((abS rate x n (f, m, c)).2.1), cj B cm 5 ((abS rate x n (f, m, c)).2.2.1), cb B xa xn x] rfl ?_
    refine g_aload_n (pc := 64) X (i := 0) d_P_absorb_64 rfl rfl ?_
    refine g_iload_n (pc := 65) X (i := 1) d_P_absorb_65 rfl rfl ?_
    refine g_iconst (pc := 66) X (v := nI 1) d_P_absorb_66 (by decide) ?_
    refine g_isubN (pc := 67) X (rate - 1) (by omega) d_P_absorb_67 ?_
    refine g_sipush (pc := 68) X (v := nI 128) d_P_absorb_68 (by decide) ?_
    refine g_callVv (pc := 71) (q0 := 0) X (c_P_mixIn (m_l M) B a la mo cm (rate - 1) (flipC ((abS rate x n (f, m, c)).1) ((abS rate x n (f, m, c)).2.2.2) sf) (nI 128) (by omega)) wd_669 wd_671 wp_P_mixIn wd_3 wd_672 hd_P_mixIn [0, 1] rfl rfl [a, la] (fun _ => rfl) rfl rfl rfl (by rw [hR]; decide) (by rw [hR]; decide) rfl (Nat.le_of_ble_eq_true rfl) d_P_absorb_71 (fun _ _ => ?_)
    refine g_wsq [co a 2 [.ref la, .ref mo, .ref cm], cj B la 25 (flipC (flipC ((abS rate x n (f, m, c)).1) ((abS rate x n (f, m, c)).2.2.2) sf) (rate - 1) (nI 128)), cj B mo 25 ((abS rate x n (f, m, c)).2.1), cj B cm 5 ((abS rate x n (f, m, c)).2.2.1), cb B xa xn x] rfl ?_
    refine g_aload_n (pc := 74) X (i := 0) d_P_absorb_74 rfl rfl ?_
    refine g_callVv (pc := 75) (q0 := 0) X (c_P_permute (m_l M) B a la mo cm (flipC (flipC ((abS rate x n (f, m, c)).1) ((abS rate x n (f, m, c)).2.2.2) sf) (rate - 1) (nI 128)) ((abS rate x n (f, m, c)).2.1) ((abS rate x n (f, m, c)).2.2.1) ) wd_673 wd_675 wp_P_permute wd_3 wd_676 hd_P_permute [0, 1, 2, 3] rfl rfl [a, la, mo, cm] (fun _ => rfl) rfl rfl rfl (by rw [hR]; decide) (by rw [hR]; decide) rfl (Nat.le_of_ble_eq_true rfl) d_P_absorb_75 (fun _ _ => ?_)
    refine g_wsq [co a 2 [.ref la, .ref mo, .ref cm], cj B la 25 ((prm ((flipC (flipC ((abS rate x n (f, m, c)).1) ((abS rate x n (f, m, c)).2.2.2) sf) (rate - 1) (nI 128)), ((abS rate x n (f, m, c)).2.1), ((abS rate x n (f, m, c)).2.2.1))).1), cj B mo 25 ((prm ((flipC (flipC ((abS rate x n (f, m, c)).1) ((abS rate x n (f, m, c)).2.2.2) sf) (rate - 1) (nI 128)), ((abS rate x n (f, m, c)).2.1), ((abS rate x n (f, m, c)).2.2.1))).2.1), cj B cm 5 ((prm ((flipC (flipC ((abS rate x n (f, m, c)).1) ((abS rate x n (f, m, c)).2.2.2) sf) (rate - 1) (nI 128)), ((abS rate x n (f, m, c)).2.1), ((abS rate x n (f, m, c)).2.2.1))).2.2), cb B xa xn x] rfl ?_
    exact kret () _ 78 trivial d_P_absorb_78
