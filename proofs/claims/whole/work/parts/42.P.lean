theorem c_P_rotl (l : Launch) (B : Bx) (x : Int64) (n : Int32)  : Cl (S := Unit) l B y_P_rotl b_P_rotl 3 (Rm 1 0 0) [.long x, .int n] [] (fun r _ => r = rotlC x n) (fun _ => []) := by
  refine ctr_l (by decide) (Nat.le_of_ble_eq_true rfl) ?_
  intro M Q hl hR hin X kret
  subst hl
  refine g_lv [(0, .long x), (2, .int n)] rfl ?_
  refine g_lload_n (pc := 0) X (i := 0) d_P_rotl_0 rfl rfl ?_
  refine g_iload_n (pc := 1) X (i := 2) d_P_rotl_1 rfl rfl ?_
  refine g_lshl (pc := 2) X (v := lshl x n) d_P_rotl_2 rfl ?_
  refine g_lload_n (pc := 3) X (i := 0) d_P_rotl_3 rfl rfl ?_
  refine g_bipush (pc := 4) X (v := nI 64) d_P_rotl_4 (by decide) ?_
  refine g_iload_n (pc := 6) X (i := 2) d_P_rotl_6 rfl rfl ?_
  refine g_isub (pc := 7) X d_P_rotl_7 ?_
  refine g_lushr (pc := 8) X (v := lush x ((nI 64) - n)) d_P_rotl_8 rfl ?_
  refine g_lor (pc := 9) X d_P_rotl_9 ?_
  exact kret _ () _ 10 rfl d_P_rotl_10

theorem c_P_mixIn (l : Launch) (B : Bx) (a : Nat) (la : Nat) (mo : Nat) (cm : Nat) (p : Nat) (f : Nat → Int64) (v : Int32) (h1 : p < 200) : Cv (S := Unit) l B y_P_mixIn b_P_mixIn 3 (Rm 1 0 0) [.ref a, .int (nI p), .int v] [co a 2 [.ref la, .ref mo, .ref cm], cj B la 25 f] (fun _ => True) (fun _ => [co a 2 [.ref la, .ref mo, .ref cm], cj B la 25 (flipC f p v)]) := by
  refine ctr_v (by decide) (Nat.le_of_ble_eq_true rfl) ?_
  intro M Q hl hR hin X kret
  subst hl
  refine g_lv [(0, .ref a), (1, .int (nI p)), (2, .int v)] rfl ?_
  refine g_aload_n (pc := 0) X (i := 0) d_P_mixIn_0 rfl rfl ?_
  refine g_get (pc := 1) X in_P 0 rfl rfl 0 (by decide) wd_54 rfl d_P_mixIn_1 ?_
  refine g_iload_n (pc := 4) X (i := 1) d_P_mixIn_4 rfl rfl ?_
  refine g_iconst (pc := 5) X (v := nI 3) d_P_mixIn_5 (by decide) ?_
  refine g_ishrN (pc := 6) X 3 (p / 8) rfl (by omega) rfl d_P_mixIn_6 ?_
  refine g_dup2_11 (pc := 7) X d_P_mixIn_7 rfl rfl ?_
  refine g_lald (pc := 8) X 1 rfl (p / 8) rfl (by omega) (by omega) d_P_mixIn_8 ?_
  refine g_iload_n (pc := 9) X (i := 2) d_P_mixIn_9 rfl rfl ?_
  refine g_i2l (pc := 10) X d_P_mixIn_10 rfl ?_
  refine g_bipush (pc := 11) X (v := nI 8) d_P_mixIn_11 (by decide) ?_
  refine g_iload_n (pc := 13) X (i := 1) d_P_mixIn_13 rfl rfl ?_
  refine g_bipush (pc := 14) X (v := nI 7) d_P_mixIn_14 (by decide) ?_
  refine g_iandN (pc := 16) X 3 (p % 8) rfl (by omega) rfl d_P_mixIn_16 ?_
  refine g_imulN (pc := 17) X (8 * (p % 8)) rfl d_P_mixIn_17 ?_
  refine g_lshl (pc := 18) X (v := lshl v.toInt64 (nI (8 * (p % 8)))) d_P_mixIn_18 rfl ?_
  refine g_lxor (pc := 19) X d_P_mixIn_19 ?_
  refine g_last (pc := 20) X 1 rfl (p / 8) rfl (by omega) (by omega) d_P_mixIn_20 ?_
  refine g_wsq [co a 2 [.ref la, .ref mo, .ref cm], cj B la 25 (va_up f (p / 8) ((f (p / 8)) ^^^ (lshl v.toInt64 (nI (8 * (p % 8))))))] rfl ?_
  exact kret () _ 21 trivial d_P_mixIn_21

theorem c_P_mixColumns (l : Launch) (B : Bx) (a : Nat) (la : Nat) (mo : Nat) (cm : Nat) (f : Nat → Int64) (c : Nat → Int64)  : Cv (S := Unit) l B y_P_mixColumns b_P_mixColumns 5 (Rm 2 0 0) [.ref a] [co a 2 [.ref la, .ref mo, .ref cm], cj B la 25 f, cj B cm 5 c] (fun _ => True) (fun _ => [co a 2 [.ref la, .ref mo, .ref cm], cj B la 25 (theta (cols f c) f), cj B cm 5 (cols f c)]) := by
  refine ctr_v (by decide) (Nat.le_of_ble_eq_true rfl) ?_
  intro M Q hl hR hin X kret
  subst hl
  refine g_lv [(0, .ref a)] rfl ?_
  refine g_iconst (pc := 0) X (v := nI 0) d_P_mixColumns_0 (by decide) ?_
  refine g_istore_n (pc := 1) X (i := 1) d_P_mixColumns_1 rfl (by decide) ?_
  refine g_lv [(0, .ref a), (1, .int (nI 0))] rfl ?_
  refine g_lv [(0, .ref a), (1, .int (nI 0))] rfl ?_
  refine loopF (σ := Nat → Int64) (colF f) (fun k s => G B M 5 0 0 Q [co a 2 [.ref la, .ref mo, .ref cm], cj B la 25 f, cj B cm 5 s] [(0, .ref a), (1, .int (nI k))] 2 []) 5 c ?_ ?_
  · intro k s hk2 kk2
    show G B M 5 0 0 Q [co a 2 [.ref la, .ref mo, .ref cm], cj B la 25 f, cj B cm 5 s] [(0, .ref a), (1, .int (nI k))] 2 []
    refine g_iload_n (pc := 2) X (i := 1) d_P_mixColumns_2 rfl rfl ?_
    refine g_iconst (pc := 3) X (v := nI 5) d_P_mixColumns_3 (by decide) ?_
    refine g_icmp_geN (pc := 4) X (tgt := 64) d_P_mixColumns_4 (by decide) (by omega) (by omega) (fun h_4 => absurd h_4 (by omega)) (fun h_4 => ?_)
    refine g_aload_n (pc := 7) X (i := 0) d_P_mixColumns_7 rfl rfl ?_
    refine g_get (pc := 8) X in_P 0 rfl rfl 2 (by decide) wd_56 rfl d_P_mixColumns_8 ?_
    refine g_iload_n (pc := 11) X (i := 1) d_P_mixColumns_11 rfl rfl ?_
    refine g_aload_n (pc := 12) X (i := 0) d_P_mixColumns_12 rfl rfl ?_
    refine g_get (pc := 13) X in_P 0 rfl rfl 0 (by decide) wd_54 rfl d_P_mixColumns_13 ?_
    refine g_iload_n (pc := 16) X (i := 1) d_P_mixColumns_16 rfl rfl ?_
    refine g_lald (pc := 17) X 1 rfl k rfl (by omega) (by omega) d_P_mixColumns_17 ?_
    refine g_aload_n (pc := 18) X (i := 0) d_P_mixColumns_18 rfl rfl ?_
    refine g_get (pc := 19) X in_P 0 rfl rfl 0 (by decide) wd_54 rfl d_P_mixColumns_19 ?_
    refine g_iload_n (pc := 22) X (i := 1) d_P_mixColumns_22 rfl rfl ?_
    refine g_iconst (pc := 23) X (v := nI 5) d_P_mixColumns_23 (by decide) ?_
    refine g_iaddN (pc := 24) X (k + 5) (by omega) d_P_mixColumns_24 ?_
    refine g_lald (pc := 25) X 1 rfl (k + 5) rfl (by omega) (by omega) d_P_mixColumns_25 ?_
    refine g_lxor (pc := 26) X d_P_mixColumns_26 ?_
    refine g_aload_n (pc := 27) X (i := 0) d_P_mixColumns_27 rfl rfl ?_
    refine g_get (pc := 28) X in_P 0 rfl rfl 0 (by decide) wd_54 rfl d_P_mixColumns_28 ?_
    refine g_iload_n (pc := 31) X (i := 1) d_P_mixColumns_31 rfl rfl ?_
    refine g_bipush (pc := 32) X (v := nI 10) d_P_mixColumns_32 (by decide) ?_
    refine g_iaddN (pc := 34) X (k + 10) (by omega) d_P_mixColumns_34 ?_
    refine g_lald (pc := 35) X 1 rfl (k + 10) rfl (by omega) (by omega) d_P_mixColumns_35 ?_
    refine g_lxor (pc := 36) X d_P_mixColumns_36 ?_
    refine g_aload_n (pc := 37) X (i := 0) d_P_mixColumns_37 rfl rfl ?_
    refine g_get (pc := 38) X in_P 0 rfl rfl 0 (by decide) wd_54 rfl d_P_mixColumns_38 ?_
    refine g_iload_n (pc := 41) X (i := 1) d_P_mixColumns_41 rfl rfl ?_
    refine g_bipush (pc := 42) X (v := nI 15) d_P_mixColumns_42 (by decide) ?_
    refine g_iaddN (pc := 44) X (k + 15) (by omega) d_P_mixColumns_44 ?_
    refine g_lald (pc := 45) X 1 rfl (k + 15) rfl (by omega) (by omega) d_P_mixColumns_45 ?_
    refine g_lxor (pc := 46) X d_P_mixColumns_46 ?_
    refine g_aload_n (pc := 47) X (i := 0) d_P_mixColumns_47 rfl rfl ?_
    refine g_get (pc := 48) X in_P 0 rfl rfl 0 (by decide) wd_54 rfl d_P_mixColumns_48 ?_
    refine g_iload_n (pc := 51) X (i := 1) d_P_mixColumns_51 rfl rfl ?_
    refine g_bipush (pc := 52) X (v := nI 20) d_P_mixColumns_52 (by decide) ?_
    refine g_iaddN (pc := 54) X (k + 20) (by omega) d_P_mixColumns_54 ?_
    refine g_lald (pc := 55) X 1 rfl (k + 20) rfl (by omega) (by omega) d_P_mixColumns_55 ?_
    refine g_lxor (pc := 56) X d_P_mixColumns_56 ?_
    refine g_last (pc := 57) X 2 rfl k rfl (by omega) (by omega) d_P_mixColumns_57 ?_
    refine g_wsq [co a 2 [.ref la, .ref mo, .ref cm], cj B la 25 f, cj B cm 5 (va_up s k (((((f k) ^^^ (f (k + 5))) ^^^ (f (k + 10))) ^^^ (f (k + 15))) ^^^ (f (k + 20))))] rfl ?_
    refine g_iincN (pc := 58) X (a := k) (k + 1) d_P_mixColumns_58 rfl 1 rfl (by omega) (by decide) ?_
    refine g_lv [(0, .ref a), (1, .int (nI (k + 1)))] rfl ?_
    refine g_goto (pc := 61) X (tgt := 2) d_P_mixColumns_61 (by decide) ?_
    refine g_lv [(0, .ref a), (1, .int (nI (k + 1)))] rfl ?_
    exact kk2 _ (by rfl)
  · rw [show it (colF f) 5 c = cols f c from rfl]
    show G B M 5 0 0 Q [co a 2 [.ref la, .ref mo, .ref cm], cj B la 25 f, cj B cm 5 (cols f c)] [(0, .ref a), (1, .int (nI 5))] 2 []
    refine g_iload_n (pc := 2) X (i := 1) d_P_mixColumns_2 rfl rfl ?_
    refine g_iconst (pc := 3) X (v := nI 5) d_P_mixColumns_3 (by decide) ?_
    refine g_icmp_geN (pc := 4) X (tgt := 64) d_P_mixColumns_4 (by decide) (by omega) (by omega) (fun h_4 => ?_) (fun h_4 => absurd h_4 (by omega))
    refine g_iconst (pc := 64) X (v := nI 0) d_P_mixColumns_64 (by decide) ?_
    refine g_istore_n (pc := 65) X (i := 1) d_P_mixColumns_65 rfl (by decide) ?_
    refine g_lv [(0, .ref a), (1, .int (nI 0))] rfl ?_
    refine g_lv [(0, .ref a), (1, .int (nI 0))] rfl ?_
    refine loopF (σ := Nat → Int64) (thF (cols f c)) (fun k s => G B M 5 0 0 Q [co a 2 [.ref la, .ref mo, .ref cm], cj B la 25 s, cj B cm 5 (cols f c)] [(0, .ref a), (1, .int (nI k))] 66 []) 5 f ?_ ?_
    · intro k s hk66 kk66
      show G B M 5 0 0 Q [co a 2 [.ref la, .ref mo, .ref cm], cj B la 25 s, cj B cm 5 (cols f c)] [(0, .ref a), (1, .int (nI k))] 66 []
      refine g_iload_n (pc := 66) X (i := 1) d_P_mixColumns_66 rfl rfl ?_
      refine g_iconst (pc := 67) X (v := nI 5) d_P_mixColumns_67 (by decide) ?_
      refine g_icmp_geN (pc := 68) X (tgt := 132) d_P_mixColumns_68 (by decide) (by omega) (by omega) (fun h_68 => absurd h_68 (by omega)) (fun h_68 => ?_)
      refine g_aload_n (pc := 71) X (i := 0) d_P_mixColumns_71 rfl rfl ?_
      refine g_get (pc := 72) X in_P 0 rfl rfl 2 (by decide) wd_56 rfl d_P_mixColumns_72 ?_
      refine g_iload_n (pc := 75) X (i := 1) d_P_mixColumns_75 rfl rfl ?_
      refine g_iconst (pc := 76) X (v := nI 4) d_P_mixColumns_76 (by decide) ?_
      refine g_iaddN (pc := 77) X (k + 4) (by omega) d_P_mixColumns_77 ?_
      refine g_iconst (pc := 78) X (v := nI 5) d_P_mixColumns_78 (by decide) ?_
      refine g_iremN (pc := 79) X ((k + 4) % 5) (by omega) (by omega) (by omega) rfl d_P_mixColumns_79 ?_
      refine g_lald (pc := 80) X 2 rfl ((k + 4) % 5) rfl (by omega) (by omega) d_P_mixColumns_80 ?_
      refine g_aload_n (pc := 81) X (i := 0) d_P_mixColumns_81 rfl rfl ?_
      refine g_get (pc := 82) X in_P 0 rfl rfl 2 (by decide) wd_56 rfl d_P_mixColumns_82 ?_
      refine g_iload_n (pc := 85) X (i := 1) d_P_mixColumns_85 rfl rfl ?_
      refine g_iconst (pc := 86) X (v := nI 1) d_P_mixColumns_86 (by decide) ?_
      refine g_iaddN (pc := 87) X (k + 1) (by omega) d_P_mixColumns_87 ?_
      refine g_iconst (pc := 88) X (v := nI 5) d_P_mixColumns_88 (by decide) ?_
      refine g_iremN (pc := 89) X ((k + 1) % 5) (by omega) (by omega) (by omega) rfl d_P_mixColumns_89 ?_
      refine g_lald (pc := 90) X 2 rfl ((k + 1) % 5) rfl (by omega) (by omega) d_P_mixColumns_90 ?_
      refine g_iconst (pc := 91) X (v := nI 1) d_P_mixColumns_91 (by decide) ?_
      refine g_callSl (pc := 92) X (c_P_rotl (m_l M) B ((cols f c) ((k + 1) % 5)) (nI 1) ) wd_681 wd_682 wd_3 wd_683 hd_P_rotl [] rfl rfl [] (fun _ => rfl) rfl (by rw [hR]; decide) (by rw [hR]; decide) rfl (Nat.le_of_ble_eq_true rfl) d_P_mixColumns_92 (fun r9 _ hr9 => ?_)
      subst hr9
      refine g_wsq [co a 2 [.ref la, .ref mo, .ref cm], cj B la 25 s, cj B cm 5 (cols f c)] rfl ?_
      refine g_lxor (pc := 95) X d_P_mixColumns_95 ?_
      refine g_lstore_n (pc := 96) X (i := 2) d_P_mixColumns_96 rfl (by decide) ?_
      refine g_lv [(0, .ref a), (1, .int (nI k)), (2, .long (((cols f c) ((k + 4) % 5)) ^^^ (rotlC ((cols f c) ((k + 1) % 5)) (nI 1))))] rfl ?_
      refine g_iconst (pc := 97) X (v := nI 0) d_P_mixColumns_97 (by decide) ?_
      refine g_istore (pc := 98) X d_P_mixColumns_98 (by decide) ?_
      refine g_lv [(0, .ref a), (1, .int (nI k)), (2, .long (((cols f c) ((k + 4) % 5)) ^^^ (rotlC ((cols f c) ((k + 1) % 5)) (nI 1)))), (4, .int (nI 0))] rfl ?_
      refine g_lv [(0, .ref a), (1, .int (nI k)), (2, .long (((cols f c) ((k + 4) % 5)) ^^^ (rotlC ((cols f c) ((k + 1) % 5)) (nI 1)))), (4, .int (nI 0))] rfl ?_
      refine loopF (σ := Nat → Int64) (thI k (cols f c ((k + 4) % 5) ^^^ rotlC (cols f c ((k + 1) % 5)) (nI 1))) (fun r z => G B M 5 0 0 Q [co a 2 [.ref la, .ref mo, .ref cm], cj B la 25 z, cj B cm 5 (cols f c)] [(0, .ref a), (1, .int (nI k)), (2, .long (((cols f c) ((k + 4) % 5)) ^^^ (rotlC ((cols f c) ((k + 1) % 5)) (nI 1)))), (4, .int (nI (5 * r)))] 100 []) 5 s ?_ ?_
      · intro r z hk100 kk100
        show G B M 5 0 0 Q [co a 2 [.ref la, .ref mo, .ref cm], cj B la 25 z, cj B cm 5 (cols f c)] [(0, .ref a), (1, .int (nI k)), (2, .long (((cols f c) ((k + 4) % 5)) ^^^ (rotlC ((cols f c) ((k + 1) % 5)) (nI 1)))), (4, .int (nI (5 * r)))] 100 []
        refine g_iload (pc := 100) X d_P_mixColumns_100 rfl ?_
        refine g_bipush (pc := 102) X (v := nI 25) d_P_mixColumns_102 (by decide) ?_
        refine g_icmp_geN (pc := 104) X (tgt := 126) d_P_mixColumns_104 (by decide) (by omega) (by omega) (fun h_104 => absurd h_104 (by omega)) (fun h_104 => ?_)
        refine g_aload_n (pc := 107) X (i := 0) d_P_mixColumns_107 rfl rfl ?_
        refine g_get (pc := 108) X in_P 0 rfl rfl 0 (by decide) wd_54 rfl d_P_mixColumns_108 ?_
        refine g_iload_n (pc := 111) X (i := 1) d_P_mixColumns_111 rfl rfl ?_
        refine g_iload (pc := 112) X d_P_mixColumns_112 rfl ?_
        refine g_iaddN (pc := 114) X (k + (5 * r)) (by omega) d_P_mixColumns_114 ?_
        refine g_dup2_11 (pc := 115) X d_P_mixColumns_115 rfl rfl ?_
        refine g_lald (pc := 116) X 1 rfl (k + (5 * r)) rfl (by omega) (by omega) d_P_mixColumns_116 ?_
        refine g_lload_n (pc := 117) X (i := 2) d_P_mixColumns_117 rfl rfl ?_
        refine g_lxor (pc := 118) X d_P_mixColumns_118 ?_
        refine g_last (pc := 119) X 1 rfl (k + (5 * r)) rfl (by omega) (by omega) d_P_mixColumns_119 ?_
        refine g_wsq [co a 2 [.ref la, .ref mo, .ref cm], cj B la 25 (va_up z (k + (5 * r)) ((z (k + (5 * r))) ^^^ (((cols f c) ((k + 4) % 5)) ^^^ (rotlC ((cols f c) ((k + 1) % 5)) (nI 1))))), cj B cm 5 (cols f c)] rfl ?_
        refine g_iincN (pc := 120) X (a := 5 * r) (5 * r + 5) d_P_mixColumns_120 rfl 5 rfl (by omega) (by decide) ?_
        refine g_lv [(0, .ref a), (1, .int (nI k)), (2, .long (((cols f c) ((k + 4) % 5)) ^^^ (rotlC ((cols f c) ((k + 1) % 5)) (nI 1)))), (4, .int (nI (5 * r + 5)))] rfl ?_
        refine g_goto (pc := 123) X (tgt := 100) d_P_mixColumns_123 (by decide) ?_
        refine g_lv [(0, .ref a), (1, .int (nI k)), (2, .long (((cols f c) ((k + 4) % 5)) ^^^ (rotlC ((cols f c) ((k + 1) % 5)) (nI 1)))), (4, .int (nI (5 * r + 5)))] rfl ?_
        exact kk100 _ (by rfl)
      · show G B M 5 0 0 Q [co a 2 [.ref la, .ref mo, .ref cm], cj B la 25 (it (thI k (cols f c ((k + 4) % 5) ^^^ rotlC (cols f c ((k + 1) % 5)) (nI 1))) 5 s), cj B cm 5 (cols f c)] [(0, .ref a), (1, .int (nI k)), (2, .long (((cols f c) ((k + 4) % 5)) ^^^ (rotlC ((cols f c) ((k + 1) % 5)) (nI 1)))), (4, .int (nI (5 * 5)))] 100 []
        refine g_iload (pc := 100) X d_P_mixColumns_100 rfl ?_
        refine g_bipush (pc := 102) X (v := nI 25) d_P_mixColumns_102 (by decide) ?_
        refine g_icmp_geN (pc := 104) X (tgt := 126) d_P_mixColumns_104 (by decide) (by omega) (by omega) (fun h_104 => ?_) (fun h_104 => absurd h_104 (by omega))
        refine g_iincN (pc := 126) X (a := k) (k + 1) d_P_mixColumns_126 rfl 1 rfl (by omega) (by decide) ?_
        refine g_lv [(0, .ref a), (1, .int (nI (k + 1))), (2, .long (((cols f c) ((k + 4) % 5)) ^^^ (rotlC ((cols f c) ((k + 1) % 5)) (nI 1)))), (4, .int (nI (5 * 5)))] rfl ?_
        refine g_goto (pc := 129) X (tgt := 66) d_P_mixColumns_129 (by decide) ?_
        refine g_lv [(0, .ref a), (1, .int (nI (k + 1)))] rfl ?_
        exact kk66 _ (by rfl)
    · show G B M 5 0 0 Q [co a 2 [.ref la, .ref mo, .ref cm], cj B la 25 (it (thF (cols f c)) 5 f), cj B cm 5 (cols f c)] [(0, .ref a), (1, .int (nI 5))] 66 []
      refine g_iload_n (pc := 66) X (i := 1) d_P_mixColumns_66 rfl rfl ?_
      refine g_iconst (pc := 67) X (v := nI 5) d_P_mixColumns_67 (by decide) ?_
      refine g_icmp_geN (pc := 68) X (tgt := 132) d_P_mixColumns_68 (by decide) (by omega) (by omega) (fun h_68 => ?_) (fun h_68 => absurd h_68 (by omega))
      exact kret () _ 132 trivial d_P_mixColumns_132

theorem c_P_turnAndMove (l : Launch) (B : Bx) (a : Nat) (la : Nat) (mo : Nat) (cm : Nat) (f : Nat → Int64) (m : Nat → Int64)  : Cv (S := Unit) l B y_P_turnAndMove b_P_turnAndMove 2 (Rm 2 0 0) [.ref a] [co a 2 [.ref la, .ref mo, .ref cm], cj B la 25 f, cj B mo 25 m] (fun _ => True) (fun _ => [co a 2 [.ref la, .ref mo, .ref cm], cj B la 25 f, cj B mo 25 (rho f m)]) := by
  refine ctr_v (by decide) (Nat.le_of_ble_eq_true rfl) ?_
  intro M Q hl hR hin X kret
  subst hl
  refine g_lv [(0, .ref a)] rfl ?_
  refine g_iconst (pc := 0) X (v := nI 0) d_P_turnAndMove_0 (by decide) ?_
  refine g_istore_n (pc := 1) X (i := 1) d_P_turnAndMove_1 rfl (by decide) ?_
  refine g_lv [(0, .ref a), (1, .int (nI 0))] rfl ?_
  refine g_lv [(0, .ref a), (1, .int (nI 0))] rfl ?_
  refine loopF (σ := Nat → Int64) (rhF f) (fun k s => G B M 2 0 0 Q [co a 2 [.ref la, .ref mo, .ref cm], cj B la 25 f, cj B mo 25 s] [(0, .ref a), (1, .int (nI k))] 2 []) 25 m ?_ ?_
  · intro k s hk2 kk2
    have ht := tgN_lt k hk2
    show G B M 2 0 0 Q [co a 2 [.ref la, .ref mo, .ref cm], cj B la 25 f, cj B mo 25 s] [(0, .ref a), (1, .int (nI k))] 2 []
    refine g_iload_n (pc := 2) X (i := 1) d_P_turnAndMove_2 rfl rfl ?_
    refine g_bipush (pc := 3) X (v := nI 25) d_P_turnAndMove_3 (by decide) ?_
    refine g_icmp_geN (pc := 5) X (tgt := 38) d_P_turnAndMove_5 (by decide) (by omega) (by omega) (fun h_5 => absurd h_5 (by omega)) (fun h_5 => ?_)
    refine g_aload_n (pc := 8) X (i := 0) d_P_turnAndMove_8 rfl rfl ?_
    refine g_get (pc := 9) X in_P 0 rfl rfl 1 (by decide) wd_55 rfl d_P_turnAndMove_9 ?_
    refine g_getsN (pc := 12) X 11 (by decide) wn_17 d_P_turnAndMove_12 ?_
    refine g_iload_n (pc := 15) X (i := 1) d_P_turnAndMove_15 rfl rfl ?_
    refine g_ti (pc := 16) X 11 (by decide) rfl k rfl (show k < s_N 11 from by show k < 25; omega) d_P_turnAndMove_16 ?_
    refine g_seti (nI (tgN k)) (tgN_eq k hk2) ?_
    refine g_aload_n (pc := 17) X (i := 0) d_P_turnAndMove_17 rfl rfl ?_
    refine g_get (pc := 18) X in_P 0 rfl rfl 0 (by decide) wd_54 rfl d_P_turnAndMove_18 ?_
    refine g_iload_n (pc := 21) X (i := 1) d_P_turnAndMove_21 rfl rfl ?_
    refine g_lald (pc := 22) X 1 rfl k rfl (by omega) (by omega) d_P_turnAndMove_22 ?_
    refine g_getsN (pc := 23) X 10 (by decide) wn_18 d_P_turnAndMove_23 ?_
    refine g_iload_n (pc := 26) X (i := 1) d_P_turnAndMove_26 rfl rfl ?_
    refine g_ti (pc := 27) X 10 (by decide) rfl k rfl (show k < s_N 10 from by show k < 25; omega) d_P_turnAndMove_27 ?_
    refine g_callSl (pc := 28) X (c_P_rotl (m_l M) B (f k) (s_i 10 k) ) wd_681 wd_682 wd_3 wd_683 hd_P_rotl [] rfl rfl [] (fun _ => rfl) rfl (by rw [hR]; decide) (by rw [hR]; decide) rfl (Nat.le_of_ble_eq_true rfl) d_P_turnAndMove_28 (fun r9 _ hr9 => ?_)
    subst hr9
    refine g_wsq [co a 2 [.ref la, .ref mo, .ref cm], cj B la 25 f, cj B mo 25 s] rfl ?_
    refine g_last (pc := 31) X 2 rfl (tgN k) rfl (by omega) (by omega) d_P_turnAndMove_31 ?_
    refine g_wsq [co a 2 [.ref la, .ref mo, .ref cm], cj B la 25 f, cj B mo 25 (va_up s (tgN k) (rotlC (f k) (s_i 10 k)))] rfl ?_
    refine g_iincN (pc := 32) X (a := k) (k + 1) d_P_turnAndMove_32 rfl 1 rfl (by omega) (by decide) ?_
    refine g_lv [(0, .ref a), (1, .int (nI (k + 1)))] rfl ?_
    refine g_goto (pc := 35) X (tgt := 2) d_P_turnAndMove_35 (by decide) ?_
    refine g_lv [(0, .ref a), (1, .int (nI (k + 1)))] rfl ?_
    exact kk2 _ (by rfl)
  · rw [show it (rhF f) 25 m = rho f m from rfl]
    show G B M 2 0 0 Q [co a 2 [.ref la, .ref mo, .ref cm], cj B la 25 f, cj B mo 25 (rho f m)] [(0, .ref a), (1, .int (nI 25))] 2 []
    refine g_iload_n (pc := 2) X (i := 1) d_P_turnAndMove_2 rfl rfl ?_
    refine g_bipush (pc := 3) X (v := nI 25) d_P_turnAndMove_3 (by decide) ?_
    refine g_icmp_geN (pc := 5) X (tgt := 38) d_P_turnAndMove_5 (by decide) (by omega) (by omega) (fun h_5 => ?_) (fun h_5 => absurd h_5 (by omega))
    exact kret () _ 38 trivial d_P_turnAndMove_38

theorem c_P_mixRows (l : Launch) (B : Bx) (a : Nat) (la : Nat) (mo : Nat) (cm : Nat) (f : Nat → Int64) (m : Nat → Int64)  : Cv (S := Unit) l B y_P_mixRows b_P_mixRows 3 (Rm 2 0 0) [.ref a] [co a 2 [.ref la, .ref mo, .ref cm], cj B la 25 f, cj B mo 25 m] (fun _ => True) (fun _ => [co a 2 [.ref la, .ref mo, .ref cm], cj B la 25 (chi m f), cj B mo 25 m]) := by
  refine ctr_v (by decide) (Nat.le_of_ble_eq_true rfl) ?_
  intro M Q hl hR hin X kret
  subst hl
  refine g_lv [(0, .ref a)] rfl ?_
  refine g_iconst (pc := 0) X (v := nI 0) d_P_mixRows_0 (by decide) ?_
  refine g_istore_n (pc := 1) X (i := 1) d_P_mixRows_1 rfl (by decide) ?_
  refine g_lv [(0, .ref a), (1, .int (nI 0))] rfl ?_
  refine g_lv [(0, .ref a), (1, .int (nI 0))] rfl ?_
  refine loopF (σ := Nat → Int64) (chF m) (fun k s => G B M 3 0 0 Q [co a 2 [.ref la, .ref mo, .ref cm], cj B la 25 s, cj B mo 25 m] [(0, .ref a), (1, .int (nI (5 * k)))] 2 []) 5 f ?_ ?_
  · intro k s hk2 kk2
    show G B M 3 0 0 Q [co a 2 [.ref la, .ref mo, .ref cm], cj B la 25 s, cj B mo 25 m] [(0, .ref a), (1, .int (nI (5 * k)))] 2 []
    refine g_iload_n (pc := 2) X (i := 1) d_P_mixRows_2 rfl rfl ?_
    refine g_bipush (pc := 3) X (v := nI 25) d_P_mixRows_3 (by decide) ?_
    refine g_icmp_geN (pc := 5) X (tgt := 73) d_P_mixRows_5 (by decide) (by omega) (by omega) (fun h_5 => absurd h_5 (by omega)) (fun h_5 => ?_)
    refine g_iconst (pc := 8) X (v := nI 0) d_P_mixRows_8 (by decide) ?_
    refine g_istore_n (pc := 9) X (i := 2) d_P_mixRows_9 rfl (by decide) ?_
    refine g_lv [(0, .ref a), (1, .int (nI (5 * k))), (2, .int (nI 0))] rfl ?_
    refine g_lv [(0, .ref a), (1, .int (nI (5 * k))), (2, .int (nI 0))] rfl ?_
    refine loopF (σ := Nat → Int64) (chI m k) (fun r z => G B M 3 0 0 Q [co a 2 [.ref la, .ref mo, .ref cm], cj B la 25 z, cj B mo 25 m] [(0, .ref a), (1, .int (nI (5 * k))), (2, .int (nI r))] 10 []) 5 s ?_ ?_
    · intro r z hk10 kk10
      show G B M 3 0 0 Q [co a 2 [.ref la, .ref mo, .ref cm], cj B la 25 z, cj B mo 25 m] [(0, .ref a), (1, .int (nI (5 * k))), (2, .int (nI r))] 10 []
      refine g_iload_n (pc := 10) X (i := 2) d_P_mixRows_10 rfl rfl ?_
      refine g_iconst (pc := 11) X (v := nI 5) d_P_mixRows_11 (by decide) ?_
      refine g_icmp_geN (pc := 12) X (tgt := 67) d_P_mixRows_12 (by decide) (by omega) (by omega) (fun h_12 => absurd h_12 (by omega)) (fun h_12 => ?_)
      refine g_aload_n (pc := 15) X (i := 0) d_P_mixRows_15 rfl rfl ?_
      refine g_get (pc := 16) X in_P 0 rfl rfl 0 (by decide) wd_54 rfl d_P_mixRows_16 ?_
      refine g_iload_n (pc := 19) X (i := 2) d_P_mixRows_19 rfl rfl ?_
      refine g_iload_n (pc := 20) X (i := 1) d_P_mixRows_20 rfl rfl ?_
      refine g_iaddN (pc := 21) X (r + (5 * k)) (by omega) d_P_mixRows_21 ?_
      refine g_aload_n (pc := 22) X (i := 0) d_P_mixRows_22 rfl rfl ?_
      refine g_get (pc := 23) X in_P 0 rfl rfl 1 (by decide) wd_55 rfl d_P_mixRows_23 ?_
      refine g_iload_n (pc := 26) X (i := 2) d_P_mixRows_26 rfl rfl ?_
      refine g_iload_n (pc := 27) X (i := 1) d_P_mixRows_27 rfl rfl ?_
      refine g_iaddN (pc := 28) X (r + (5 * k)) (by omega) d_P_mixRows_28 ?_
      refine g_lald (pc := 29) X 2 rfl (r + (5 * k)) rfl (by omega) (by omega) d_P_mixRows_29 ?_
      refine g_aload_n (pc := 30) X (i := 0) d_P_mixRows_30 rfl rfl ?_
      refine g_get (pc := 31) X in_P 0 rfl rfl 1 (by decide) wd_55 rfl d_P_mixRows_31 ?_
      refine g_iload_n (pc := 34) X (i := 2) d_P_mixRows_34 rfl rfl ?_
      refine g_iconst (pc := 35) X (v := nI 1) d_P_mixRows_35 (by decide) ?_
      refine g_iaddN (pc := 36) X (r + 1) (by omega) d_P_mixRows_36 ?_
      refine g_iconst (pc := 37) X (v := nI 5) d_P_mixRows_37 (by decide) ?_
      refine g_iremN (pc := 38) X ((r + 1) % 5) (by omega) (by omega) (by omega) rfl d_P_mixRows_38 ?_
      refine g_iload_n (pc := 39) X (i := 1) d_P_mixRows_39 rfl rfl ?_
      refine g_iaddN (pc := 40) X ((r + 1) % 5 + (5 * k)) (by omega) d_P_mixRows_40 ?_
      refine g_lald (pc := 41) X 2 rfl ((r + 1) % 5 + (5 * k)) rfl (by omega) (by omega) d_P_mixRows_41 ?_
      refine g_ldc2 (pc := 42) X wd_696 d_P_mixRows_42 ?_
      refine g_lxor (pc := 45) X d_P_mixRows_45 ?_
      refine g_aload_n (pc := 46) X (i := 0) d_P_mixRows_46 rfl rfl ?_
      refine g_get (pc := 47) X in_P 0 rfl rfl 1 (by decide) wd_55 rfl d_P_mixRows_47 ?_
      refine g_iload_n (pc := 50) X (i := 2) d_P_mixRows_50 rfl rfl ?_
      refine g_iconst (pc := 51) X (v := nI 2) d_P_mixRows_51 (by decide) ?_
      refine g_iaddN (pc := 52) X (r + 2) (by omega) d_P_mixRows_52 ?_
      refine g_iconst (pc := 53) X (v := nI 5) d_P_mixRows_53 (by decide) ?_
      refine g_iremN (pc := 54) X ((r + 2) % 5) (by omega) (by omega) (by omega) rfl d_P_mixRows_54 ?_
      refine g_iload_n (pc := 55) X (i := 1) d_P_mixRows_55 rfl rfl ?_
      refine g_iaddN (pc := 56) X ((r + 2) % 5 + (5 * k)) (by omega) d_P_mixRows_56 ?_
      refine g_lald (pc := 57) X 2 rfl ((r + 2) % 5 + (5 * k)) rfl (by omega) (by omega) d_P_mixRows_57 ?_
      refine g_land (pc := 58) X d_P_mixRows_58 ?_
      refine g_lxor (pc := 59) X d_P_mixRows_59 ?_
      refine g_last (pc := 60) X 1 rfl (r + (5 * k)) rfl (by omega) (by omega) d_P_mixRows_60 ?_
      refine g_wsq [co a 2 [.ref la, .ref mo, .ref cm], cj B la 25 (va_up z (r + (5 * k)) ((m (r + (5 * k))) ^^^ (((m ((r + 1) % 5 + (5 * k))) ^^^ (-1)) &&& (m ((r + 2) % 5 + (5 * k)))))), cj B mo 25 m] rfl ?_
      refine g_iincN (pc := 61) X (a := r) (r + 1) d_P_mixRows_61 rfl 1 rfl (by omega) (by decide) ?_
      refine g_lv [(0, .ref a), (1, .int (nI (5 * k))), (2, .int (nI (r + 1)))] rfl ?_
      refine g_goto (pc := 64) X (tgt := 10) d_P_mixRows_64 (by decide) ?_
      refine g_lv [(0, .ref a), (1, .int (nI (5 * k))), (2, .int (nI (r + 1)))] rfl ?_
      exact kk10 _ (by rfl)
    · show G B M 3 0 0 Q [co a 2 [.ref la, .ref mo, .ref cm], cj B la 25 (it (chI m k) 5 s), cj B mo 25 m] [(0, .ref a), (1, .int (nI (5 * k))), (2, .int (nI 5))] 10 []
      refine g_iload_n (pc := 10) X (i := 2) d_P_mixRows_10 rfl rfl ?_
      refine g_iconst (pc := 11) X (v := nI 5) d_P_mixRows_11 (by decide) ?_
      refine g_icmp_geN (pc := 12) X (tgt := 67) d_P_mixRows_12 (by decide) (by omega) (by omega) (fun h_12 => ?_) (fun h_12 => absurd h_12 (by omega))
      refine g_iincN (pc := 67) X (a := 5 * k) (5 * k + 5) d_P_mixRows_67 rfl 5 rfl (by omega) (by decide) ?_
      refine g_lv [(0, .ref a), (1, .int (nI (5 * k + 5))), (2, .int (nI 5))] rfl ?_
      refine g_goto (pc := 70) X (tgt := 2) d_P_mixRows_70 (by decide) ?_
      refine g_lv [(0, .ref a), (1, .int (nI (5 * k + 5)))] rfl ?_
      exact kk2 _ (by rfl)
  · rw [show it (chF m) 5 f = chi m f from rfl]
    show G B M 3 0 0 Q [co a 2 [.ref la, .ref mo, .ref cm], cj B la 25 (chi m f), cj B mo 25 m] [(0, .ref a), (1, .int (nI (5 * 5)))] 2 []
    refine g_iload_n (pc := 2) X (i := 1) d_P_mixRows_2 rfl rfl ?_
    refine g_bipush (pc := 3) X (v := nI 25) d_P_mixRows_3 (by decide) ?_
    refine g_icmp_geN (pc := 5) X (tgt := 73) d_P_mixRows_5 (by decide) (by omega) (by omega) (fun h_5 => ?_) (fun h_5 => absurd h_5 (by omega))
    exact kret () _ 73 trivial d_P_mixRows_73

theorem c_P_permute (l : Launch) (B : Bx) (a : Nat) (la : Nat) (mo : Nat) (cm : Nat) (f : Nat → Int64) (m : Nat → Int64) (c : Nat → Int64)  : Cv (S := Unit) l B y_P_permute b_P_permute 2 (Rm 3 0 0) [.ref a] [co a 2 [.ref la, .ref mo, .ref cm], cj B la 25 f, cj B mo 25 m, cj B cm 5 c] (fun _ => True) (fun _ => [co a 2 [.ref la, .ref mo, .ref cm], cj B la 25 ((prm (f, m, c)).1), cj B mo 25 ((prm (f, m, c)).2.1), cj B cm 5 ((prm (f, m, c)).2.2)]) := by
  refine ctr_v (by decide) (Nat.le_of_ble_eq_true rfl) ?_
  intro M Q hl hR hin X kret
  subst hl
  refine g_lv [(0, .ref a)] rfl ?_
  refine g_iconst (pc := 0) X (v := nI 0) d_P_permute_0 (by decide) ?_
  refine g_istore_n (pc := 1) X (i := 1) d_P_permute_1 rfl (by decide) ?_
  refine g_lv [(0, .ref a), (1, .int (nI 0))] rfl ?_
  refine g_lv [(0, .ref a), (1, .int (nI 0))] rfl ?_
  refine loopF (σ := S3) prF (fun k s => G B M 2 0 0 Q [co a 2 [.ref la, .ref mo, .ref cm], cj B la 25 s.1, cj B mo 25 s.2.1, cj B cm 5 s.2.2] [(0, .ref a), (1, .int (nI k))] 2 []) 24 (f, m, c) ?_ ?_
  · intro k s hk2 kk2
    show G B M 2 0 0 Q [co a 2 [.ref la, .ref mo, .ref cm], cj B la 25 s.1, cj B mo 25 s.2.1, cj B cm 5 s.2.2] [(0, .ref a), (1, .int (nI k))] 2 []
    refine g_iload_n (pc := 2) X (i := 1) d_P_permute_2 rfl rfl ?_
    refine g_bipush (pc := 3) X (v := nI 24) d_P_permute_3 (by decide) ?_
    refine g_icmp_geN (pc := 5) X (tgt := 40) d_P_permute_5 (by decide) (by omega) (by omega) (fun h_5 => absurd h_5 (by omega)) (fun h_5 => ?_)
    refine g_aload_n (pc := 8) X (i := 0) d_P_permute_8 rfl rfl ?_
    refine g_callVv (pc := 9) (q0 := 0) X (c_P_mixColumns (m_l M) B a la mo cm s.1 s.2.2 ) wd_677 wd_679 wp_P_mixColumns wd_3 wd_680 hd_P_mixColumns [0, 1, 3] rfl rfl [a, la, cm] (fun _ => rfl) rfl rfl rfl (by rw [hR]; decide) (by rw [hR]; decide) rfl (Nat.le_of_ble_eq_true rfl) d_P_permute_9 (fun _ _ => ?_)
    refine g_wsq [co a 2 [.ref la, .ref mo, .ref cm], cj B la 25 (theta (cols s.1 s.2.2) s.1), cj B mo 25 s.2.1, cj B cm 5 (cols s.1 s.2.2)] rfl ?_
    refine g_aload_n (pc := 12) X (i := 0) d_P_permute_12 rfl rfl ?_
    refine g_callVv (pc := 13) (q0 := 0) X (c_P_turnAndMove (m_l M) B a la mo cm (theta (cols s.1 s.2.2) s.1) s.2.1 ) wd_684 wd_686 wp_P_turnAndMove wd_3 wd_687 hd_P_turnAndMove [0, 1, 2] rfl rfl [a, la, mo] (fun _ => rfl) rfl rfl rfl (by rw [hR]; decide) (by rw [hR]; decide) rfl (Nat.le_of_ble_eq_true rfl) d_P_permute_13 (fun _ _ => ?_)
    refine g_wsq [co a 2 [.ref la, .ref mo, .ref cm], cj B la 25 (theta (cols s.1 s.2.2) s.1), cj B mo 25 (rho (theta (cols s.1 s.2.2) s.1) s.2.1), cj B cm 5 (cols s.1 s.2.2)] rfl ?_
    refine g_aload_n (pc := 16) X (i := 0) d_P_permute_16 rfl rfl ?_
    refine g_callVv (pc := 17) (q0 := 0) X (c_P_mixRows (m_l M) B a la mo cm (theta (cols s.1 s.2.2) s.1) (rho (theta (cols s.1 s.2.2) s.1) s.2.1) ) wd_692 wd_694 wp_P_mixRows wd_3 wd_695 hd_P_mixRows [0, 1, 2] rfl rfl [a, la, mo] (fun _ => rfl) rfl rfl rfl (by rw [hR]; decide) (by rw [hR]; decide) rfl (Nat.le_of_ble_eq_true rfl) d_P_permute_17 (fun _ _ => ?_)
    refine g_wsq [co a 2 [.ref la, .ref mo, .ref cm], cj B la 25 (chi (rho (theta (cols s.1 s.2.2) s.1) s.2.1) (theta (cols s.1 s.2.2) s.1)), cj B mo 25 (rho (theta (cols s.1 s.2.2) s.1) s.2.1), cj B cm 5 (cols s.1 s.2.2)] rfl ?_
    refine g_aload_n (pc := 20) X (i := 0) d_P_permute_20 rfl rfl ?_
    refine g_get (pc := 21) X in_P 0 rfl rfl 0 (by decide) wd_54 rfl d_P_permute_21 ?_
    refine g_iconst (pc := 24) X (v := nI 0) d_P_permute_24 (by decide) ?_
    refine g_dup2_11 (pc := 25) X d_P_permute_25 rfl rfl ?_
    refine g_lald (pc := 26) X 1 rfl 0 rfl (by omega) (by omega) d_P_permute_26 ?_
    refine g_getsN (pc := 27) X 9 (by decide) wn_19 d_P_permute_27 ?_
    refine g_iload_n (pc := 30) X (i := 1) d_P_permute_30 rfl rfl ?_
    refine g_tl (pc := 31) X 9 (by decide) rfl k rfl (show k < s_N 9 from by show k < 24; omega) d_P_permute_31 ?_
    refine g_lxor (pc := 32) X d_P_permute_32 ?_
    refine g_last (pc := 33) X 1 rfl 0 rfl (by omega) (by omega) d_P_permute_33 ?_
    refine g_wsq [co a 2 [.ref la, .ref mo, .ref cm], cj B la 25 (va_up (chi (rho (theta (cols s.1 s.2.2) s.1) s.2.1) (theta (cols s.1 s.2.2) s.1)) 0 (((chi (rho (theta (cols s.1 s.2.2) s.1) s.2.1) (theta (cols s.1 s.2.2) s.1)) 0) ^^^ (s_l 9 k))), cj B mo 25 (rho (theta (cols s.1 s.2.2) s.1) s.2.1), cj B cm 5 (cols s.1 s.2.2)] rfl ?_
    refine g_iincN (pc := 34) X (a := k) (k + 1) d_P_permute_34 rfl 1 rfl (by omega) (by decide) ?_
    refine g_lv [(0, .ref a), (1, .int (nI (k + 1)))] rfl ?_
    refine g_goto (pc := 37) X (tgt := 2) d_P_permute_37 (by decide) ?_
    refine g_lv [(0, .ref a), (1, .int (nI (k + 1)))] rfl ?_
    exact kk2 (_, _, _) (by rfl)
  · rw [show it prF 24 (f, m, c) = prm (f, m, c) from rfl]
    show G B M 2 0 0 Q [co a 2 [.ref la, .ref mo, .ref cm], cj B la 25 ((prm (f, m, c)).1), cj B mo 25 ((prm (f, m, c)).2.1), cj B cm 5 ((prm (f, m, c)).2.2)] [(0, .ref a), (1, .int (nI 24))] 2 []
    refine g_iload_n (pc := 2) X (i := 1) d_P_permute_2 rfl rfl ?_
    refine g_bipush (pc := 3) X (v := nI 24) d_P_permute_3 (by decide) ?_
    refine g_icmp_geN (pc := 5) X (tgt := 40) d_P_permute_5 (by decide) (by omega) (by omega) (fun h_5 => ?_) (fun h_5 => absurd h_5 (by omega))
    exact kret () _ 40 trivial d_P_permute_40
