theorem c_O_finish_b (l : Launch) (B : Bx) (a : Nat) (q : Nat → Nat) (tp : Nat) (kd : Nat) (rt : Nat) (fl : Nat) (tt : Nat) (cd : Int32) (g : Nat → Int8) (S : Nat → Int64) (w : Nat → Int64) (K : Nat → Int64) (hk : kd ≤ 6) (hr : rt = 64 ∨ rt = 128) (hf : fl < rt) : Cv (S := Unit) l B y_O_finish b_O_finish 4 (Rm 4 0 0) [.ref a] [co a 4 [.ref (q 0), .ref (q 1), .ref (q 2), .int (nI tp), .int cd, .ref (q 3), .ref (q 4), .ref (q 5), .ref (q 6), .ref (q 7), .ref (q 8), .ref (q 9), .ref (q 10), .ref (q 11), .ref (q 12), .ref (q 13), .ref (q 14), .ref (q 15), .int (nI kd), .int (nI rt), .int (nI fl), .long (lN tt), .ref (q 16), .ref (q 17)], cj B (q 11) 25 S, cb B (q 15) 128 g, cj B (q 14) 80 w, cj B (q 4) 80 K] (fun _ => True) (fun _ => [co a 4 [.ref (q 0), .ref (q 1), .ref (q 2), .int (nI tp), .int cd, .ref (q 3), .ref (q 4), .ref (q 5), .ref (q 6), .ref (q 7), .ref (q 8), .ref (q 9), .ref (q 10), .ref (q 11), .ref (q 12), .ref (q 13), .ref (q 14), .ref (q 15), .int (nI kd), .int (nI rt), .int (nI ((rFin rt K (lN tt) (g, fl, S, w)).2.1)), .long (lN (rFiT rt K tt (g, fl, S, w))), .ref (q 16), .ref (q 17)], cj B (q 11) 25 ((rFin rt K (lN tt) (g, fl, S, w)).2.2.1), cb B (q 15) 128 ((rFin rt K (lN tt) (g, fl, S, w)).1), cj B (q 14) 80 ((rFin rt K (lN tt) (g, fl, S, w)).2.2.2), cj B (q 4) 80 K]) := by
  refine ctr_v (by decide) (Nat.le_of_ble_eq_true rfl) ?_
  intro M Q hl hR hin X kret
  subst hl
  have hf1 : (rFi1 rt K (g, fl, S, w)).2.1 < rt := ptB_lt K _ hf
  have hz1 := zcn_or rt (rFi1 rt K (g, fl, S, w)).2.1
  have hf2 : (rFi2 rt K (g, fl, S, w)).2.1 < rt := rFi2_lt K hf
  refine g_lv [(0, .ref a)] rfl ?_
  refine g_aload_n (pc := 0) X (i := 0) d_O_finish_0 rfl rfl ?_
  refine g_callVi (pc := 1) (q0 := 0) X (c_O_sponge_b (m_l M) B a q tp kd rt fl tt cd (by omega)) wd_783 wd_785 wp_O_sponge wd_5 wd_786 hd_O_sponge [0] rfl rfl [a] (fun _ => rfl) rfl rfl rfl (by rw [hR]; decide) (by rw [hR]; decide) rfl (Nat.le_of_ble_eq_true rfl) d_O_finish_1 (fun r9 _ hr9 => ?_)
  subst hr9
  refine g_wsq [co a 4 [.ref (q 0), .ref (q 1), .ref (q 2), .int (nI tp), .int cd, .ref (q 3), .ref (q 4), .ref (q 5), .ref (q 6), .ref (q 7), .ref (q 8), .ref (q 9), .ref (q 10), .ref (q 11), .ref (q 12), .ref (q 13), .ref (q 14), .ref (q 15), .int (nI kd), .int (nI rt), .int (nI fl), .long (lN tt), .ref (q 16), .ref (q 17)], cj B (q 11) 25 S, cb B (q 15) 128 g, cj B (q 14) 80 w, cj B (q 4) 80 K] rfl ?_
  refine g_if_eqN (pc := 4) X (tgt := 54) d_O_finish_4 (by decide) (by omega) (fun h_4 => ?_) (fun h_4 => absurd h_4 (by omega))
  refine g_ldc2 (pc := 54) X wd_818 d_O_finish_54 ?_
  refine g_aload_n (pc := 57) X (i := 0) d_O_finish_57 rfl rfl ?_
  refine g_get (pc := 58) X in_O 0 rfl rfl 21 (by decide) wd_840 rfl d_O_finish_58 ?_
  refine g_lmul (pc := 61) X d_O_finish_61 ?_
  refine g_lstore_n (pc := 62) X (i := 1) d_O_finish_62 rfl (by decide) ?_
  refine g_lv [(0, .ref a), (1, .long (8 * (lN tt)))] rfl ?_
  refine g_aload_n (pc := 63) X (i := 0) d_O_finish_63 rfl rfl ?_
  refine g_sipush (pc := 64) X (v := nI 128) d_O_finish_64 (by decide) ?_
  refine g_callVv (pc := 67) (q0 := 0) X (c_O_put_b (m_l M) B a q tp kd rt fl tt cd g S w K (nI 128) (by omega) (by omega) (by omega)) wd_779 wd_781 wp_O_put wd_5 wd_782 hd_O_put [0, 1, 2, 3, 4] rfl rfl [a, q 11, q 15, q 14, q 4] (fun _ => rfl) rfl rfl rfl (by rw [hR]; decide) (by rw [hR]; decide) rfl (Nat.le_of_ble_eq_true rfl) d_O_finish_67 (fun _ _ => ?_)
  refine g_wsq [co a 4 [.ref (q 0), .ref (q 1), .ref (q 2), .int (nI tp), .int cd, .ref (q 3), .ref (q 4), .ref (q 5), .ref (q 6), .ref (q 7), .ref (q 8), .ref (q 9), .ref (q 10), .ref (q 11), .ref (q 12), .ref (q 13), .ref (q 14), .ref (q 15), .int (nI kd), .int (nI rt), .int (nI ((ptB rt K (g, fl, S, w) (nI 128)).2.1)), .long (lN (tt + 1)), .ref (q 16), .ref (q 17)], cj B (q 11) 25 ((ptB rt K (g, fl, S, w) (nI 128)).2.2.1), cb B (q 15) 128 ((ptB rt K (g, fl, S, w) (nI 128)).1), cj B (q 14) 80 ((ptB rt K (g, fl, S, w) (nI 128)).2.2.2), cj B (q 4) 80 K] rfl ?_
  refine g_lv [(0, .ref a), (1, .long (8 * (lN tt)))] rfl ?_
  refine loopI (σ := H4) (zpF rt K) (fun j s => ((rFi1 rt K (g, fl, S, w)).2.1 + j < rt ∧ s.2.1 = (rFi1 rt K (g, fl, S, w)).2.1 + j) ∨ (rt ≤ (rFi1 rt K (g, fl, S, w)).2.1 + j ∧ s.2.1 = (rFi1 rt K (g, fl, S, w)).2.1 + j - rt)) (fun j s => G B M 4 0 0 Q [co a 4 [.ref (q 0), .ref (q 1), .ref (q 2), .int (nI tp), .int cd, .ref (q 3), .ref (q 4), .ref (q 5), .ref (q 6), .ref (q 7), .ref (q 8), .ref (q 9), .ref (q 10), .ref (q 11), .ref (q 12), .ref (q 13), .ref (q 14), .ref (q 15), .int (nI kd), .int (nI rt), .int (nI s.2.1), .long (lN (tt + 1 + j)), .ref (q 16), .ref (q 17)], cj B (q 11) 25 s.2.2.1, cb B (q 15) 128 s.1, cj B (q 14) 80 s.2.2.2, cj B (q 4) 80 K] [(0, .ref a), (1, .long (8 * (lN tt)))] 70 []) (zcn rt (rFi1 rt K (g, fl, S, w)).2.1) (rFi1 rt K (g, fl, S, w)) (Or.inl ⟨hf1, rfl⟩) (fun j s hj h => by have h9 := ptB_fl rt K s (nI 0); show _ ∨ _; unfold zpF; rw [h9]; by_cases h8 : s.2.1 + 1 = rt <;> simp only [h8, if_true, if_false] <;> omega) ?_ ?_
  · intro j s hk70 hI70 kk70
    have hI := hI70
    show G B M 4 0 0 Q [co a 4 [.ref (q 0), .ref (q 1), .ref (q 2), .int (nI tp), .int cd, .ref (q 3), .ref (q 4), .ref (q 5), .ref (q 6), .ref (q 7), .ref (q 8), .ref (q 9), .ref (q 10), .ref (q 11), .ref (q 12), .ref (q 13), .ref (q 14), .ref (q 15), .int (nI kd), .int (nI rt), .int (nI s.2.1), .long (lN (tt + 1 + j)), .ref (q 16), .ref (q 17)], cj B (q 11) 25 s.2.2.1, cb B (q 15) 128 s.1, cj B (q 14) 80 s.2.2.2, cj B (q 4) 80 K] [(0, .ref a), (1, .long (8 * (lN tt)))] 70 []
    refine g_aload_n (pc := 70) X (i := 0) d_O_finish_70 rfl rfl ?_
    refine g_get (pc := 71) X in_O 0 rfl rfl 20 (by decide) wd_839 rfl d_O_finish_71 ?_
    refine g_aload_n (pc := 74) X (i := 0) d_O_finish_74 rfl rfl ?_
    refine g_get (pc := 75) X in_O 0 rfl rfl 19 (by decide) wd_838 rfl d_O_finish_75 ?_
    refine g_aload_n (pc := 78) X (i := 0) d_O_finish_78 rfl rfl ?_
    refine g_get (pc := 79) X in_O 0 rfl rfl 19 (by decide) wd_838 rfl d_O_finish_79 ?_
    refine g_bipush (pc := 82) X (v := nI 8) d_O_finish_82 (by decide) ?_
    refine g_idivN (pc := 84) X (rt / 8) (by omega) (by omega) (by omega) rfl d_O_finish_84 ?_
    refine g_isubN (pc := 85) X (rt - (rt / 8)) (by omega) d_O_finish_85 ?_
    refine g_icmp_eqN (pc := 86) X (tgt := 97) d_O_finish_86 (by decide) (by omega) (by omega) (fun h_86 => absurd h_86 (by omega)) (fun h_86 => ?_)
    refine g_aload_n (pc := 89) X (i := 0) d_O_finish_89 rfl rfl ?_
    refine g_iconst (pc := 90) X (v := nI 0) d_O_finish_90 (by decide) ?_
    refine g_callVv (pc := 91) (q0 := 0) X (c_O_put_b (m_l M) B a q tp kd rt s.2.1 (tt + 1 + j) cd s.1 s.2.2.1 s.2.2.2 K (nI 0) (by omega) (by omega) (by omega)) wd_779 wd_781 wp_O_put wd_5 wd_782 hd_O_put [0, 1, 2, 3, 4] rfl rfl [a, q 11, q 15, q 14, q 4] (fun _ => rfl) rfl rfl rfl (by rw [hR]; decide) (by rw [hR]; decide) rfl (Nat.le_of_ble_eq_true rfl) d_O_finish_91 (fun _ _ => ?_)
    refine g_wsq [co a 4 [.ref (q 0), .ref (q 1), .ref (q 2), .int (nI tp), .int cd, .ref (q 3), .ref (q 4), .ref (q 5), .ref (q 6), .ref (q 7), .ref (q 8), .ref (q 9), .ref (q 10), .ref (q 11), .ref (q 12), .ref (q 13), .ref (q 14), .ref (q 15), .int (nI kd), .int (nI rt), .int (nI ((ptB rt K s (nI 0)).2.1)), .long (lN ((tt + 1 + j) + 1)), .ref (q 16), .ref (q 17)], cj B (q 11) 25 ((ptB rt K s (nI 0)).2.2.1), cb B (q 15) 128 ((ptB rt K s (nI 0)).1), cj B (q 14) 80 ((ptB rt K s (nI 0)).2.2.2), cj B (q 4) 80 K] rfl ?_
    refine g_goto (pc := 94) X (tgt := 70) d_O_finish_94 (by decide) ?_
    refine g_lv [(0, .ref a), (1, .long (8 * (lN tt)))] rfl ?_
    exact kk70 _ (by rfl)
  · intro hI70
    rw [show it (zpF rt K) (zcn rt (rFi1 rt K (g, fl, S, w)).2.1) (rFi1 rt K (g, fl, S, w)) = (rFi2 rt K (g, fl, S, w)) from rfl] at hI70 ⊢
    show G B M 4 0 0 Q [co a 4 [.ref (q 0), .ref (q 1), .ref (q 2), .int (nI tp), .int cd, .ref (q 3), .ref (q 4), .ref (q 5), .ref (q 6), .ref (q 7), .ref (q 8), .ref (q 9), .ref (q 10), .ref (q 11), .ref (q 12), .ref (q 13), .ref (q 14), .ref (q 15), .int (nI kd), .int (nI rt), .int (nI (((rFi2 rt K (g, fl, S, w))).2.1)), .long (lN (tt + 1 + (zcn rt (rFi1 rt K (g, fl, S, w)).2.1))), .ref (q 16), .ref (q 17)], cj B (q 11) 25 (((rFi2 rt K (g, fl, S, w))).2.2.1), cb B (q 15) 128 (((rFi2 rt K (g, fl, S, w))).1), cj B (q 14) 80 (((rFi2 rt K (g, fl, S, w))).2.2.2), cj B (q 4) 80 K] [(0, .ref a), (1, .long (8 * (lN tt)))] 70 []
    refine g_aload_n (pc := 70) X (i := 0) d_O_finish_70 rfl rfl ?_
    refine g_get (pc := 71) X in_O 0 rfl rfl 20 (by decide) wd_839 rfl d_O_finish_71 ?_
    refine g_aload_n (pc := 74) X (i := 0) d_O_finish_74 rfl rfl ?_
    refine g_get (pc := 75) X in_O 0 rfl rfl 19 (by decide) wd_838 rfl d_O_finish_75 ?_
    refine g_aload_n (pc := 78) X (i := 0) d_O_finish_78 rfl rfl ?_
    refine g_get (pc := 79) X in_O 0 rfl rfl 19 (by decide) wd_838 rfl d_O_finish_79 ?_
    refine g_bipush (pc := 82) X (v := nI 8) d_O_finish_82 (by decide) ?_
    refine g_idivN (pc := 84) X (rt / 8) (by omega) (by omega) (by omega) rfl d_O_finish_84 ?_
    refine g_isubN (pc := 85) X (rt - (rt / 8)) (by omega) d_O_finish_85 ?_
    refine g_icmp_eqN (pc := 86) X (tgt := 97) d_O_finish_86 (by decide) (by omega) (by omega) (fun h_86 => ?_) (fun h_86 => absurd h_86 (by omega))
    refine g_aload_n (pc := 97) X (i := 0) d_O_finish_97 rfl rfl ?_
    refine g_get (pc := 98) X in_O 0 rfl rfl 19 (by decide) wd_838 rfl d_O_finish_98 ?_
    refine g_bipush (pc := 101) X (v := nI 8) d_O_finish_101 (by decide) ?_
    refine g_idivN (pc := 103) X (rt / 8) (by omega) (by omega) (by omega) rfl d_O_finish_103 ?_
    refine g_iconst (pc := 104) X (v := nI 1) d_O_finish_104 (by decide) ?_
    refine g_isubN (pc := 105) X (rt / 8 - 1) (by omega) d_O_finish_105 ?_
    refine g_istore_n (pc := 106) X (i := 3) d_O_finish_106 rfl (by decide) ?_
    refine g_lv [(0, .ref a), (1, .long (8 * (lN tt))), (3, .int (nI (rt / 8 - 1)))] rfl ?_
    refine g_lv [(0, .ref a), (1, .long (8 * (lN tt))), (3, .int (nI (rt / 8 - 1)))] rfl ?_
    refine g_lve [(0, .ref a), (1, .long (8 * (lN tt))), (3, .int (nI (rt / 8 - 0) - nI 1))] (by rw [pk_sub (by omega)]; rfl) ?_
    refine loopI (σ := H4) (lpF rt K ((8 : Int64) * lN tt)) (fun j s => s.2.1 < rt) (fun j s => G B M 4 0 0 Q [co a 4 [.ref (q 0), .ref (q 1), .ref (q 2), .int (nI tp), .int cd, .ref (q 3), .ref (q 4), .ref (q 5), .ref (q 6), .ref (q 7), .ref (q 8), .ref (q 9), .ref (q 10), .ref (q 11), .ref (q 12), .ref (q 13), .ref (q 14), .ref (q 15), .int (nI kd), .int (nI rt), .int (nI s.2.1), .long (lN (tt + 1 + zcn rt (rFi1 rt K (g, fl, S, w)).2.1 + j)), .ref (q 16), .ref (q 17)], cj B (q 11) 25 s.2.2.1, cb B (q 15) 128 s.1, cj B (q 14) 80 s.2.2.2, cj B (q 4) 80 K] [(0, .ref a), (1, .long (8 * (lN tt))), (3, .int (nI (rt / 8 - j) - nI 1))] 107 []) (rt / 8) (rFi2 rt K (g, fl, S, w)) hf2 (fun j s _ h => ptB_lt K _ h) ?_ ?_
    · intro j s hk107 hI107 kk107
      show G B M 4 0 0 Q [co a 4 [.ref (q 0), .ref (q 1), .ref (q 2), .int (nI tp), .int cd, .ref (q 3), .ref (q 4), .ref (q 5), .ref (q 6), .ref (q 7), .ref (q 8), .ref (q 9), .ref (q 10), .ref (q 11), .ref (q 12), .ref (q 13), .ref (q 14), .ref (q 15), .int (nI kd), .int (nI rt), .int (nI s.2.1), .long (lN (tt + 1 + zcn rt (rFi1 rt K (g, fl, S, w)).2.1 + j)), .ref (q 16), .ref (q 17)], cj B (q 11) 25 s.2.2.1, cb B (q 15) 128 s.1, cj B (q 14) 80 s.2.2.2, cj B (q 4) 80 K] [(0, .ref a), (1, .long (8 * (lN tt))), (3, .int (nI (rt / 8 - j) - nI 1))] 107 []
      refine g_lve [(0, .ref a), (1, .long (8 * (lN tt))), (3, .int (nI (rt / 8 - 1 - j)))] (by rw [pk_sub (by omega), show rt / 8 - j - 1 = rt / 8 - 1 - j by omega]) ?_
      refine g_iload_n (pc := 107) X (i := 3) d_O_finish_107 rfl rfl ?_
      refine g_if_ltN (pc := 108) X (tgt := 138) d_O_finish_108 (by decide) (by omega) ?_
      refine g_aload_n (pc := 111) X (i := 0) d_O_finish_111 rfl rfl ?_
      refine g_iload_n (pc := 112) X (i := 3) d_O_finish_112 rfl rfl ?_
      refine g_bipush (pc := 113) X (v := nI 8) d_O_finish_113 (by decide) ?_
      refine g_icmp_geN (pc := 115) X (tgt := 128) d_O_finish_115 (by decide) (by omega) (by omega) (fun h_115 => ?_) (fun h_115 => ?_)
      · refine g_iconst (pc := 128) X (v := nI 0) d_O_finish_128 (by decide) ?_
        refine g_callVv (pc := 129) (q0 := 0) X (c_O_put_b (m_l M) B a q tp kd rt s.2.1 (tt + 1 + zcn rt (rFi1 rt K (g, fl, S, w)).2.1 + j) cd s.1 s.2.2.1 s.2.2.2 K (nI 0) (by omega) (by omega) (by omega)) wd_779 wd_781 wp_O_put wd_5 wd_782 hd_O_put [0, 1, 2, 3, 4] rfl rfl [a, q 11, q 15, q 14, q 4] (fun _ => rfl) rfl rfl rfl (by rw [hR]; decide) (by rw [hR]; decide) rfl (Nat.le_of_ble_eq_true rfl) d_O_finish_129 (fun _ _ => ?_)
        refine g_wsq [co a 4 [.ref (q 0), .ref (q 1), .ref (q 2), .int (nI tp), .int cd, .ref (q 3), .ref (q 4), .ref (q 5), .ref (q 6), .ref (q 7), .ref (q 8), .ref (q 9), .ref (q 10), .ref (q 11), .ref (q 12), .ref (q 13), .ref (q 14), .ref (q 15), .int (nI kd), .int (nI rt), .int (nI ((ptB rt K s (nI 0)).2.1)), .long (lN ((tt + 1 + zcn rt (rFi1 rt K (g, fl, S, w)).2.1 + j) + 1)), .ref (q 16), .ref (q 17)], cj B (q 11) 25 ((ptB rt K s (nI 0)).2.2.1), cb B (q 15) 128 ((ptB rt K s (nI 0)).1), cj B (q 14) 80 ((ptB rt K s (nI 0)).2.2.2), cj B (q 4) 80 K] rfl ?_
        refine g_iinc (pc := 132) X (k9 := (-1)) d_O_finish_132 rfl (by decide) (by decide) ?_
        refine g_lv [(0, .ref a), (1, .long (8 * (lN tt))), (3, .int ((nI (rt / 8 - 1 - j)) + (-1)))] rfl ?_
        refine g_goto (pc := 135) X (tgt := 107) d_O_finish_135 (by decide) ?_
        refine g_lv [(0, .ref a), (1, .long (8 * (lN tt))), (3, .int ((nI (rt / 8 - 1 - j)) + (-1)))] rfl ?_
        refine g_lve [(0, .ref a), (1, .long (8 * (lN tt))), (3, .int (nI (rt / 8 - (j + 1)) - nI 1))] (by rw [show rt / 8 - (j + 1) = rt / 8 - 1 - j by omega, Int32.sub_eq_add_neg]; rfl) ?_
        exact kk107 _ (by unfold lpF lbR; first | rw [if_pos (by omega)] | rw [if_neg (by omega)])
      · refine g_lload_n (pc := 118) X (i := 1) d_O_finish_118 rfl rfl ?_
        refine g_bipush (pc := 119) X (v := nI 8) d_O_finish_119 (by decide) ?_
        refine g_iload_n (pc := 121) X (i := 3) d_O_finish_121 rfl rfl ?_
        refine g_imulN (pc := 122) X (8 * (rt / 8 - 1 - j)) rfl d_O_finish_122 ?_
        refine g_lushr (pc := 123) X (v := lush (8 * (lN tt)) (nI (8 * (rt / 8 - 1 - j)))) d_O_finish_123 rfl ?_
        refine g_l2i (pc := 124) X d_O_finish_124 rfl ?_
        refine g_goto (pc := 125) X (tgt := 129) d_O_finish_125 (by decide) ?_
        refine g_callVv (pc := 129) (q0 := 0) X (c_O_put_b (m_l M) B a q tp kd rt s.2.1 (tt + 1 + zcn rt (rFi1 rt K (g, fl, S, w)).2.1 + j) cd s.1 s.2.2.1 s.2.2.2 K ((lush (8 * (lN tt)) (nI (8 * (rt / 8 - 1 - j)))).toInt32) (by omega) (by omega) (by omega)) wd_779 wd_781 wp_O_put wd_5 wd_782 hd_O_put [0, 1, 2, 3, 4] rfl rfl [a, q 11, q 15, q 14, q 4] (fun _ => rfl) rfl rfl rfl (by rw [hR]; decide) (by rw [hR]; decide) rfl (Nat.le_of_ble_eq_true rfl) d_O_finish_129 (fun _ _ => ?_)
        refine g_wsq [co a 4 [.ref (q 0), .ref (q 1), .ref (q 2), .int (nI tp), .int cd, .ref (q 3), .ref (q 4), .ref (q 5), .ref (q 6), .ref (q 7), .ref (q 8), .ref (q 9), .ref (q 10), .ref (q 11), .ref (q 12), .ref (q 13), .ref (q 14), .ref (q 15), .int (nI kd), .int (nI rt), .int (nI ((ptB rt K s ((lush (8 * (lN tt)) (nI (8 * (rt / 8 - 1 - j)))).toInt32)).2.1)), .long (lN ((tt + 1 + zcn rt (rFi1 rt K (g, fl, S, w)).2.1 + j) + 1)), .ref (q 16), .ref (q 17)], cj B (q 11) 25 ((ptB rt K s ((lush (8 * (lN tt)) (nI (8 * (rt / 8 - 1 - j)))).toInt32)).2.2.1), cb B (q 15) 128 ((ptB rt K s ((lush (8 * (lN tt)) (nI (8 * (rt / 8 - 1 - j)))).toInt32)).1), cj B (q 14) 80 ((ptB rt K s ((lush (8 * (lN tt)) (nI (8 * (rt / 8 - 1 - j)))).toInt32)).2.2.2), cj B (q 4) 80 K] rfl ?_
        refine g_iinc (pc := 132) X (k9 := (-1)) d_O_finish_132 rfl (by decide) (by decide) ?_
        refine g_lv [(0, .ref a), (1, .long (8 * (lN tt))), (3, .int ((nI (rt / 8 - 1 - j)) + (-1)))] rfl ?_
        refine g_goto (pc := 135) X (tgt := 107) d_O_finish_135 (by decide) ?_
        refine g_lv [(0, .ref a), (1, .long (8 * (lN tt))), (3, .int ((nI (rt / 8 - 1 - j)) + (-1)))] rfl ?_
        refine g_lve [(0, .ref a), (1, .long (8 * (lN tt))), (3, .int (nI (rt / 8 - (j + 1)) - nI 1))] (by rw [show rt / 8 - (j + 1) = rt / 8 - 1 - j by omega, Int32.sub_eq_add_neg]; rfl) ?_
        exact kk107 _ (by unfold lpF lbR; first | rw [if_pos (by omega)] | rw [if_neg (by omega)])
    · intro hI107
      rw [show it (lpF rt K ((8 : Int64) * lN tt)) (rt / 8) (rFi2 rt K (g, fl, S, w)) = (rFin rt K (lN tt) (g, fl, S, w)) from rfl] at hI107 ⊢
      show G B M 4 0 0 Q [co a 4 [.ref (q 0), .ref (q 1), .ref (q 2), .int (nI tp), .int cd, .ref (q 3), .ref (q 4), .ref (q 5), .ref (q 6), .ref (q 7), .ref (q 8), .ref (q 9), .ref (q 10), .ref (q 11), .ref (q 12), .ref (q 13), .ref (q 14), .ref (q 15), .int (nI kd), .int (nI rt), .int (nI (((rFin rt K (lN tt) (g, fl, S, w))).2.1)), .long (lN (tt + 1 + zcn rt (rFi1 rt K (g, fl, S, w)).2.1 + (rt / 8))), .ref (q 16), .ref (q 17)], cj B (q 11) 25 (((rFin rt K (lN tt) (g, fl, S, w))).2.2.1), cb B (q 15) 128 (((rFin rt K (lN tt) (g, fl, S, w))).1), cj B (q 14) 80 (((rFin rt K (lN tt) (g, fl, S, w))).2.2.2), cj B (q 4) 80 K] [(0, .ref a), (1, .long (8 * (lN tt))), (3, .int (nI (rt / 8 - (rt / 8)) - nI 1))] 107 []
      refine g_iload_n (pc := 107) X (i := 3) d_O_finish_107 rfl rfl ?_
      refine g_if_lt (pc := 108) X (tgt := 138) d_O_finish_108 (by decide) (fun hz => ?_) (fun hz => absurd (pk_sneg (by omega) (by omega)) hz)
      exact kret () _ 138 trivial d_O_finish_138

theorem c_O_finish_s (l : Launch) (B : Bx) (a : Nat) (q : Nat → Nat) (tp : Nat) (kd : Nat) (rt : Nat) (fl : Nat) (tt : Nat) (cd : Int32) (S : Nat → Int64) (o : Nat → Int64) (c : Nat → Int64) (T : Nat → Int32) (rn : Nat → Int64) (hk : 6 < kd) (hk2 : kd ≤ 12) (hr : 0 < rt) (hr2 : rt ≤ 200) (hf : fl < rt) : Cv (S := Unit) l B y_O_finish b_O_finish 4 (Rm 4 0 0) [.ref a] [co a 4 [.ref (q 0), .ref (q 1), .ref (q 2), .int (nI tp), .int cd, .ref (q 3), .ref (q 4), .ref (q 5), .ref (q 6), .ref (q 7), .ref (q 8), .ref (q 9), .ref (q 10), .ref (q 11), .ref (q 12), .ref (q 13), .ref (q 14), .ref (q 15), .int (nI kd), .int (nI rt), .int (nI fl), .long (lN tt), .ref (q 16), .ref (q 17)], cj B (q 11) 25 S, cj B (q 12) 25 o, cj B (q 13) 5 c, cn B (q 9) 25 T, cj B (q 10) 24 rn] (fun _ => True) (fun _ => [co a 4 [.ref (q 0), .ref (q 1), .ref (q 2), .int (nI tp), .int cd, .ref (q 3), .ref (q 4), .ref (q 5), .ref (q 6), .ref (q 7), .ref (q 8), .ref (q 9), .ref (q 10), .ref (q 11), .ref (q 12), .ref (q 13), .ref (q 14), .ref (q 15), .int (nI kd), .int (nI rt), .int (nI 0), .long (lN tt), .ref (q 16), .ref (q 17)], cj B (q 11) 25 ((sFin T rn rt kd (S, o, c, fl)).1), cj B (q 12) 25 ((sFin T rn rt kd (S, o, c, fl)).2.1), cj B (q 13) 5 ((sFin T rn rt kd (S, o, c, fl)).2.2), cn B (q 9) 25 T, cj B (q 10) 24 rn]) := by
  refine ctr_v (by decide) (Nat.le_of_ble_eq_true rfl) ?_
  intro M Q hl hR hin X kret
  subst hl
  refine g_lv [(0, .ref a)] rfl ?_
  refine g_aload_n (pc := 0) X (i := 0) d_O_finish_0 rfl rfl ?_
  refine g_callVi (pc := 1) (q0 := 0) X (c_O_sponge_s (m_l M) B a q tp kd rt fl tt cd (by omega) (by omega)) wd_783 wd_785 wp_O_sponge wd_5 wd_786 hd_O_sponge [0] rfl rfl [a] (fun _ => rfl) rfl rfl rfl (by rw [hR]; decide) (by rw [hR]; decide) rfl (Nat.le_of_ble_eq_true rfl) d_O_finish_1 (fun r9 _ hr9 => ?_)
  subst hr9
  refine g_wsq [co a 4 [.ref (q 0), .ref (q 1), .ref (q 2), .int (nI tp), .int cd, .ref (q 3), .ref (q 4), .ref (q 5), .ref (q 6), .ref (q 7), .ref (q 8), .ref (q 9), .ref (q 10), .ref (q 11), .ref (q 12), .ref (q 13), .ref (q 14), .ref (q 15), .int (nI kd), .int (nI rt), .int (nI fl), .long (lN tt), .ref (q 16), .ref (q 17)], cj B (q 11) 25 S, cj B (q 12) 25 o, cj B (q 13) 5 c, cn B (q 9) 25 T, cj B (q 10) 24 rn] rfl ?_
  refine g_if_eqN (pc := 4) X (tgt := 54) d_O_finish_4 (by decide) (by omega) (fun h_4 => absurd h_4 (by omega)) (fun h_4 => ?_)
  refine g_aload_n (pc := 7) X (i := 0) d_O_finish_7 rfl rfl ?_
  refine g_aload_n (pc := 8) X (i := 0) d_O_finish_8 rfl rfl ?_
  refine g_get (pc := 9) X in_O 0 rfl rfl 20 (by decide) wd_839 rfl d_O_finish_9 ?_
  refine g_aload_n (pc := 12) X (i := 0) d_O_finish_12 rfl rfl ?_
  refine g_get (pc := 13) X in_O 0 rfl rfl 18 (by decide) wd_837 rfl d_O_finish_13 ?_
  refine g_bipush (pc := 16) X (v := nI 10) d_O_finish_16 (by decide) ?_
  refine g_icmp_leN (pc := 18) X (tgt := 26) d_O_finish_18 (by decide) (by omega) (by omega) (fun h_18 => ?_) (fun h_18 => ?_)
  · refine g_bipush (pc := 26) X (v := nI 6) d_O_finish_26 (by decide) ?_
    refine g_callVv (pc := 28) (q0 := 0) X (c_O_flip (m_l M) B a q tp kd rt fl tt cd fl (nI 6) S (by omega)) wd_787 wd_789 wp_O_flip wd_5 wd_790 hd_O_flip [0, 1] rfl rfl [a, q 11] (fun _ => rfl) rfl rfl rfl (by rw [hR]; decide) (by rw [hR]; decide) rfl (Nat.le_of_ble_eq_true rfl) d_O_finish_28 (fun _ _ => ?_)
    refine g_wsq [co a 4 [.ref (q 0), .ref (q 1), .ref (q 2), .int (nI tp), .int cd, .ref (q 3), .ref (q 4), .ref (q 5), .ref (q 6), .ref (q 7), .ref (q 8), .ref (q 9), .ref (q 10), .ref (q 11), .ref (q 12), .ref (q 13), .ref (q 14), .ref (q 15), .int (nI kd), .int (nI rt), .int (nI fl), .long (lN tt), .ref (q 16), .ref (q 17)], cj B (q 11) 25 (flipR S fl (nI 6)), cj B (q 12) 25 o, cj B (q 13) 5 c, cn B (q 9) 25 T, cj B (q 10) 24 rn] rfl ?_
    refine g_aload_n (pc := 31) X (i := 0) d_O_finish_31 rfl rfl ?_
    refine g_aload_n (pc := 32) X (i := 0) d_O_finish_32 rfl rfl ?_
    refine g_get (pc := 33) X in_O 0 rfl rfl 19 (by decide) wd_838 rfl d_O_finish_33 ?_
    refine g_iconst (pc := 36) X (v := nI 1) d_O_finish_36 (by decide) ?_
    refine g_isubN (pc := 37) X (rt - 1) (by omega) d_O_finish_37 ?_
    refine g_sipush (pc := 38) X (v := nI 128) d_O_finish_38 (by decide) ?_
    refine g_callVv (pc := 41) (q0 := 0) X (c_O_flip (m_l M) B a q tp kd rt fl tt cd (rt - 1) (nI 128) (flipR S fl (nI 6)) (by omega)) wd_787 wd_789 wp_O_flip wd_5 wd_790 hd_O_flip [0, 1] rfl rfl [a, q 11] (fun _ => rfl) rfl rfl rfl (by rw [hR]; decide) (by rw [hR]; decide) rfl (Nat.le_of_ble_eq_true rfl) d_O_finish_41 (fun _ _ => ?_)
    refine g_wsq [co a 4 [.ref (q 0), .ref (q 1), .ref (q 2), .int (nI tp), .int cd, .ref (q 3), .ref (q 4), .ref (q 5), .ref (q 6), .ref (q 7), .ref (q 8), .ref (q 9), .ref (q 10), .ref (q 11), .ref (q 12), .ref (q 13), .ref (q 14), .ref (q 15), .int (nI kd), .int (nI rt), .int (nI fl), .long (lN tt), .ref (q 16), .ref (q 17)], cj B (q 11) 25 (flipR (flipR S fl (nI 6)) (rt - 1) (nI 128)), cj B (q 12) 25 o, cj B (q 13) 5 c, cn B (q 9) 25 T, cj B (q 10) 24 rn] rfl ?_
    refine g_aload_n (pc := 44) X (i := 0) d_O_finish_44 rfl rfl ?_
    refine g_callVv (pc := 45) (q0 := 0) X (c_O_permute (m_l M) B a q tp kd rt fl tt cd (flipR (flipR S fl (nI 6)) (rt - 1) (nI 128)) o c T rn ) wd_792 wd_794 wp_O_permute wd_5 wd_795 hd_O_permute [0, 1, 2, 3, 4, 5] rfl rfl [a, q 11, q 12, q 13, q 9, q 10] (fun _ => rfl) rfl rfl rfl (by rw [hR]; decide) (by rw [hR]; decide) rfl (Nat.le_of_ble_eq_true rfl) d_O_finish_45 (fun _ _ => ?_)
    refine g_wsq [co a 4 [.ref (q 0), .ref (q 1), .ref (q 2), .int (nI tp), .int cd, .ref (q 3), .ref (q 4), .ref (q 5), .ref (q 6), .ref (q 7), .ref (q 8), .ref (q 9), .ref (q 10), .ref (q 11), .ref (q 12), .ref (q 13), .ref (q 14), .ref (q 15), .int (nI kd), .int (nI rt), .int (nI fl), .long (lN tt), .ref (q 16), .ref (q 17)], cj B (q 11) 25 ((rprm T rn ((flipR (flipR S fl (nI 6)) (rt - 1) (nI 128)), o, c)).1), cj B (q 12) 25 ((rprm T rn ((flipR (flipR S fl (nI 6)) (rt - 1) (nI 128)), o, c)).2.1), cj B (q 13) 5 ((rprm T rn ((flipR (flipR S fl (nI 6)) (rt - 1) (nI 128)), o, c)).2.2), cn B (q 9) 25 T, cj B (q 10) 24 rn] rfl ?_
    refine g_aload_n (pc := 48) X (i := 0) d_O_finish_48 rfl rfl ?_
    refine g_iconst (pc := 49) X (v := nI 0) d_O_finish_49 (by decide) ?_
    refine g_put (pc := 50) X in_O ty_O ok_O nm_O 0 rfl rfl 20 (by decide) wd_839 rfl rfl rfl (Nat.le_of_ble_eq_true rfl) d_O_finish_50 ?_
    refine g_wsq [co a 4 [.ref (q 0), .ref (q 1), .ref (q 2), .int (nI tp), .int cd, .ref (q 3), .ref (q 4), .ref (q 5), .ref (q 6), .ref (q 7), .ref (q 8), .ref (q 9), .ref (q 10), .ref (q 11), .ref (q 12), .ref (q 13), .ref (q 14), .ref (q 15), .int (nI kd), .int (nI rt), .int (nI 0), .long (lN tt), .ref (q 16), .ref (q 17)], cj B (q 11) 25 ((rprm T rn ((flipR (flipR S fl (nI 6)) (rt - 1) (nI 128)), o, c)).1), cj B (q 12) 25 ((rprm T rn ((flipR (flipR S fl (nI 6)) (rt - 1) (nI 128)), o, c)).2.1), cj B (q 13) 5 ((rprm T rn ((flipR (flipR S fl (nI 6)) (rt - 1) (nI 128)), o, c)).2.2), cn B (q 9) 25 T, cj B (q 10) 24 rn] rfl ?_
    refine g_wsq [co a 4 [.ref (q 0), .ref (q 1), .ref (q 2), .int (nI tp), .int cd, .ref (q 3), .ref (q 4), .ref (q 5), .ref (q 6), .ref (q 7), .ref (q 8), .ref (q 9), .ref (q 10), .ref (q 11), .ref (q 12), .ref (q 13), .ref (q 14), .ref (q 15), .int (nI kd), .int (nI rt), .int (nI 0), .long (lN tt), .ref (q 16), .ref (q 17)], cj B (q 11) 25 ((sFin T rn rt kd (S, o, c, fl)).1), cj B (q 12) 25 ((sFin T rn rt kd (S, o, c, fl)).2.1), cj B (q 13) 5 ((sFin T rn rt kd (S, o, c, fl)).2.2), cn B (q 9) 25 T, cj B (q 10) 24 rn] (by unfold sFin; first | rw [if_pos (by omega)] | rw [if_neg (by omega)]) ?_
    exact kret () _ 53 trivial d_O_finish_53
  · refine g_bipush (pc := 21) X (v := nI 31) d_O_finish_21 (by decide) ?_
    refine g_goto (pc := 23) X (tgt := 28) d_O_finish_23 (by decide) ?_
    refine g_callVv (pc := 28) (q0 := 0) X (c_O_flip (m_l M) B a q tp kd rt fl tt cd fl (nI 31) S (by omega)) wd_787 wd_789 wp_O_flip wd_5 wd_790 hd_O_flip [0, 1] rfl rfl [a, q 11] (fun _ => rfl) rfl rfl rfl (by rw [hR]; decide) (by rw [hR]; decide) rfl (Nat.le_of_ble_eq_true rfl) d_O_finish_28 (fun _ _ => ?_)
    refine g_wsq [co a 4 [.ref (q 0), .ref (q 1), .ref (q 2), .int (nI tp), .int cd, .ref (q 3), .ref (q 4), .ref (q 5), .ref (q 6), .ref (q 7), .ref (q 8), .ref (q 9), .ref (q 10), .ref (q 11), .ref (q 12), .ref (q 13), .ref (q 14), .ref (q 15), .int (nI kd), .int (nI rt), .int (nI fl), .long (lN tt), .ref (q 16), .ref (q 17)], cj B (q 11) 25 (flipR S fl (nI 31)), cj B (q 12) 25 o, cj B (q 13) 5 c, cn B (q 9) 25 T, cj B (q 10) 24 rn] rfl ?_
    refine g_aload_n (pc := 31) X (i := 0) d_O_finish_31 rfl rfl ?_
    refine g_aload_n (pc := 32) X (i := 0) d_O_finish_32 rfl rfl ?_
    refine g_get (pc := 33) X in_O 0 rfl rfl 19 (by decide) wd_838 rfl d_O_finish_33 ?_
    refine g_iconst (pc := 36) X (v := nI 1) d_O_finish_36 (by decide) ?_
    refine g_isubN (pc := 37) X (rt - 1) (by omega) d_O_finish_37 ?_
    refine g_sipush (pc := 38) X (v := nI 128) d_O_finish_38 (by decide) ?_
    refine g_callVv (pc := 41) (q0 := 0) X (c_O_flip (m_l M) B a q tp kd rt fl tt cd (rt - 1) (nI 128) (flipR S fl (nI 31)) (by omega)) wd_787 wd_789 wp_O_flip wd_5 wd_790 hd_O_flip [0, 1] rfl rfl [a, q 11] (fun _ => rfl) rfl rfl rfl (by rw [hR]; decide) (by rw [hR]; decide) rfl (Nat.le_of_ble_eq_true rfl) d_O_finish_41 (fun _ _ => ?_)
    refine g_wsq [co a 4 [.ref (q 0), .ref (q 1), .ref (q 2), .int (nI tp), .int cd, .ref (q 3), .ref (q 4), .ref (q 5), .ref (q 6), .ref (q 7), .ref (q 8), .ref (q 9), .ref (q 10), .ref (q 11), .ref (q 12), .ref (q 13), .ref (q 14), .ref (q 15), .int (nI kd), .int (nI rt), .int (nI fl), .long (lN tt), .ref (q 16), .ref (q 17)], cj B (q 11) 25 (flipR (flipR S fl (nI 31)) (rt - 1) (nI 128)), cj B (q 12) 25 o, cj B (q 13) 5 c, cn B (q 9) 25 T, cj B (q 10) 24 rn] rfl ?_
    refine g_aload_n (pc := 44) X (i := 0) d_O_finish_44 rfl rfl ?_
    refine g_callVv (pc := 45) (q0 := 0) X (c_O_permute (m_l M) B a q tp kd rt fl tt cd (flipR (flipR S fl (nI 31)) (rt - 1) (nI 128)) o c T rn ) wd_792 wd_794 wp_O_permute wd_5 wd_795 hd_O_permute [0, 1, 2, 3, 4, 5] rfl rfl [a, q 11, q 12, q 13, q 9, q 10] (fun _ => rfl) rfl rfl rfl (by rw [hR]; decide) (by rw [hR]; decide) rfl (Nat.le_of_ble_eq_true rfl) d_O_finish_45 (fun _ _ => ?_)
    refine g_wsq [co a 4 [.ref (q 0), .ref (q 1), .ref (q 2), .int (nI tp), .int cd, .ref (q 3), .ref (q 4), .ref (q 5), .ref (q 6), .ref (q 7), .ref (q 8), .ref (q 9), .ref (q 10), .ref (q 11), .ref (q 12), .ref (q 13), .ref (q 14), .ref (q 15), .int (nI kd), .int (nI rt), .int (nI fl), .long (lN tt), .ref (q 16), .ref (q 17)], cj B (q 11) 25 ((rprm T rn ((flipR (flipR S fl (nI 31)) (rt - 1) (nI 128)), o, c)).1), cj B (q 12) 25 ((rprm T rn ((flipR (flipR S fl (nI 31)) (rt - 1) (nI 128)), o, c)).2.1), cj B (q 13) 5 ((rprm T rn ((flipR (flipR S fl (nI 31)) (rt - 1) (nI 128)), o, c)).2.2), cn B (q 9) 25 T, cj B (q 10) 24 rn] rfl ?_
    refine g_aload_n (pc := 48) X (i := 0) d_O_finish_48 rfl rfl ?_
    refine g_iconst (pc := 49) X (v := nI 0) d_O_finish_49 (by decide) ?_
    refine g_put (pc := 50) X in_O ty_O ok_O nm_O 0 rfl rfl 20 (by decide) wd_839 rfl rfl rfl (Nat.le_of_ble_eq_true rfl) d_O_finish_50 ?_
    refine g_wsq [co a 4 [.ref (q 0), .ref (q 1), .ref (q 2), .int (nI tp), .int cd, .ref (q 3), .ref (q 4), .ref (q 5), .ref (q 6), .ref (q 7), .ref (q 8), .ref (q 9), .ref (q 10), .ref (q 11), .ref (q 12), .ref (q 13), .ref (q 14), .ref (q 15), .int (nI kd), .int (nI rt), .int (nI 0), .long (lN tt), .ref (q 16), .ref (q 17)], cj B (q 11) 25 ((rprm T rn ((flipR (flipR S fl (nI 31)) (rt - 1) (nI 128)), o, c)).1), cj B (q 12) 25 ((rprm T rn ((flipR (flipR S fl (nI 31)) (rt - 1) (nI 128)), o, c)).2.1), cj B (q 13) 5 ((rprm T rn ((flipR (flipR S fl (nI 31)) (rt - 1) (nI 128)), o, c)).2.2), cn B (q 9) 25 T, cj B (q 10) 24 rn] rfl ?_
    refine g_wsq [co a 4 [.ref (q 0), .ref (q 1), .ref (q 2), .int (nI tp), .int cd, .ref (q 3), .ref (q 4), .ref (q 5), .ref (q 6), .ref (q 7), .ref (q 8), .ref (q 9), .ref (q 10), .ref (q 11), .ref (q 12), .ref (q 13), .ref (q 14), .ref (q 15), .int (nI kd), .int (nI rt), .int (nI 0), .long (lN tt), .ref (q 16), .ref (q 17)], cj B (q 11) 25 ((sFin T rn rt kd (S, o, c, fl)).1), cj B (q 12) 25 ((sFin T rn rt kd (S, o, c, fl)).2.1), cj B (q 13) 5 ((sFin T rn rt kd (S, o, c, fl)).2.2), cn B (q 9) 25 T, cj B (q 10) 24 rn] (by unfold sFin; first | rw [if_pos (by omega)] | rw [if_neg (by omega)]) ?_
    exact kret () _ 53 trivial d_O_finish_53

theorem c_O_squeeze (l : Launch) (B : Bx) (a : Nat) (q : Nat → Nat) (tp : Nat) (kd : Nat) (rt : Nat) (fl : Nat) (tt : Nat) (cd : Int32) (S : Nat → Int64) (o : Nat → Int64) (c : Nat → Int64) (T : Nat → Int32) (rn : Nat → Int64) (hk : 6 < kd) (hk2 : kd ≤ 12) (hr : 0 < rt) (hr2 : rt ≤ 200) (hf : fl ≤ rt) : Ci (S := Unit) l B y_O_squeeze b_O_squeeze 2 .int (Rm 4 0 0) [.ref a] [co a 4 [.ref (q 0), .ref (q 1), .ref (q 2), .int (nI tp), .int cd, .ref (q 3), .ref (q 4), .ref (q 5), .ref (q 6), .ref (q 7), .ref (q 8), .ref (q 9), .ref (q 10), .ref (q 11), .ref (q 12), .ref (q 13), .ref (q 14), .ref (q 15), .int (nI kd), .int (nI rt), .int (nI fl), .long (lN tt), .ref (q 16), .ref (q 17)], cj B (q 11) 25 S, cj B (q 12) 25 o, cj B (q 13) 5 c, cn B (q 9) 25 T, cj B (q 10) 24 rn] (fun r _ => r = sqV (sqR T rn rt (S, o, c, fl))) (fun _ => [co a 4 [.ref (q 0), .ref (q 1), .ref (q 2), .int (nI tp), .int cd, .ref (q 3), .ref (q 4), .ref (q 5), .ref (q 6), .ref (q 7), .ref (q 8), .ref (q 9), .ref (q 10), .ref (q 11), .ref (q 12), .ref (q 13), .ref (q 14), .ref (q 15), .int (nI kd), .int (nI rt), .int (nI ((sqR T rn rt (S, o, c, fl)).2.2.2 + 1)), .long (lN tt), .ref (q 16), .ref (q 17)], cj B (q 11) 25 ((sqR T rn rt (S, o, c, fl)).1), cj B (q 12) 25 ((sqR T rn rt (S, o, c, fl)).2.1), cj B (q 13) 5 ((sqR T rn rt (S, o, c, fl)).2.2.1), cn B (q 9) 25 T, cj B (q 10) 24 rn]) := by
  refine ctr_i (by decide) (Nat.le_of_ble_eq_true rfl) ?_
  intro M Q hl hR hin X kret
  subst hl
  refine g_lv [(0, .ref a)] rfl ?_
  refine g_aload_n (pc := 0) X (i := 0) d_O_squeeze_0 rfl rfl ?_
  refine g_get (pc := 1) X in_O 0 rfl rfl 20 (by decide) wd_839 rfl d_O_squeeze_1 ?_
  refine g_aload_n (pc := 4) X (i := 0) d_O_squeeze_4 rfl rfl ?_
  refine g_get (pc := 5) X in_O 0 rfl rfl 19 (by decide) wd_838 rfl d_O_squeeze_5 ?_
  refine g_icmp_neN (pc := 8) X (tgt := 20) d_O_squeeze_8 (by decide) (by omega) (by omega) (fun h_8 => ?_) (fun h_8 => ?_)
  · refine g_aload_n (pc := 20) X (i := 0) d_O_squeeze_20 rfl rfl ?_
    refine g_get (pc := 21) X in_O 0 rfl rfl 13 (by decide) wd_832 rfl d_O_squeeze_21 ?_
    refine g_aload_n (pc := 24) X (i := 0) d_O_squeeze_24 rfl rfl ?_
    refine g_get (pc := 25) X in_O 0 rfl rfl 20 (by decide) wd_839 rfl d_O_squeeze_25 ?_
    refine g_bipush (pc := 28) X (v := nI 8) d_O_squeeze_28 (by decide) ?_
    refine g_idivN (pc := 30) X (fl / 8) (by omega) (by omega) (by omega) rfl d_O_squeeze_30 ?_
    refine g_lald (pc := 31) X 1 rfl (fl / 8) rfl (by omega) (by omega) d_O_squeeze_31 ?_
    refine g_bipush (pc := 32) X (v := nI 8) d_O_squeeze_32 (by decide) ?_
    refine g_aload_n (pc := 34) X (i := 0) d_O_squeeze_34 rfl rfl ?_
    refine g_get (pc := 35) X in_O 0 rfl rfl 20 (by decide) wd_839 rfl d_O_squeeze_35 ?_
    refine g_bipush (pc := 38) X (v := nI 8) d_O_squeeze_38 (by decide) ?_
    refine g_iremN (pc := 40) X (fl % 8) (by omega) (by omega) (by omega) rfl d_O_squeeze_40 ?_
    refine g_imulN (pc := 41) X (8 * (fl % 8)) rfl d_O_squeeze_41 ?_
    refine g_lushr (pc := 42) X (v := lush (S (fl / 8)) (nI (8 * (fl % 8)))) d_O_squeeze_42 rfl ?_
    refine g_l2i (pc := 43) X d_O_squeeze_43 rfl ?_
    refine g_sipush (pc := 44) X (v := nI 255) d_O_squeeze_44 (by decide) ?_
    refine g_iand (pc := 47) X d_O_squeeze_47 ?_
    refine g_istore_n (pc := 48) X (i := 1) d_O_squeeze_48 rfl (by decide) ?_
    refine g_lv [(0, .ref a), (1, .int (((lush (S (fl / 8)) (nI (8 * (fl % 8)))).toInt32) &&& (nI 255)))] rfl ?_
    refine g_aload_n (pc := 49) X (i := 0) d_O_squeeze_49 rfl rfl ?_
    refine g_dup (pc := 50) X d_O_squeeze_50 rfl ?_
    refine g_get (pc := 51) X in_O 0 rfl rfl 20 (by decide) wd_839 rfl d_O_squeeze_51 ?_
    refine g_iconst (pc := 54) X (v := nI 1) d_O_squeeze_54 (by decide) ?_
    refine g_iaddN (pc := 55) X (fl + 1) (by omega) d_O_squeeze_55 ?_
    refine g_put (pc := 56) X in_O ty_O ok_O nm_O 0 rfl rfl 20 (by decide) wd_839 rfl rfl rfl (Nat.le_of_ble_eq_true rfl) d_O_squeeze_56 ?_
    refine g_wsq [co a 4 [.ref (q 0), .ref (q 1), .ref (q 2), .int (nI tp), .int cd, .ref (q 3), .ref (q 4), .ref (q 5), .ref (q 6), .ref (q 7), .ref (q 8), .ref (q 9), .ref (q 10), .ref (q 11), .ref (q 12), .ref (q 13), .ref (q 14), .ref (q 15), .int (nI kd), .int (nI rt), .int (nI (fl + 1)), .long (lN tt), .ref (q 16), .ref (q 17)], cj B (q 11) 25 S, cj B (q 12) 25 o, cj B (q 13) 5 c, cn B (q 9) 25 T, cj B (q 10) 24 rn] rfl ?_
    refine g_iload_n (pc := 59) X (i := 1) d_O_squeeze_59 rfl rfl ?_
    refine g_wsq [co a 4 [.ref (q 0), .ref (q 1), .ref (q 2), .int (nI tp), .int cd, .ref (q 3), .ref (q 4), .ref (q 5), .ref (q 6), .ref (q 7), .ref (q 8), .ref (q 9), .ref (q 10), .ref (q 11), .ref (q 12), .ref (q 13), .ref (q 14), .ref (q 15), .int (nI kd), .int (nI rt), .int (nI ((sqR T rn rt (S, o, c, fl)).2.2.2 + 1)), .long (lN tt), .ref (q 16), .ref (q 17)], cj B (q 11) 25 ((sqR T rn rt (S, o, c, fl)).1), cj B (q 12) 25 ((sqR T rn rt (S, o, c, fl)).2.1), cj B (q 13) 5 ((sqR T rn rt (S, o, c, fl)).2.2.1), cn B (q 9) 25 T, cj B (q 10) 24 rn] (by first | rw [sqR_f (by omega)] | rw [sqR_n (by omega)]) ?_
    exact kret _ () _ 60 (by first | (rw [sqR_f (by omega), sqV_0]) | (rw [sqR_n (by omega), sqV_n])) d_O_squeeze_60
  · refine g_aload_n (pc := 11) X (i := 0) d_O_squeeze_11 rfl rfl ?_
    refine g_callVv (pc := 12) (q0 := 0) X (c_O_permute (m_l M) B a q tp kd rt fl tt cd S o c T rn ) wd_792 wd_794 wp_O_permute wd_5 wd_795 hd_O_permute [0, 1, 2, 3, 4, 5] rfl rfl [a, q 11, q 12, q 13, q 9, q 10] (fun _ => rfl) rfl rfl rfl (by rw [hR]; decide) (by rw [hR]; decide) rfl (Nat.le_of_ble_eq_true rfl) d_O_squeeze_12 (fun _ _ => ?_)
    refine g_wsq [co a 4 [.ref (q 0), .ref (q 1), .ref (q 2), .int (nI tp), .int cd, .ref (q 3), .ref (q 4), .ref (q 5), .ref (q 6), .ref (q 7), .ref (q 8), .ref (q 9), .ref (q 10), .ref (q 11), .ref (q 12), .ref (q 13), .ref (q 14), .ref (q 15), .int (nI kd), .int (nI rt), .int (nI fl), .long (lN tt), .ref (q 16), .ref (q 17)], cj B (q 11) 25 ((rprm T rn (S, o, c)).1), cj B (q 12) 25 ((rprm T rn (S, o, c)).2.1), cj B (q 13) 5 ((rprm T rn (S, o, c)).2.2), cn B (q 9) 25 T, cj B (q 10) 24 rn] rfl ?_
    refine g_aload_n (pc := 15) X (i := 0) d_O_squeeze_15 rfl rfl ?_
    refine g_iconst (pc := 16) X (v := nI 0) d_O_squeeze_16 (by decide) ?_
    refine g_put (pc := 17) X in_O ty_O ok_O nm_O 0 rfl rfl 20 (by decide) wd_839 rfl rfl rfl (Nat.le_of_ble_eq_true rfl) d_O_squeeze_17 ?_
    refine g_wsq [co a 4 [.ref (q 0), .ref (q 1), .ref (q 2), .int (nI tp), .int cd, .ref (q 3), .ref (q 4), .ref (q 5), .ref (q 6), .ref (q 7), .ref (q 8), .ref (q 9), .ref (q 10), .ref (q 11), .ref (q 12), .ref (q 13), .ref (q 14), .ref (q 15), .int (nI kd), .int (nI rt), .int (nI 0), .long (lN tt), .ref (q 16), .ref (q 17)], cj B (q 11) 25 ((rprm T rn (S, o, c)).1), cj B (q 12) 25 ((rprm T rn (S, o, c)).2.1), cj B (q 13) 5 ((rprm T rn (S, o, c)).2.2), cn B (q 9) 25 T, cj B (q 10) 24 rn] rfl ?_
    refine g_aload_n (pc := 20) X (i := 0) d_O_squeeze_20 rfl rfl ?_
    refine g_get (pc := 21) X in_O 0 rfl rfl 13 (by decide) wd_832 rfl d_O_squeeze_21 ?_
    refine g_aload_n (pc := 24) X (i := 0) d_O_squeeze_24 rfl rfl ?_
    refine g_get (pc := 25) X in_O 0 rfl rfl 20 (by decide) wd_839 rfl d_O_squeeze_25 ?_
    refine g_bipush (pc := 28) X (v := nI 8) d_O_squeeze_28 (by decide) ?_
    refine g_idivN (pc := 30) X 0 (by omega) (by omega) (by omega) rfl d_O_squeeze_30 ?_
    refine g_lald (pc := 31) X 1 rfl 0 rfl (by omega) (by omega) d_O_squeeze_31 ?_
    refine g_bipush (pc := 32) X (v := nI 8) d_O_squeeze_32 (by decide) ?_
    refine g_aload_n (pc := 34) X (i := 0) d_O_squeeze_34 rfl rfl ?_
    refine g_get (pc := 35) X in_O 0 rfl rfl 20 (by decide) wd_839 rfl d_O_squeeze_35 ?_
    refine g_bipush (pc := 38) X (v := nI 8) d_O_squeeze_38 (by decide) ?_
    refine g_iremN (pc := 40) X 0 (by omega) (by omega) (by omega) rfl d_O_squeeze_40 ?_
    refine g_imulN (pc := 41) X 0 rfl d_O_squeeze_41 ?_
    refine g_lushr (pc := 42) X (v := lush (((rprm T rn (S, o, c)).1) 0) (nI 0)) d_O_squeeze_42 rfl ?_
    refine g_l2i (pc := 43) X d_O_squeeze_43 rfl ?_
    refine g_sipush (pc := 44) X (v := nI 255) d_O_squeeze_44 (by decide) ?_
    refine g_iand (pc := 47) X d_O_squeeze_47 ?_
    refine g_istore_n (pc := 48) X (i := 1) d_O_squeeze_48 rfl (by decide) ?_
    refine g_lv [(0, .ref a), (1, .int (((lush (((rprm T rn (S, o, c)).1) 0) (nI 0)).toInt32) &&& (nI 255)))] rfl ?_
    refine g_aload_n (pc := 49) X (i := 0) d_O_squeeze_49 rfl rfl ?_
    refine g_dup (pc := 50) X d_O_squeeze_50 rfl ?_
    refine g_get (pc := 51) X in_O 0 rfl rfl 20 (by decide) wd_839 rfl d_O_squeeze_51 ?_
    refine g_iconst (pc := 54) X (v := nI 1) d_O_squeeze_54 (by decide) ?_
    refine g_iaddN (pc := 55) X 1 (by omega) d_O_squeeze_55 ?_
    refine g_put (pc := 56) X in_O ty_O ok_O nm_O 0 rfl rfl 20 (by decide) wd_839 rfl rfl rfl (Nat.le_of_ble_eq_true rfl) d_O_squeeze_56 ?_
    refine g_wsq [co a 4 [.ref (q 0), .ref (q 1), .ref (q 2), .int (nI tp), .int cd, .ref (q 3), .ref (q 4), .ref (q 5), .ref (q 6), .ref (q 7), .ref (q 8), .ref (q 9), .ref (q 10), .ref (q 11), .ref (q 12), .ref (q 13), .ref (q 14), .ref (q 15), .int (nI kd), .int (nI rt), .int (nI 1), .long (lN tt), .ref (q 16), .ref (q 17)], cj B (q 11) 25 ((rprm T rn (S, o, c)).1), cj B (q 12) 25 ((rprm T rn (S, o, c)).2.1), cj B (q 13) 5 ((rprm T rn (S, o, c)).2.2), cn B (q 9) 25 T, cj B (q 10) 24 rn] rfl ?_
    refine g_iload_n (pc := 59) X (i := 1) d_O_squeeze_59 rfl rfl ?_
    refine g_wsq [co a 4 [.ref (q 0), .ref (q 1), .ref (q 2), .int (nI tp), .int cd, .ref (q 3), .ref (q 4), .ref (q 5), .ref (q 6), .ref (q 7), .ref (q 8), .ref (q 9), .ref (q 10), .ref (q 11), .ref (q 12), .ref (q 13), .ref (q 14), .ref (q 15), .int (nI kd), .int (nI rt), .int (nI ((sqR T rn rt (S, o, c, fl)).2.2.2 + 1)), .long (lN tt), .ref (q 16), .ref (q 17)], cj B (q 11) 25 ((sqR T rn rt (S, o, c, fl)).1), cj B (q 12) 25 ((sqR T rn rt (S, o, c, fl)).2.1), cj B (q 13) 5 ((sqR T rn rt (S, o, c, fl)).2.2.1), cn B (q 9) 25 T, cj B (q 10) 24 rn] (by first | rw [sqR_f (by omega)] | rw [sqR_n (by omega)]) ?_
    exact kret _ () _ 60 (by first | (rw [sqR_f (by omega), sqV_0]) | (rw [sqR_n (by omega), sqV_n])) d_O_squeeze_60

theorem c_O_give_b (l : Launch) (B : Bx) (a : Nat) (q : Nat → Nat) (tp : Nat) (kd : Nat) (rt : Nat) (fl : Nat) (tt : Nat) (cd : Int32) (g : Nat → Int8) (S : Nat → Int64) (w : Nat → Int64) (K : Nat → Int64) (ta : Nat) (tn : Nat) (at_ : Nat) (n : Nat) (o : Nat → Int8) (hk : kd ≤ 6) (hr : rt = 64 ∨ rt = 128) (hf : fl < rt) (ht : at_ + n ≤ tn) (ht2 : tn < 2 ^ 31) (hn : n ≤ 64) : Cv (S := Unit) l B y_O_give b_O_give 5 (Rm 5 0 0) [.ref a, .ref ta, .int (nI at_), .int (nI n)] [co a 4 [.ref (q 0), .ref (q 1), .ref (q 2), .int (nI tp), .int cd, .ref (q 3), .ref (q 4), .ref (q 5), .ref (q 6), .ref (q 7), .ref (q 8), .ref (q 9), .ref (q 10), .ref (q 11), .ref (q 12), .ref (q 13), .ref (q 14), .ref (q 15), .int (nI kd), .int (nI rt), .int (nI fl), .long (lN tt), .ref (q 16), .ref (q 17)], cj B (q 11) 25 S, cb B (q 15) 128 g, cj B (q 14) 80 w, cj B (q 4) 80 K, cb B ta tn o] (fun _ => True) (fun _ => [co a 4 [.ref (q 0), .ref (q 1), .ref (q 2), .int (nI tp), .int cd, .ref (q 3), .ref (q 4), .ref (q 5), .ref (q 6), .ref (q 7), .ref (q 8), .ref (q 9), .ref (q 10), .ref (q 11), .ref (q 12), .ref (q 13), .ref (q 14), .ref (q 15), .int (nI kd), .int (nI rt), .int (nI ((rFin rt K (lN tt) (g, fl, S, w)).2.1)), .long (lN (rFiT rt K tt (g, fl, S, w))), .ref (q 16), .ref (q 17)], cj B (q 11) 25 ((rFin rt K (lN tt) (g, fl, S, w)).2.2.1), cb B (q 15) 128 ((rFin rt K (lN tt) (g, fl, S, w)).1), cj B (q 14) 80 ((rFin rt K (lN tt) (g, fl, S, w)).2.2.2), cj B (q 4) 80 K, cb B ta tn (gvS rt (rFin rt K (lN tt) (g, fl, S, w)).2.2.1 o at_ n)]) := by
  refine ctr_v (by decide) (Nat.le_of_ble_eq_true rfl) ?_
  intro M Q hl hR hin X kret
  subst hl
  refine g_lv [(0, .ref a), (1, .ref ta), (2, .int (nI at_)), (3, .int (nI n))] rfl ?_
  refine g_aload_n (pc := 0) X (i := 0) d_O_give_0 rfl rfl ?_
  refine g_callVv (pc := 1) (q0 := 0) X (c_O_finish_b (m_l M) B a q tp kd rt fl tt cd g S w K (by omega) (by omega) (by omega)) wd_814 wd_816 wp_O_finish wd_5 wd_817 hd_O_finish [0, 1, 2, 3, 4] rfl rfl [a, q 11, q 15, q 14, q 4] (fun _ => rfl) rfl rfl rfl (by rw [hR]; decide) (by rw [hR]; decide) rfl (Nat.le_of_ble_eq_true rfl) d_O_give_1 (fun _ _ => ?_)
  refine g_wsq [co a 4 [.ref (q 0), .ref (q 1), .ref (q 2), .int (nI tp), .int cd, .ref (q 3), .ref (q 4), .ref (q 5), .ref (q 6), .ref (q 7), .ref (q 8), .ref (q 9), .ref (q 10), .ref (q 11), .ref (q 12), .ref (q 13), .ref (q 14), .ref (q 15), .int (nI kd), .int (nI rt), .int (nI ((rFin rt K (lN tt) (g, fl, S, w)).2.1)), .long (lN (rFiT rt K tt (g, fl, S, w))), .ref (q 16), .ref (q 17)], cj B (q 11) 25 ((rFin rt K (lN tt) (g, fl, S, w)).2.2.1), cb B (q 15) 128 ((rFin rt K (lN tt) (g, fl, S, w)).1), cj B (q 14) 80 ((rFin rt K (lN tt) (g, fl, S, w)).2.2.2), cj B (q 4) 80 K, cb B ta tn o] rfl ?_
  refine g_iconst (pc := 4) X (v := nI 0) d_O_give_4 (by decide) ?_
  refine g_istore (pc := 5) X d_O_give_5 (by decide) ?_
  refine g_lv [(0, .ref a), (1, .ref ta), (2, .int (nI at_)), (3, .int (nI n)), (4, .int (nI 0))] rfl ?_
  refine g_lv [(0, .ref a), (1, .ref ta), (2, .int (nI at_)), (3, .int (nI n)), (4, .int (nI 0))] rfl ?_
  refine g_wsq [co a 4 [.ref (q 0), .ref (q 1), .ref (q 2), .int (nI tp), .int cd, .ref (q 3), .ref (q 4), .ref (q 5), .ref (q 6), .ref (q 7), .ref (q 8), .ref (q 9), .ref (q 10), .ref (q 11), .ref (q 12), .ref (q 13), .ref (q 14), .ref (q 15), .int (nI kd), .int (nI rt), .int (nI ((rFin rt K (lN tt) (g, fl, S, w)).2.1)), .long (lN (rFiT rt K tt (g, fl, S, w))), .ref (q 16), .ref (q 17)], cj B (q 11) 25 ((rFin rt K (lN tt) (g, fl, S, w)).2.2.1), cb B (q 15) 128 ((rFin rt K (lN tt) (g, fl, S, w)).1), cj B (q 14) 80 ((rFin rt K (lN tt) (g, fl, S, w)).2.2.2), cj B (q 4) 80 K, cb B ta tn (gvS rt (rFin rt K (lN tt) (g, fl, S, w)).2.2.1 o at_ 0)] (by rw [← gvS_0]) ?_
  refine loopK (fun k => G B M 5 0 0 Q [co a 4 [.ref (q 0), .ref (q 1), .ref (q 2), .int (nI tp), .int cd, .ref (q 3), .ref (q 4), .ref (q 5), .ref (q 6), .ref (q 7), .ref (q 8), .ref (q 9), .ref (q 10), .ref (q 11), .ref (q 12), .ref (q 13), .ref (q 14), .ref (q 15), .int (nI kd), .int (nI rt), .int (nI ((rFin rt K (lN tt) (g, fl, S, w)).2.1)), .long (lN (rFiT rt K tt (g, fl, S, w))), .ref (q 16), .ref (q 17)], cj B (q 11) 25 ((rFin rt K (lN tt) (g, fl, S, w)).2.2.1), cb B (q 15) 128 ((rFin rt K (lN tt) (g, fl, S, w)).1), cj B (q 14) 80 ((rFin rt K (lN tt) (g, fl, S, w)).2.2.2), cj B (q 4) 80 K, cb B ta tn (gvS rt (rFin rt K (lN tt) (g, fl, S, w)).2.2.1 o at_ k)] [(0, .ref a), (1, .ref ta), (2, .int (nI at_)), (3, .int (nI n)), (4, .int (nI k))] 7 []) n ?_ ?_
  · intro k hk7 kk7
    show G B M 5 0 0 Q [co a 4 [.ref (q 0), .ref (q 1), .ref (q 2), .int (nI tp), .int cd, .ref (q 3), .ref (q 4), .ref (q 5), .ref (q 6), .ref (q 7), .ref (q 8), .ref (q 9), .ref (q 10), .ref (q 11), .ref (q 12), .ref (q 13), .ref (q 14), .ref (q 15), .int (nI kd), .int (nI rt), .int (nI ((rFin rt K (lN tt) (g, fl, S, w)).2.1)), .long (lN (rFiT rt K tt (g, fl, S, w))), .ref (q 16), .ref (q 17)], cj B (q 11) 25 ((rFin rt K (lN tt) (g, fl, S, w)).2.2.1), cb B (q 15) 128 ((rFin rt K (lN tt) (g, fl, S, w)).1), cj B (q 14) 80 ((rFin rt K (lN tt) (g, fl, S, w)).2.2.2), cj B (q 4) 80 K, cb B ta tn (gvS rt (rFin rt K (lN tt) (g, fl, S, w)).2.2.1 o at_ k)] [(0, .ref a), (1, .ref ta), (2, .int (nI at_)), (3, .int (nI n)), (4, .int (nI k))] 7 []
    refine g_iload (pc := 7) X d_O_give_7 rfl ?_
    refine g_iload_n (pc := 9) X (i := 3) d_O_give_9 rfl rfl ?_
    refine g_icmp_geN (pc := 10) X (tgt := 102) d_O_give_10 (by decide) (by omega) (by omega) (fun h_10 => absurd h_10 (by omega)) (fun h_10 => ?_)
    refine g_aload_n (pc := 13) X (i := 0) d_O_give_13 rfl rfl ?_
    refine g_callVi (pc := 14) (q0 := 0) X (c_O_sponge_b (m_l M) B a q tp kd rt ((rFin rt K (lN tt) (g, fl, S, w)).2.1) (rFiT rt K tt (g, fl, S, w)) cd (by omega)) wd_783 wd_785 wp_O_sponge wd_5 wd_786 hd_O_sponge [0] rfl rfl [a] (fun _ => rfl) rfl rfl rfl (by rw [hR]; decide) (by rw [hR]; decide) rfl (Nat.le_of_ble_eq_true rfl) d_O_give_14 (fun r9 _ hr9 => ?_)
    subst hr9
    refine g_wsq [co a 4 [.ref (q 0), .ref (q 1), .ref (q 2), .int (nI tp), .int cd, .ref (q 3), .ref (q 4), .ref (q 5), .ref (q 6), .ref (q 7), .ref (q 8), .ref (q 9), .ref (q 10), .ref (q 11), .ref (q 12), .ref (q 13), .ref (q 14), .ref (q 15), .int (nI kd), .int (nI rt), .int (nI ((rFin rt K (lN tt) (g, fl, S, w)).2.1)), .long (lN (rFiT rt K tt (g, fl, S, w))), .ref (q 16), .ref (q 17)], cj B (q 11) 25 ((rFin rt K (lN tt) (g, fl, S, w)).2.2.1), cb B (q 15) 128 ((rFin rt K (lN tt) (g, fl, S, w)).1), cj B (q 14) 80 ((rFin rt K (lN tt) (g, fl, S, w)).2.2.2), cj B (q 4) 80 K, cb B ta tn (gvS rt (rFin rt K (lN tt) (g, fl, S, w)).2.2.1 o at_ k)] rfl ?_
    refine g_if_eqN (pc := 17) X (tgt := 34) d_O_give_17 (by decide) (by omega) (fun h_17 => ?_) (fun h_17 => absurd h_17 (by omega))
    refine g_aload_n (pc := 34) X (i := 1) d_O_give_34 rfl rfl ?_
    refine g_iload_n (pc := 35) X (i := 2) d_O_give_35 rfl rfl ?_
    refine g_iload (pc := 36) X d_O_give_36 rfl ?_
    refine g_iaddN (pc := 38) X (at_ + k) (by omega) d_O_give_38 ?_
    refine g_aload_n (pc := 39) X (i := 0) d_O_give_39 rfl rfl ?_
    refine g_get (pc := 40) X in_O 0 rfl rfl 19 (by decide) wd_838 rfl d_O_give_40 ?_
    refine g_bipush (pc := 43) X (v := nI 64) d_O_give_43 (by decide) ?_
    refine g_icmp_neN (pc := 45) X (tgt := 71) d_O_give_45 (by decide) (by omega) (by omega) (fun h_45 => ?_) (fun h_45 => ?_)
    · refine g_aload_n (pc := 71) X (i := 0) d_O_give_71 rfl rfl ?_
      refine g_get (pc := 72) X in_O 0 rfl rfl 13 (by decide) wd_832 rfl d_O_give_72 ?_
      refine g_iload (pc := 75) X d_O_give_75 rfl ?_
      refine g_bipush (pc := 77) X (v := nI 8) d_O_give_77 (by decide) ?_
      refine g_idivN (pc := 79) X (k / 8) (by omega) (by omega) (by omega) rfl d_O_give_79 ?_
      refine g_lald (pc := 80) X 1 rfl (k / 8) rfl (by omega) (by omega) d_O_give_80 ?_
      refine g_bipush (pc := 81) X (v := nI 56) d_O_give_81 (by decide) ?_
      refine g_bipush (pc := 83) X (v := nI 8) d_O_give_83 (by decide) ?_
      refine g_iload (pc := 85) X d_O_give_85 rfl ?_
      refine g_bipush (pc := 87) X (v := nI 8) d_O_give_87 (by decide) ?_
      refine g_iremN (pc := 89) X (k % 8) (by omega) (by omega) (by omega) rfl d_O_give_89 ?_
      refine g_imulN (pc := 90) X (8 * (k % 8)) rfl d_O_give_90 ?_
      refine g_isubN (pc := 91) X (56 - (8 * (k % 8))) (by omega) d_O_give_91 ?_
      refine g_lushr (pc := 92) X (v := lush (((rFin rt K (lN tt) (g, fl, S, w)).2.2.1) (k / 8)) (nI (56 - (8 * (k % 8))))) d_O_give_92 rfl ?_
      refine g_l2i (pc := 93) X d_O_give_93 rfl ?_
      refine g_i2b (pc := 94) X d_O_give_94 rfl ?_
      refine g_bastB (pc := 95) X 5 rfl (at_ + k) rfl (by omega) (by omega) d_O_give_95 ?_
      refine g_wsq [co a 4 [.ref (q 0), .ref (q 1), .ref (q 2), .int (nI tp), .int cd, .ref (q 3), .ref (q 4), .ref (q 5), .ref (q 6), .ref (q 7), .ref (q 8), .ref (q 9), .ref (q 10), .ref (q 11), .ref (q 12), .ref (q 13), .ref (q 14), .ref (q 15), .int (nI kd), .int (nI rt), .int (nI ((rFin rt K (lN tt) (g, fl, S, w)).2.1)), .long (lN (rFiT rt K tt (g, fl, S, w))), .ref (q 16), .ref (q 17)], cj B (q 11) 25 ((rFin rt K (lN tt) (g, fl, S, w)).2.2.1), cb B (q 15) 128 ((rFin rt K (lN tt) (g, fl, S, w)).1), cj B (q 14) 80 ((rFin rt K (lN tt) (g, fl, S, w)).2.2.2), cj B (q 4) 80 K, cb B ta tn (va_up (gvS rt (rFin rt K (lN tt) (g, fl, S, w)).2.2.1 o at_ k) (at_ + k) (((lush (((rFin rt K (lN tt) (g, fl, S, w)).2.2.1) (k / 8)) (nI (56 - (8 * (k % 8))))).toInt32).toInt8))] rfl ?_
      refine g_iincN (pc := 96) X (a := k) (k + 1) d_O_give_96 rfl 1 rfl (by omega) (by decide) ?_
      refine g_lv [(0, .ref a), (1, .ref ta), (2, .int (nI at_)), (3, .int (nI n)), (4, .int (nI (k + 1)))] rfl ?_
      refine g_goto (pc := 99) X (tgt := 7) d_O_give_99 (by decide) ?_
      refine g_lv [(0, .ref a), (1, .ref ta), (2, .int (nI at_)), (3, .int (nI n)), (4, .int (nI (k + 1)))] rfl ?_
      refine g_wsq [co a 4 [.ref (q 0), .ref (q 1), .ref (q 2), .int (nI tp), .int cd, .ref (q 3), .ref (q 4), .ref (q 5), .ref (q 6), .ref (q 7), .ref (q 8), .ref (q 9), .ref (q 10), .ref (q 11), .ref (q 12), .ref (q 13), .ref (q 14), .ref (q 15), .int (nI kd), .int (nI rt), .int (nI ((rFin rt K (lN tt) (g, fl, S, w)).2.1)), .long (lN (rFiT rt K tt (g, fl, S, w))), .ref (q 16), .ref (q 17)], cj B (q 11) 25 ((rFin rt K (lN tt) (g, fl, S, w)).2.2.1), cb B (q 15) 128 ((rFin rt K (lN tt) (g, fl, S, w)).1), cj B (q 14) 80 ((rFin rt K (lN tt) (g, fl, S, w)).2.2.2), cj B (q 4) 80 K, cb B ta tn (gvS rt (rFin rt K (lN tt) (g, fl, S, w)).2.2.1 o at_ (k + 1))] (by rw [← gvS_s]; unfold sbR; first | rw [if_pos (by omega)] | rw [if_neg (by omega)]) ?_
      exact kk7
    · refine g_aload_n (pc := 48) X (i := 0) d_O_give_48 rfl rfl ?_
      refine g_get (pc := 49) X in_O 0 rfl rfl 13 (by decide) wd_832 rfl d_O_give_49 ?_
      refine g_iload (pc := 52) X d_O_give_52 rfl ?_
      refine g_iconst (pc := 54) X (v := nI 4) d_O_give_54 (by decide) ?_
      refine g_idivN (pc := 55) X (k / 4) (by omega) (by omega) (by omega) rfl d_O_give_55 ?_
      refine g_lald (pc := 56) X 1 rfl (k / 4) rfl (by omega) (by omega) d_O_give_56 ?_
      refine g_bipush (pc := 57) X (v := nI 24) d_O_give_57 (by decide) ?_
      refine g_bipush (pc := 59) X (v := nI 8) d_O_give_59 (by decide) ?_
      refine g_iload (pc := 61) X d_O_give_61 rfl ?_
      refine g_iconst (pc := 63) X (v := nI 4) d_O_give_63 (by decide) ?_
      refine g_iremN (pc := 64) X (k % 4) (by omega) (by omega) (by omega) rfl d_O_give_64 ?_
      refine g_imulN (pc := 65) X (8 * (k % 4)) rfl d_O_give_65 ?_
      refine g_isubN (pc := 66) X (24 - (8 * (k % 4))) (by omega) d_O_give_66 ?_
      refine g_lushr (pc := 67) X (v := lush (((rFin rt K (lN tt) (g, fl, S, w)).2.2.1) (k / 4)) (nI (24 - (8 * (k % 4))))) d_O_give_67 rfl ?_
      refine g_goto (pc := 68) X (tgt := 93) d_O_give_68 (by decide) ?_
      refine g_l2i (pc := 93) X d_O_give_93 rfl ?_
      refine g_i2b (pc := 94) X d_O_give_94 rfl ?_
      refine g_bastB (pc := 95) X 5 rfl (at_ + k) rfl (by omega) (by omega) d_O_give_95 ?_
      refine g_wsq [co a 4 [.ref (q 0), .ref (q 1), .ref (q 2), .int (nI tp), .int cd, .ref (q 3), .ref (q 4), .ref (q 5), .ref (q 6), .ref (q 7), .ref (q 8), .ref (q 9), .ref (q 10), .ref (q 11), .ref (q 12), .ref (q 13), .ref (q 14), .ref (q 15), .int (nI kd), .int (nI rt), .int (nI ((rFin rt K (lN tt) (g, fl, S, w)).2.1)), .long (lN (rFiT rt K tt (g, fl, S, w))), .ref (q 16), .ref (q 17)], cj B (q 11) 25 ((rFin rt K (lN tt) (g, fl, S, w)).2.2.1), cb B (q 15) 128 ((rFin rt K (lN tt) (g, fl, S, w)).1), cj B (q 14) 80 ((rFin rt K (lN tt) (g, fl, S, w)).2.2.2), cj B (q 4) 80 K, cb B ta tn (va_up (gvS rt (rFin rt K (lN tt) (g, fl, S, w)).2.2.1 o at_ k) (at_ + k) (((lush (((rFin rt K (lN tt) (g, fl, S, w)).2.2.1) (k / 4)) (nI (24 - (8 * (k % 4))))).toInt32).toInt8))] rfl ?_
      refine g_iincN (pc := 96) X (a := k) (k + 1) d_O_give_96 rfl 1 rfl (by omega) (by decide) ?_
      refine g_lv [(0, .ref a), (1, .ref ta), (2, .int (nI at_)), (3, .int (nI n)), (4, .int (nI (k + 1)))] rfl ?_
      refine g_goto (pc := 99) X (tgt := 7) d_O_give_99 (by decide) ?_
      refine g_lv [(0, .ref a), (1, .ref ta), (2, .int (nI at_)), (3, .int (nI n)), (4, .int (nI (k + 1)))] rfl ?_
      refine g_wsq [co a 4 [.ref (q 0), .ref (q 1), .ref (q 2), .int (nI tp), .int cd, .ref (q 3), .ref (q 4), .ref (q 5), .ref (q 6), .ref (q 7), .ref (q 8), .ref (q 9), .ref (q 10), .ref (q 11), .ref (q 12), .ref (q 13), .ref (q 14), .ref (q 15), .int (nI kd), .int (nI rt), .int (nI ((rFin rt K (lN tt) (g, fl, S, w)).2.1)), .long (lN (rFiT rt K tt (g, fl, S, w))), .ref (q 16), .ref (q 17)], cj B (q 11) 25 ((rFin rt K (lN tt) (g, fl, S, w)).2.2.1), cb B (q 15) 128 ((rFin rt K (lN tt) (g, fl, S, w)).1), cj B (q 14) 80 ((rFin rt K (lN tt) (g, fl, S, w)).2.2.2), cj B (q 4) 80 K, cb B ta tn (gvS rt (rFin rt K (lN tt) (g, fl, S, w)).2.2.1 o at_ (k + 1))] (by rw [← gvS_s]; unfold sbR; first | rw [if_pos (by omega)] | rw [if_neg (by omega)]) ?_
      exact kk7
  · show G B M 5 0 0 Q [co a 4 [.ref (q 0), .ref (q 1), .ref (q 2), .int (nI tp), .int cd, .ref (q 3), .ref (q 4), .ref (q 5), .ref (q 6), .ref (q 7), .ref (q 8), .ref (q 9), .ref (q 10), .ref (q 11), .ref (q 12), .ref (q 13), .ref (q 14), .ref (q 15), .int (nI kd), .int (nI rt), .int (nI ((rFin rt K (lN tt) (g, fl, S, w)).2.1)), .long (lN (rFiT rt K tt (g, fl, S, w))), .ref (q 16), .ref (q 17)], cj B (q 11) 25 ((rFin rt K (lN tt) (g, fl, S, w)).2.2.1), cb B (q 15) 128 ((rFin rt K (lN tt) (g, fl, S, w)).1), cj B (q 14) 80 ((rFin rt K (lN tt) (g, fl, S, w)).2.2.2), cj B (q 4) 80 K, cb B ta tn (gvS rt (rFin rt K (lN tt) (g, fl, S, w)).2.2.1 o at_ n)] [(0, .ref a), (1, .ref ta), (2, .int (nI at_)), (3, .int (nI n)), (4, .int (nI n))] 7 []
    refine g_iload (pc := 7) X d_O_give_7 rfl ?_
    refine g_iload_n (pc := 9) X (i := 3) d_O_give_9 rfl rfl ?_
    refine g_icmp_geN (pc := 10) X (tgt := 102) d_O_give_10 (by decide) (by omega) (by omega) (fun h_10 => ?_) (fun h_10 => absurd h_10 (by omega))
    exact kret () _ 102 trivial d_O_give_102

theorem c_O_give_s (l : Launch) (B : Bx) (a : Nat) (q : Nat → Nat) (tp : Nat) (kd : Nat) (rt : Nat) (fl : Nat) (tt : Nat) (cd : Int32) (S : Nat → Int64) (o : Nat → Int64) (c : Nat → Int64) (T : Nat → Int32) (rn : Nat → Int64) (ta : Nat) (tn : Nat) (at_ : Nat) (n : Nat) (u : Nat → Int8) (hk : 6 < kd) (hk2 : kd ≤ 12) (hr : 0 < rt) (hr2 : rt ≤ 200) (hf : fl < rt) (ht : at_ + n ≤ tn) (ht2 : tn < 2 ^ 31) : Cv (S := Unit) l B y_O_give b_O_give 5 (Rm 5 0 0) [.ref a, .ref ta, .int (nI at_), .int (nI n)] [co a 4 [.ref (q 0), .ref (q 1), .ref (q 2), .int (nI tp), .int cd, .ref (q 3), .ref (q 4), .ref (q 5), .ref (q 6), .ref (q 7), .ref (q 8), .ref (q 9), .ref (q 10), .ref (q 11), .ref (q 12), .ref (q 13), .ref (q 14), .ref (q 15), .int (nI kd), .int (nI rt), .int (nI fl), .long (lN tt), .ref (q 16), .ref (q 17)], cj B (q 11) 25 S, cj B (q 12) 25 o, cj B (q 13) 5 c, cn B (q 9) 25 T, cj B (q 10) 24 rn, cb B ta tn u] (fun _ => True) (fun _ => [co a 4 [.ref (q 0), .ref (q 1), .ref (q 2), .int (nI tp), .int cd, .ref (q 3), .ref (q 4), .ref (q 5), .ref (q 6), .ref (q 7), .ref (q 8), .ref (q 9), .ref (q 10), .ref (q 11), .ref (q 12), .ref (q 13), .ref (q 14), .ref (q 15), .int (nI kd), .int (nI rt), .int (nI ((gsS T rn rt at_ n (sFin T rn rt kd (S, o, c, fl)) u).2.2.2.1)), .long (lN tt), .ref (q 16), .ref (q 17)], cj B (q 11) 25 ((gsS T rn rt at_ n (sFin T rn rt kd (S, o, c, fl)) u).1), cj B (q 12) 25 ((gsS T rn rt at_ n (sFin T rn rt kd (S, o, c, fl)) u).2.1), cj B (q 13) 5 ((gsS T rn rt at_ n (sFin T rn rt kd (S, o, c, fl)) u).2.2.1), cn B (q 9) 25 T, cj B (q 10) 24 rn, cb B ta tn ((gsS T rn rt at_ n (sFin T rn rt kd (S, o, c, fl)) u).2.2.2.2)]) := by
  refine ctr_v (by decide) (Nat.le_of_ble_eq_true rfl) ?_
  intro M Q hl hR hin X kret
  subst hl
  refine g_lv [(0, .ref a), (1, .ref ta), (2, .int (nI at_)), (3, .int (nI n))] rfl ?_
  refine g_aload_n (pc := 0) X (i := 0) d_O_give_0 rfl rfl ?_
  refine g_callVv (pc := 1) (q0 := 0) X (c_O_finish_s (m_l M) B a q tp kd rt fl tt cd S o c T rn (by omega) (by omega) (by omega) (by omega) (by omega)) wd_814 wd_816 wp_O_finish wd_5 wd_817 hd_O_finish [0, 1, 2, 3, 4, 5] rfl rfl [a, q 11, q 12, q 13, q 9, q 10] (fun _ => rfl) rfl rfl rfl (by rw [hR]; decide) (by rw [hR]; decide) rfl (Nat.le_of_ble_eq_true rfl) d_O_give_1 (fun _ _ => ?_)
  refine g_wsq [co a 4 [.ref (q 0), .ref (q 1), .ref (q 2), .int (nI tp), .int cd, .ref (q 3), .ref (q 4), .ref (q 5), .ref (q 6), .ref (q 7), .ref (q 8), .ref (q 9), .ref (q 10), .ref (q 11), .ref (q 12), .ref (q 13), .ref (q 14), .ref (q 15), .int (nI kd), .int (nI rt), .int (nI 0), .long (lN tt), .ref (q 16), .ref (q 17)], cj B (q 11) 25 ((sFin T rn rt kd (S, o, c, fl)).1), cj B (q 12) 25 ((sFin T rn rt kd (S, o, c, fl)).2.1), cj B (q 13) 5 ((sFin T rn rt kd (S, o, c, fl)).2.2), cn B (q 9) 25 T, cj B (q 10) 24 rn, cb B ta tn u] rfl ?_
  refine g_iconst (pc := 4) X (v := nI 0) d_O_give_4 (by decide) ?_
  refine g_istore (pc := 5) X d_O_give_5 (by decide) ?_
  refine g_lv [(0, .ref a), (1, .ref ta), (2, .int (nI at_)), (3, .int (nI n)), (4, .int (nI 0))] rfl ?_
  refine g_lv [(0, .ref a), (1, .ref ta), (2, .int (nI at_)), (3, .int (nI n)), (4, .int (nI 0))] rfl ?_
  refine loopI (σ := S5) (gsF T rn rt at_) (fun k s => s.2.2.2.1 ≤ rt) (fun k s => G B M 5 0 0 Q [co a 4 [.ref (q 0), .ref (q 1), .ref (q 2), .int (nI tp), .int cd, .ref (q 3), .ref (q 4), .ref (q 5), .ref (q 6), .ref (q 7), .ref (q 8), .ref (q 9), .ref (q 10), .ref (q 11), .ref (q 12), .ref (q 13), .ref (q 14), .ref (q 15), .int (nI kd), .int (nI rt), .int (nI s.2.2.2.1), .long (lN tt), .ref (q 16), .ref (q 17)], cj B (q 11) 25 s.1, cj B (q 12) 25 s.2.1, cj B (q 13) 5 s.2.2.1, cn B (q 9) 25 T, cj B (q 10) 24 rn, cb B ta tn s.2.2.2.2] [(0, .ref a), (1, .ref ta), (2, .int (nI at_)), (3, .int (nI n)), (4, .int (nI k))] 7 []) n ((sFin T rn rt kd (S, o, c, fl)).1, (sFin T rn rt kd (S, o, c, fl)).2.1, (sFin T rn rt kd (S, o, c, fl)).2.2, 0, u) (Nat.zero_le _) (fun k s _ h => gsF_le hr k s h) ?_ ?_
  · intro k s hk7 hI7 kk7
    show G B M 5 0 0 Q [co a 4 [.ref (q 0), .ref (q 1), .ref (q 2), .int (nI tp), .int cd, .ref (q 3), .ref (q 4), .ref (q 5), .ref (q 6), .ref (q 7), .ref (q 8), .ref (q 9), .ref (q 10), .ref (q 11), .ref (q 12), .ref (q 13), .ref (q 14), .ref (q 15), .int (nI kd), .int (nI rt), .int (nI s.2.2.2.1), .long (lN tt), .ref (q 16), .ref (q 17)], cj B (q 11) 25 s.1, cj B (q 12) 25 s.2.1, cj B (q 13) 5 s.2.2.1, cn B (q 9) 25 T, cj B (q 10) 24 rn, cb B ta tn s.2.2.2.2] [(0, .ref a), (1, .ref ta), (2, .int (nI at_)), (3, .int (nI n)), (4, .int (nI k))] 7 []
    refine g_iload (pc := 7) X d_O_give_7 rfl ?_
    refine g_iload_n (pc := 9) X (i := 3) d_O_give_9 rfl rfl ?_
    refine g_icmp_geN (pc := 10) X (tgt := 102) d_O_give_10 (by decide) (by omega) (by omega) (fun h_10 => absurd h_10 (by omega)) (fun h_10 => ?_)
    refine g_aload_n (pc := 13) X (i := 0) d_O_give_13 rfl rfl ?_
    refine g_callVi (pc := 14) (q0 := 0) X (c_O_sponge_s (m_l M) B a q tp kd rt s.2.2.2.1 tt cd (by omega) (by omega)) wd_783 wd_785 wp_O_sponge wd_5 wd_786 hd_O_sponge [0] rfl rfl [a] (fun _ => rfl) rfl rfl rfl (by rw [hR]; decide) (by rw [hR]; decide) rfl (Nat.le_of_ble_eq_true rfl) d_O_give_14 (fun r9 _ hr9 => ?_)
    subst hr9
    refine g_wsq [co a 4 [.ref (q 0), .ref (q 1), .ref (q 2), .int (nI tp), .int cd, .ref (q 3), .ref (q 4), .ref (q 5), .ref (q 6), .ref (q 7), .ref (q 8), .ref (q 9), .ref (q 10), .ref (q 11), .ref (q 12), .ref (q 13), .ref (q 14), .ref (q 15), .int (nI kd), .int (nI rt), .int (nI s.2.2.2.1), .long (lN tt), .ref (q 16), .ref (q 17)], cj B (q 11) 25 s.1, cj B (q 12) 25 s.2.1, cj B (q 13) 5 s.2.2.1, cn B (q 9) 25 T, cj B (q 10) 24 rn, cb B ta tn s.2.2.2.2] rfl ?_
    refine g_if_eqN (pc := 17) X (tgt := 34) d_O_give_17 (by decide) (by omega) (fun h_17 => absurd h_17 (by omega)) (fun h_17 => ?_)
    refine g_aload_n (pc := 20) X (i := 1) d_O_give_20 rfl rfl ?_
    refine g_iload_n (pc := 21) X (i := 2) d_O_give_21 rfl rfl ?_
    refine g_iload (pc := 22) X d_O_give_22 rfl ?_
    refine g_iaddN (pc := 24) X (at_ + k) (by omega) d_O_give_24 ?_
    refine g_aload_n (pc := 25) X (i := 0) d_O_give_25 rfl rfl ?_
    refine g_callVi (pc := 26) (q0 := 0) X (c_O_squeeze (m_l M) B a q tp kd rt s.2.2.2.1 tt cd s.1 s.2.1 s.2.2.1 T rn (by omega) (by omega) (by omega) (by omega) (by omega)) wd_952 wd_954 wp_O_squeeze wd_5 wd_955 hd_O_squeeze [0, 1, 2, 3, 4, 5] rfl rfl [a, q 11, q 12, q 13, q 9, q 10] (fun _ => rfl) rfl rfl rfl (by rw [hR]; decide) (by rw [hR]; decide) rfl (Nat.le_of_ble_eq_true rfl) d_O_give_26 (fun r9 _ hr9 => ?_)
    subst hr9
    refine g_wsq [co a 4 [.ref (q 0), .ref (q 1), .ref (q 2), .int (nI tp), .int cd, .ref (q 3), .ref (q 4), .ref (q 5), .ref (q 6), .ref (q 7), .ref (q 8), .ref (q 9), .ref (q 10), .ref (q 11), .ref (q 12), .ref (q 13), .ref (q 14), .ref (q 15), .int (nI kd), .int (nI rt), .int (nI ((sqR T rn rt (s.1, s.2.1, s.2.2.1, s.2.2.2.1)).2.2.2 + 1)), .long (lN tt), .ref (q 16), .ref (q 17)], cj B (q 11) 25 ((sqR T rn rt (s.1, s.2.1, s.2.2.1, s.2.2.2.1)).1), cj B (q 12) 25 ((sqR T rn rt (s.1, s.2.1, s.2.2.1, s.2.2.2.1)).2.1), cj B (q 13) 5 ((sqR T rn rt (s.1, s.2.1, s.2.2.1, s.2.2.2.1)).2.2.1), cn B (q 9) 25 T, cj B (q 10) 24 rn, cb B ta tn s.2.2.2.2] rfl ?_
    refine g_i2b (pc := 29) X d_O_give_29 rfl ?_
    refine g_bastB (pc := 30) X 6 rfl (at_ + k) rfl (by omega) (by omega) d_O_give_30 ?_
    refine g_wsq [co a 4 [.ref (q 0), .ref (q 1), .ref (q 2), .int (nI tp), .int cd, .ref (q 3), .ref (q 4), .ref (q 5), .ref (q 6), .ref (q 7), .ref (q 8), .ref (q 9), .ref (q 10), .ref (q 11), .ref (q 12), .ref (q 13), .ref (q 14), .ref (q 15), .int (nI kd), .int (nI rt), .int (nI ((sqR T rn rt (s.1, s.2.1, s.2.2.1, s.2.2.2.1)).2.2.2 + 1)), .long (lN tt), .ref (q 16), .ref (q 17)], cj B (q 11) 25 ((sqR T rn rt (s.1, s.2.1, s.2.2.1, s.2.2.2.1)).1), cj B (q 12) 25 ((sqR T rn rt (s.1, s.2.1, s.2.2.1, s.2.2.2.1)).2.1), cj B (q 13) 5 ((sqR T rn rt (s.1, s.2.1, s.2.2.1, s.2.2.2.1)).2.2.1), cn B (q 9) 25 T, cj B (q 10) 24 rn, cb B ta tn (va_up s.2.2.2.2 (at_ + k) ((sqV (sqR T rn rt (s.1, s.2.1, s.2.2.1, s.2.2.2.1))).toInt8))] rfl ?_
    refine g_goto (pc := 31) X (tgt := 96) d_O_give_31 (by decide) ?_
    refine g_iincN (pc := 96) X (a := k) (k + 1) d_O_give_96 rfl 1 rfl (by omega) (by decide) ?_
    refine g_lv [(0, .ref a), (1, .ref ta), (2, .int (nI at_)), (3, .int (nI n)), (4, .int (nI (k + 1)))] rfl ?_
    refine g_goto (pc := 99) X (tgt := 7) d_O_give_99 (by decide) ?_
    refine g_lv [(0, .ref a), (1, .ref ta), (2, .int (nI at_)), (3, .int (nI n)), (4, .int (nI (k + 1)))] rfl ?_
    exact kk7 (_, _, _, _, _) (by rfl)
  · intro hI7
    rw [show it (gsF T rn rt at_) n ((sFin T rn rt kd (S, o, c, fl)).1, (sFin T rn rt kd (S, o, c, fl)).2.1, (sFin T rn rt kd (S, o, c, fl)).2.2, 0, u) = (gsS T rn rt at_ n (sFin T rn rt kd (S, o, c, fl)) u) from rfl] at hI7 ⊢
    show G B M 5 0 0 Q [co a 4 [.ref (q 0), .ref (q 1), .ref (q 2), .int (nI tp), .int cd, .ref (q 3), .ref (q 4), .ref (q 5), .ref (q 6), .ref (q 7), .ref (q 8), .ref (q 9), .ref (q 10), .ref (q 11), .ref (q 12), .ref (q 13), .ref (q 14), .ref (q 15), .int (nI kd), .int (nI rt), .int (nI (((gsS T rn rt at_ n (sFin T rn rt kd (S, o, c, fl)) u)).2.2.2.1)), .long (lN tt), .ref (q 16), .ref (q 17)], cj B (q 11) 25 (((gsS T rn rt at_ n (sFin T rn rt kd (S, o, c, fl)) u)).1), cj B (q 12) 25 (((gsS T rn rt at_ n (sFin T rn rt kd (S, o, c, fl)) u)).2.1), cj B (q 13) 5 (((gsS T rn rt at_ n (sFin T rn rt kd (S, o, c, fl)) u)).2.2.1), cn B (q 9) 25 T, cj B (q 10) 24 rn, cb B ta tn (((gsS T rn rt at_ n (sFin T rn rt kd (S, o, c, fl)) u)).2.2.2.2)] [(0, .ref a), (1, .ref ta), (2, .int (nI at_)), (3, .int (nI n)), (4, .int (nI n))] 7 []
    refine g_iload (pc := 7) X d_O_give_7 rfl ?_
    refine g_iload_n (pc := 9) X (i := 3) d_O_give_9 rfl rfl ?_
    refine g_icmp_geN (pc := 10) X (tgt := 102) d_O_give_10 (by decide) (by omega) (by omega) (fun h_10 => ?_) (fun h_10 => absurd h_10 (by omega))
    exact kret () _ 102 trivial d_O_give_102

theorem c_O_move (l : Launch) (B : Bx) (fa : Nat) (fn : Nat) (ta : Nat) (tn : Nat) (sp : Nat) (dp : Nat) (n : Nat) (f : Nat → Int8) (g : Nat → Int8) (h1 : sp + n ≤ fn) (h2 : dp + n ≤ tn) (h3 : fn < 2 ^ 31) (h4 : tn < 2 ^ 31) : Cv (S := Unit) l B y_O_move b_O_move 6 (Rm 1 0 0) [.ref fa, .int (nI sp), .ref ta, .int (nI dp), .int (nI n)] [cb B fa fn f, cb B ta tn g] (fun _ => True) (fun _ => [cb B fa fn f, cb B ta tn (va_cpy f g sp dp n)]) := by
  refine ctr_v (by decide) (Nat.le_of_ble_eq_true rfl) ?_
  intro M Q hl hR hin X kret
  subst hl
  refine g_lv [(0, .ref fa), (1, .int (nI sp)), (2, .ref ta), (3, .int (nI dp)), (4, .int (nI n))] rfl ?_
  refine g_iconst (pc := 0) X (v := nI 0) d_O_move_0 (by decide) ?_
  refine g_istore (pc := 1) X d_O_move_1 (by decide) ?_
  refine g_lv [(0, .ref fa), (1, .int (nI sp)), (2, .ref ta), (3, .int (nI dp)), (4, .int (nI n)), (5, .int (nI 0))] rfl ?_
  refine g_lv [(0, .ref fa), (1, .int (nI sp)), (2, .ref ta), (3, .int (nI dp)), (4, .int (nI n)), (5, .int (nI 0))] rfl ?_
  refine g_wsq [cb B fa fn f, cb B ta tn (va_cpy f g sp dp 0)] (by rw [← cpy_0]) ?_
  refine loopK (fun k => G B M 6 0 0 Q [cb B fa fn f, cb B ta tn (va_cpy f g sp dp k)] [(0, .ref fa), (1, .int (nI sp)), (2, .ref ta), (3, .int (nI dp)), (4, .int (nI n)), (5, .int (nI k))] 3 []) n ?_ ?_
  · intro k hk3 kk3
    show G B M 6 0 0 Q [cb B fa fn f, cb B ta tn (va_cpy f g sp dp k)] [(0, .ref fa), (1, .int (nI sp)), (2, .ref ta), (3, .int (nI dp)), (4, .int (nI n)), (5, .int (nI k))] 3 []
    refine g_iload (pc := 3) X d_O_move_3 rfl ?_
    refine g_iload (pc := 5) X d_O_move_5 rfl ?_
    refine g_icmp_geN (pc := 7) X (tgt := 28) d_O_move_7 (by decide) (by omega) (by omega) (fun h_7 => absurd h_7 (by omega)) (fun h_7 => ?_)
    refine g_aload_n (pc := 10) X (i := 2) d_O_move_10 rfl rfl ?_
    refine g_iload_n (pc := 11) X (i := 3) d_O_move_11 rfl rfl ?_
    refine g_iload (pc := 12) X d_O_move_12 rfl ?_
    refine g_iaddN (pc := 14) X (dp + k) (by omega) d_O_move_14 ?_
    refine g_aload_n (pc := 15) X (i := 0) d_O_move_15 rfl rfl ?_
    refine g_iload_n (pc := 16) X (i := 1) d_O_move_16 rfl rfl ?_
    refine g_iload (pc := 17) X d_O_move_17 rfl ?_
    refine g_iaddN (pc := 19) X (sp + k) (by omega) d_O_move_19 ?_
    refine g_bald (pc := 20) X 0 rfl (sp + k) rfl (by omega) (by omega) d_O_move_20 ?_
    refine g_bastB (pc := 21) X 1 rfl (dp + k) rfl (by omega) (by omega) d_O_move_21 ?_
    refine g_wsq [cb B fa fn f, cb B ta tn (va_up (va_cpy f g sp dp k) (dp + k) (f (sp + k)))] rfl ?_
    refine g_iincN (pc := 22) X (a := k) (k + 1) d_O_move_22 rfl 1 rfl (by omega) (by decide) ?_
    refine g_lv [(0, .ref fa), (1, .int (nI sp)), (2, .ref ta), (3, .int (nI dp)), (4, .int (nI n)), (5, .int (nI (k + 1)))] rfl ?_
    refine g_goto (pc := 25) X (tgt := 3) d_O_move_25 (by decide) ?_
    refine g_lv [(0, .ref fa), (1, .int (nI sp)), (2, .ref ta), (3, .int (nI dp)), (4, .int (nI n)), (5, .int (nI (k + 1)))] rfl ?_
    refine g_wsq [cb B fa fn f, cb B ta tn (va_cpy f g sp dp (k + 1))] (by rw [cpy_s]) ?_
    exact kk3
  · show G B M 6 0 0 Q [cb B fa fn f, cb B ta tn (va_cpy f g sp dp n)] [(0, .ref fa), (1, .int (nI sp)), (2, .ref ta), (3, .int (nI dp)), (4, .int (nI n)), (5, .int (nI n))] 3 []
    refine g_iload (pc := 3) X d_O_move_3 rfl ?_
    refine g_iload (pc := 5) X d_O_move_5 rfl ?_
    refine g_icmp_geN (pc := 7) X (tgt := 28) d_O_move_7 (by decide) (by omega) (by omega) (fun h_7 => ?_) (fun h_7 => absurd h_7 (by omega))
    exact kret () _ 28 trivial d_O_move_28
