theorem c_O_constants (l : Launch) (B : Bx) (a : Nat) (q : Nat → Nat) (tp : Nat) (kd : Nat) (rt : Nat) (fl : Nat) (tt : Nat) (cd : Int32) (ro : Nat → Int64) (cu : Nat → Int64) (s2 : Nat → Int64) (s5 : Nat → Int64) (lm : Nat → Int64) (pd : Nat → Int64) (T : Nat → Int32) (rn : Nat → Int64) (S : Nat → Int64) (g : Nat → Int8) (w : Nat → Int64)  : Cv (S := (H4 × Nat) × LPP) l B y_O_constants b_O_constants 6 (Rm 7 0 0) [.ref a] [co a 4 [.ref (q 0), .ref (q 1), .ref (q 2), .int (nI tp), .int cd, .ref (q 3), .ref (q 4), .ref (q 5), .ref (q 6), .ref (q 7), .ref (q 8), .ref (q 9), .ref (q 10), .ref (q 11), .ref (q 12), .ref (q 13), .ref (q 14), .ref (q 15), .int (nI kd), .int (nI rt), .int (nI fl), .long (lN tt), .ref (q 16), .ref (q 17)], cj B (q 3) 16 ro, cj B (q 4) 80 cu, cj B (q 5) 8 s2, cj B (q 6) 8 s5, cj B (q 7) 16 lm, cj B (q 8) 16 pd, cn B (q 9) 25 T, cj B (q 10) 24 rn, cj B (q 11) 25 S, cb B (q 15) 128 g, cj B (q 14) 80 w] (fun _ => True) (fun u => [co a 4 [.ref (q 0), .ref (q 1), .ref (q 2), .int (nI tp), .int cd, .ref (q 3), .ref (q 4), .ref (q 5), .ref (q 6), .ref (q 7), .ref (q 8), .ref (q 9), .ref (q 10), .ref (q 11), .ref (q 12), .ref (q 13), .ref (q 14), .ref (q 15), .int (nI 3), .int (nI (rtN 3)), .int (nI u.1.1.2.1), .long (lN u.1.2), .ref (q 16), .ref (q 17)], cj B (q 3) 16 (va_cpy rtT ro 0 0 16), cj B (q 4) 80 (va_cpy (s_l 8) cu 0 0 80), cj B (q 5) 8 (va_cpy (s_l 6) s2 0 0 8), cj B (q 6) 8 (va_cpy (s_l 7) s5 0 0 8), cj B (q 7) 16 u.2.2, cj B (q 8) 16 u.2.1, cn B (q 9) 25 (it tuF 24 T), cj B (q 10) 24 (it rdF 24 rn), cj B (q 11) 25 u.1.1.2.2.1, cb B (q 15) 128 u.1.1.1, cj B (q 14) 80 u.1.1.2.2.2]) := by
  refine ctr_v (by decide) (Nat.le_of_ble_eq_true rfl) ?_
  intro M Q hl hR hin X kret
  subst hl
  refine g_lv [(0, .ref a)] rfl ?_
  refine g_iconst (pc := 0) X (v := nI 0) d_O_constants_0 (by decide) ?_
  refine g_istore_n (pc := 1) X (i := 1) d_O_constants_1 rfl (by decide) ?_
  refine g_lv [(0, .ref a), (1, .int (nI 0))] rfl ?_
  refine g_iconst (pc := 2) X (v := nI 2) d_O_constants_2 (by decide) ?_
  refine g_istore_n (pc := 3) X (i := 2) d_O_constants_3 rfl (by decide) ?_
  refine g_lv [(0, .ref a), (1, .int (nI 0)), (2, .int (nI 2))] rfl ?_
  refine g_lv [(0, .ref a), (1, .int (nI 0)), (2, .int (nI 2))] rfl ?_
  refine g_lve [(0, .ref a), (1, .int (nI (ctN (0 + 2)))), (2, .int (nI (0 + 2)))] (by rw [show ctN (0 + 2) = 0 from ct_2] <;> rfl) ?_
  refine g_wsq [co a 4 [.ref (q 0), .ref (q 1), .ref (q 2), .int (nI tp), .int cd, .ref (q 3), .ref (q 4), .ref (q 5), .ref (q 6), .ref (q 7), .ref (q 8), .ref (q 9), .ref (q 10), .ref (q 11), .ref (q 12), .ref (q 13), .ref (q 14), .ref (q 15), .int (nI kd), .int (nI rt), .int (nI fl), .long (lN tt), .ref (q 16), .ref (q 17)], cj B (q 3) 16 (va_cpy rtT ro 0 0 (min (ctN (0 + 2)) 16)), cj B (q 4) 80 (va_cpy (s_l 8) cu 0 0 (ctN (0 + 2))), cj B (q 5) 8 s2, cj B (q 6) 8 s5, cj B (q 7) 16 lm, cj B (q 8) 16 pd, cn B (q 9) 25 T, cj B (q 10) 24 rn, cj B (q 11) 25 S, cb B (q 15) 128 g, cj B (q 14) 80 w] (by rw [show ctN (0 + 2) = 0 from ct_2, show min 0 16 = 0 from rfl, ← cpy_0, ← cpy_0]) ?_
  refine loopK (fun k => ∀ (pd : Nat → Int64) (lm : Nat → Int64), G B M 6 0 0 Q [co a 4 [.ref (q 0), .ref (q 1), .ref (q 2), .int (nI tp), .int cd, .ref (q 3), .ref (q 4), .ref (q 5), .ref (q 6), .ref (q 7), .ref (q 8), .ref (q 9), .ref (q 10), .ref (q 11), .ref (q 12), .ref (q 13), .ref (q 14), .ref (q 15), .int (nI kd), .int (nI rt), .int (nI fl), .long (lN tt), .ref (q 16), .ref (q 17)], cj B (q 3) 16 (va_cpy rtT ro 0 0 (min (ctN (k + 2)) 16)), cj B (q 4) 80 (va_cpy (s_l 8) cu 0 0 (ctN (k + 2))), cj B (q 5) 8 s2, cj B (q 6) 8 s5, cj B (q 7) 16 lm, cj B (q 8) 16 pd, cn B (q 9) 25 T, cj B (q 10) 24 rn, cj B (q 11) 25 S, cb B (q 15) 128 g, cj B (q 14) 80 w] [(0, .ref a), (1, .int (nI (ctN (k + 2)))), (2, .int (nI (k + 2)))] 4 []) 408 ?_ ?_ pd lm
  · intro k hk4 kk4 pd lm
    obtain ⟨hc1, hc2, hc3⟩ := ct_ok (k + 2) (by omega) (by omega)
    show G B M 6 0 0 Q [co a 4 [.ref (q 0), .ref (q 1), .ref (q 2), .int (nI tp), .int cd, .ref (q 3), .ref (q 4), .ref (q 5), .ref (q 6), .ref (q 7), .ref (q 8), .ref (q 9), .ref (q 10), .ref (q 11), .ref (q 12), .ref (q 13), .ref (q 14), .ref (q 15), .int (nI kd), .int (nI rt), .int (nI fl), .long (lN tt), .ref (q 16), .ref (q 17)], cj B (q 3) 16 (va_cpy rtT ro 0 0 (min (ctN (k + 2)) 16)), cj B (q 4) 80 (va_cpy (s_l 8) cu 0 0 (ctN (k + 2))), cj B (q 5) 8 s2, cj B (q 6) 8 s5, cj B (q 7) 16 lm, cj B (q 8) 16 pd, cn B (q 9) 25 T, cj B (q 10) 24 rn, cj B (q 11) 25 S, cb B (q 15) 128 g, cj B (q 14) 80 w] [(0, .ref a), (1, .int (nI (ctN (k + 2)))), (2, .int (nI (k + 2)))] 4 []
    refine g_iload_n (pc := 4) X (i := 1) d_O_constants_4 rfl rfl ?_
    refine g_bipush (pc := 5) X (v := nI 80) d_O_constants_5 (by decide) ?_
    refine g_icmp_geN (pc := 7) X (tgt := 59) d_O_constants_7 (by decide) (by omega) (by omega) (fun h_7 => absurd h_7 (by omega)) (fun h_7 => ?_)
    refine g_iload_n (pc := 10) X (i := 2) d_O_constants_10 rfl rfl ?_
    cases hpr : prB (k + 2)
    · refine g_callSi (pc := 11) X (c_O_prime_f (m_l M) B (k + 2) (dN (k + 2) - 2) (pr_0 (by omega) (by omega)) (pr_1 (by omega) (by omega)) (by omega) (pr_f (by omega) (by omega) hpr)) wd_748 wd_749 wd_5 wd_750 hd_O_prime [] rfl rfl [] (fun _ => rfl) rfl (by rw [hR]; decide) (by rw [hR]; decide) rfl (Nat.le_of_ble_eq_true rfl) d_O_constants_11 (fun r9 _ hr9 => ?_)
      subst hr9
      refine g_wsq [co a 4 [.ref (q 0), .ref (q 1), .ref (q 2), .int (nI tp), .int cd, .ref (q 3), .ref (q 4), .ref (q 5), .ref (q 6), .ref (q 7), .ref (q 8), .ref (q 9), .ref (q 10), .ref (q 11), .ref (q 12), .ref (q 13), .ref (q 14), .ref (q 15), .int (nI kd), .int (nI rt), .int (nI fl), .long (lN tt), .ref (q 16), .ref (q 17)], cj B (q 3) 16 (va_cpy rtT ro 0 0 (min (ctN (k + 2)) 16)), cj B (q 4) 80 (va_cpy (s_l 8) cu 0 0 (ctN (k + 2))), cj B (q 5) 8 s2, cj B (q 6) 8 s5, cj B (q 7) 16 lm, cj B (q 8) 16 pd, cn B (q 9) 25 T, cj B (q 10) 24 rn, cj B (q 11) 25 S, cb B (q 15) 128 g, cj B (q 14) 80 w] rfl ?_
      refine g_if_neN (pc := 14) X (tgt := 20) d_O_constants_14 (by decide) (by omega) (fun h_14 => absurd h_14 (by omega)) (fun h_14 => ?_)
      refine g_goto (pc := 17) X (tgt := 53) d_O_constants_17 (by decide) ?_
      refine g_iincN (pc := 53) X (a := k + 2) (k + 3) d_O_constants_53 rfl 1 rfl (by omega) (by decide) ?_
      refine g_lv [(0, .ref a), (1, .int (nI (ctN (k + 2)))), (2, .int (nI (k + 3)))] rfl ?_
      refine g_goto (pc := 56) X (tgt := 4) d_O_constants_56 (by decide) ?_
      refine g_lv [(0, .ref a), (1, .int (nI (ctN (k + 2)))), (2, .int (nI (k + 3)))] rfl ?_
      refine g_lve [(0, .ref a), (1, .int (nI (ctN (k + 1 + 2)))), (2, .int (nI (k + 1 + 2)))] (by (rw [show k + 1 + 2 = k + 2 + 1 by omega]; first | rw [hc3 hpr] | rw [(hc2 hpr).2]) <;> rfl) ?_
      refine g_wsq [co a 4 [.ref (q 0), .ref (q 1), .ref (q 2), .int (nI tp), .int cd, .ref (q 3), .ref (q 4), .ref (q 5), .ref (q 6), .ref (q 7), .ref (q 8), .ref (q 9), .ref (q 10), .ref (q 11), .ref (q 12), .ref (q 13), .ref (q 14), .ref (q 15), .int (nI kd), .int (nI rt), .int (nI fl), .long (lN tt), .ref (q 16), .ref (q 17)], cj B (q 3) 16 (va_cpy rtT ro 0 0 (min (ctN (k + 1 + 2)) 16)), cj B (q 4) 80 (va_cpy (s_l 8) cu 0 0 (ctN (k + 1 + 2))), cj B (q 5) 8 s2, cj B (q 6) 8 s5, cj B (q 7) 16 lm, cj B (q 8) 16 pd, cn B (q 9) 25 T, cj B (q 10) 24 rn, cj B (q 11) 25 S, cb B (q 15) 128 g, cj B (q 14) 80 w] (by rw [show k + 1 + 2 = k + 2 + 1 by omega]; first | rw [hc3 hpr] | (rw [(hc2 hpr).2]; first | rw [ro_a _ (by omega), cu_a] | rw [← ro_b _ (by omega), cu_a])) ?_
      exact kk4 pd lm
    · refine g_callSi (pc := 11) X (c_O_prime_t (m_l M) B (k + 2) (dN (k + 2) - 2) (pr_0 (by omega) (by omega)) (pr_1 (by omega) (by omega)) (by omega) (pr_t (by omega) (by omega) hpr)) wd_748 wd_749 wd_5 wd_750 hd_O_prime [] rfl rfl [] (fun _ => rfl) rfl (by rw [hR]; decide) (by rw [hR]; decide) rfl (Nat.le_of_ble_eq_true rfl) d_O_constants_11 (fun r9 _ hr9 => ?_)
      subst hr9
      refine g_wsq [co a 4 [.ref (q 0), .ref (q 1), .ref (q 2), .int (nI tp), .int cd, .ref (q 3), .ref (q 4), .ref (q 5), .ref (q 6), .ref (q 7), .ref (q 8), .ref (q 9), .ref (q 10), .ref (q 11), .ref (q 12), .ref (q 13), .ref (q 14), .ref (q 15), .int (nI kd), .int (nI rt), .int (nI fl), .long (lN tt), .ref (q 16), .ref (q 17)], cj B (q 3) 16 (va_cpy rtT ro 0 0 (min (ctN (k + 2)) 16)), cj B (q 4) 80 (va_cpy (s_l 8) cu 0 0 (ctN (k + 2))), cj B (q 5) 8 s2, cj B (q 6) 8 s5, cj B (q 7) 16 lm, cj B (q 8) 16 pd, cn B (q 9) 25 T, cj B (q 10) 24 rn, cj B (q 11) 25 S, cb B (q 15) 128 g, cj B (q 14) 80 w] rfl ?_
      refine g_if_neN (pc := 14) X (tgt := 20) d_O_constants_14 (by decide) (by omega) (fun h_14 => ?_) (fun h_14 => absurd h_14 (by omega))
      refine g_iload_n (pc := 20) X (i := 1) d_O_constants_20 rfl rfl ?_
      refine g_bipush (pc := 21) X (v := nI 16) d_O_constants_21 (by decide) ?_
      refine g_icmp_geN (pc := 23) X (tgt := 38) d_O_constants_23 (by decide) (by omega) (by omega) (fun h_23 => ?_) (fun h_23 => ?_)
      · refine g_aload_n (pc := 38) X (i := 0) d_O_constants_38 rfl rfl ?_
        refine g_get (pc := 39) X in_O 0 rfl rfl 6 (by decide) wd_825 rfl d_O_constants_39 ?_
        refine g_iload_n (pc := 42) X (i := 1) d_O_constants_42 rfl rfl ?_
        refine g_aload_n (pc := 43) X (i := 0) d_O_constants_43 rfl rfl ?_
        refine g_iload_n (pc := 44) X (i := 2) d_O_constants_44 rfl rfl ?_
        refine g_iconst (pc := 45) X (v := nI 3) d_O_constants_45 (by decide) ?_
        refine g_callVl (pc := 46) (q0 := 0) X (c_O_root (m_l M) B a q tp kd rt fl tt cd (k + 2) 3 (w3N (ctN (k + 2)) - 1) (u64 (s_l 8 (ctN (k + 2)))) pd lm (Or.inr rfl) (by omega) (rt3' (by omega) (hc2 hpr).1) (w3' (by omega)) (u64_lt _)) wd_751 wd_753 wp_O_root wd_5 wd_754 hd_O_root [0, 6, 5] rfl rfl [a, q 8, q 7] (fun _ => rfl) rfl rfl rfl (by rw [hR]; decide) (by rw [hR]; decide) rfl (Nat.le_of_ble_eq_true rfl) d_O_constants_46 (fun r9 u46 hr9 => ?_)
        subst hr9
        refine g_wsq [co a 4 [.ref (q 0), .ref (q 1), .ref (q 2), .int (nI tp), .int cd, .ref (q 3), .ref (q 4), .ref (q 5), .ref (q 6), .ref (q 7), .ref (q 8), .ref (q 9), .ref (q 10), .ref (q 11), .ref (q 12), .ref (q 13), .ref (q 14), .ref (q 15), .int (nI kd), .int (nI rt), .int (nI fl), .long (lN tt), .ref (q 16), .ref (q 17)], cj B (q 3) 16 (va_cpy rtT ro 0 0 (min (ctN (k + 2)) 16)), cj B (q 4) 80 (va_cpy (s_l 8) cu 0 0 (ctN (k + 2))), cj B (q 5) 8 s2, cj B (q 6) 8 s5, cj B (q 7) 16 u46.2, cj B (q 8) 16 u46.1, cn B (q 9) 25 T, cj B (q 10) 24 rn, cj B (q 11) 25 S, cb B (q 15) 128 g, cj B (q 14) 80 w] rfl ?_
        refine g_setl (s_l 8 (ctN (k + 2))) (lN_u64 _) ?_
        refine g_last (pc := 49) X 2 rfl (ctN (k + 2)) rfl (by omega) (by omega) d_O_constants_49 ?_
        refine g_wsq [co a 4 [.ref (q 0), .ref (q 1), .ref (q 2), .int (nI tp), .int cd, .ref (q 3), .ref (q 4), .ref (q 5), .ref (q 6), .ref (q 7), .ref (q 8), .ref (q 9), .ref (q 10), .ref (q 11), .ref (q 12), .ref (q 13), .ref (q 14), .ref (q 15), .int (nI kd), .int (nI rt), .int (nI fl), .long (lN tt), .ref (q 16), .ref (q 17)], cj B (q 3) 16 (va_cpy rtT ro 0 0 (min (ctN (k + 2)) 16)), cj B (q 4) 80 (va_up (va_cpy (s_l 8) cu 0 0 (ctN (k + 2))) (ctN (k + 2)) (s_l 8 (ctN (k + 2)))), cj B (q 5) 8 s2, cj B (q 6) 8 s5, cj B (q 7) 16 u46.2, cj B (q 8) 16 u46.1, cn B (q 9) 25 T, cj B (q 10) 24 rn, cj B (q 11) 25 S, cb B (q 15) 128 g, cj B (q 14) 80 w] rfl ?_
        refine g_iincN (pc := 50) X (a := ctN (k + 2)) (ctN (k + 2) + 1) d_O_constants_50 rfl 1 rfl (by omega) (by decide) ?_
        refine g_lv [(0, .ref a), (1, .int (nI (ctN (k + 2) + 1))), (2, .int (nI (k + 2)))] rfl ?_
        refine g_iincN (pc := 53) X (a := k + 2) (k + 3) d_O_constants_53 rfl 1 rfl (by omega) (by decide) ?_
        refine g_lv [(0, .ref a), (1, .int (nI (ctN (k + 2) + 1))), (2, .int (nI (k + 3)))] rfl ?_
        refine g_goto (pc := 56) X (tgt := 4) d_O_constants_56 (by decide) ?_
        refine g_lv [(0, .ref a), (1, .int (nI (ctN (k + 2) + 1))), (2, .int (nI (k + 3)))] rfl ?_
        refine g_lve [(0, .ref a), (1, .int (nI (ctN (k + 1 + 2)))), (2, .int (nI (k + 1 + 2)))] (by (rw [show k + 1 + 2 = k + 2 + 1 by omega]; first | rw [hc3 hpr] | rw [(hc2 hpr).2]) <;> rfl) ?_
        refine g_wsq [co a 4 [.ref (q 0), .ref (q 1), .ref (q 2), .int (nI tp), .int cd, .ref (q 3), .ref (q 4), .ref (q 5), .ref (q 6), .ref (q 7), .ref (q 8), .ref (q 9), .ref (q 10), .ref (q 11), .ref (q 12), .ref (q 13), .ref (q 14), .ref (q 15), .int (nI kd), .int (nI rt), .int (nI fl), .long (lN tt), .ref (q 16), .ref (q 17)], cj B (q 3) 16 (va_cpy rtT ro 0 0 (min (ctN (k + 1 + 2)) 16)), cj B (q 4) 80 (va_cpy (s_l 8) cu 0 0 (ctN (k + 1 + 2))), cj B (q 5) 8 s2, cj B (q 6) 8 s5, cj B (q 7) 16 u46.2, cj B (q 8) 16 u46.1, cn B (q 9) 25 T, cj B (q 10) 24 rn, cj B (q 11) 25 S, cb B (q 15) 128 g, cj B (q 14) 80 w] (by rw [show k + 1 + 2 = k + 2 + 1 by omega]; first | rw [hc3 hpr] | (rw [(hc2 hpr).2]; first | rw [ro_a _ (by omega), cu_a] | rw [← ro_b _ (by omega), cu_a])) ?_
        exact kk4 u46.1 u46.2
      · refine g_aload_n (pc := 26) X (i := 0) d_O_constants_26 rfl rfl ?_
        refine g_get (pc := 27) X in_O 0 rfl rfl 5 (by decide) wd_824 rfl d_O_constants_27 ?_
        refine g_iload_n (pc := 30) X (i := 1) d_O_constants_30 rfl rfl ?_
        refine g_aload_n (pc := 31) X (i := 0) d_O_constants_31 rfl rfl ?_
        refine g_iload_n (pc := 32) X (i := 2) d_O_constants_32 rfl rfl ?_
        refine g_iconst (pc := 33) X (v := nI 2) d_O_constants_33 (by decide) ?_
        refine g_callVl (pc := 34) (q0 := 0) X (c_O_root (m_l M) B a q tp kd rt fl tt cd (k + 2) 2 (w2N (ctN (k + 2)) - 1) (u64 (rtT (ctN (k + 2)))) pd lm (Or.inl rfl) (by omega) (rt2' (by omega) (hc2 hpr).1) (w2' (by omega)) (u64_lt _)) wd_751 wd_753 wp_O_root wd_5 wd_754 hd_O_root [0, 6, 5] rfl rfl [a, q 8, q 7] (fun _ => rfl) rfl rfl rfl (by rw [hR]; decide) (by rw [hR]; decide) rfl (Nat.le_of_ble_eq_true rfl) d_O_constants_34 (fun r9 u34 hr9 => ?_)
        subst hr9
        refine g_wsq [co a 4 [.ref (q 0), .ref (q 1), .ref (q 2), .int (nI tp), .int cd, .ref (q 3), .ref (q 4), .ref (q 5), .ref (q 6), .ref (q 7), .ref (q 8), .ref (q 9), .ref (q 10), .ref (q 11), .ref (q 12), .ref (q 13), .ref (q 14), .ref (q 15), .int (nI kd), .int (nI rt), .int (nI fl), .long (lN tt), .ref (q 16), .ref (q 17)], cj B (q 3) 16 (va_cpy rtT ro 0 0 (min (ctN (k + 2)) 16)), cj B (q 4) 80 (va_cpy (s_l 8) cu 0 0 (ctN (k + 2))), cj B (q 5) 8 s2, cj B (q 6) 8 s5, cj B (q 7) 16 u34.2, cj B (q 8) 16 u34.1, cn B (q 9) 25 T, cj B (q 10) 24 rn, cj B (q 11) 25 S, cb B (q 15) 128 g, cj B (q 14) 80 w] rfl ?_
        refine g_setl (rtT (ctN (k + 2))) (lN_u64 _) ?_
        refine g_last (pc := 37) X 1 rfl (ctN (k + 2)) rfl (by omega) (by omega) d_O_constants_37 ?_
        refine g_wsq [co a 4 [.ref (q 0), .ref (q 1), .ref (q 2), .int (nI tp), .int cd, .ref (q 3), .ref (q 4), .ref (q 5), .ref (q 6), .ref (q 7), .ref (q 8), .ref (q 9), .ref (q 10), .ref (q 11), .ref (q 12), .ref (q 13), .ref (q 14), .ref (q 15), .int (nI kd), .int (nI rt), .int (nI fl), .long (lN tt), .ref (q 16), .ref (q 17)], cj B (q 3) 16 (va_up (va_cpy rtT ro 0 0 (min (ctN (k + 2)) 16)) (ctN (k + 2)) (rtT (ctN (k + 2)))), cj B (q 4) 80 (va_cpy (s_l 8) cu 0 0 (ctN (k + 2))), cj B (q 5) 8 s2, cj B (q 6) 8 s5, cj B (q 7) 16 u34.2, cj B (q 8) 16 u34.1, cn B (q 9) 25 T, cj B (q 10) 24 rn, cj B (q 11) 25 S, cb B (q 15) 128 g, cj B (q 14) 80 w] rfl ?_
        refine g_aload_n (pc := 38) X (i := 0) d_O_constants_38 rfl rfl ?_
        refine g_get (pc := 39) X in_O 0 rfl rfl 6 (by decide) wd_825 rfl d_O_constants_39 ?_
        refine g_iload_n (pc := 42) X (i := 1) d_O_constants_42 rfl rfl ?_
        refine g_aload_n (pc := 43) X (i := 0) d_O_constants_43 rfl rfl ?_
        refine g_iload_n (pc := 44) X (i := 2) d_O_constants_44 rfl rfl ?_
        refine g_iconst (pc := 45) X (v := nI 3) d_O_constants_45 (by decide) ?_
        refine g_callVl (pc := 46) (q0 := 0) X (c_O_root (m_l M) B a q tp kd rt fl tt cd (k + 2) 3 (w3N (ctN (k + 2)) - 1) (u64 (s_l 8 (ctN (k + 2)))) u34.1 u34.2 (Or.inr rfl) (by omega) (rt3' (by omega) (hc2 hpr).1) (w3' (by omega)) (u64_lt _)) wd_751 wd_753 wp_O_root wd_5 wd_754 hd_O_root [0, 6, 5] rfl rfl [a, q 8, q 7] (fun _ => rfl) rfl rfl rfl (by rw [hR]; decide) (by rw [hR]; decide) rfl (Nat.le_of_ble_eq_true rfl) d_O_constants_46 (fun r9 u46_1 hr9 => ?_)
        subst hr9
        refine g_wsq [co a 4 [.ref (q 0), .ref (q 1), .ref (q 2), .int (nI tp), .int cd, .ref (q 3), .ref (q 4), .ref (q 5), .ref (q 6), .ref (q 7), .ref (q 8), .ref (q 9), .ref (q 10), .ref (q 11), .ref (q 12), .ref (q 13), .ref (q 14), .ref (q 15), .int (nI kd), .int (nI rt), .int (nI fl), .long (lN tt), .ref (q 16), .ref (q 17)], cj B (q 3) 16 (va_up (va_cpy rtT ro 0 0 (min (ctN (k + 2)) 16)) (ctN (k + 2)) (rtT (ctN (k + 2)))), cj B (q 4) 80 (va_cpy (s_l 8) cu 0 0 (ctN (k + 2))), cj B (q 5) 8 s2, cj B (q 6) 8 s5, cj B (q 7) 16 u46_1.2, cj B (q 8) 16 u46_1.1, cn B (q 9) 25 T, cj B (q 10) 24 rn, cj B (q 11) 25 S, cb B (q 15) 128 g, cj B (q 14) 80 w] rfl ?_
        refine g_setl (s_l 8 (ctN (k + 2))) (lN_u64 _) ?_
        refine g_last (pc := 49) X 2 rfl (ctN (k + 2)) rfl (by omega) (by omega) d_O_constants_49 ?_
        refine g_wsq [co a 4 [.ref (q 0), .ref (q 1), .ref (q 2), .int (nI tp), .int cd, .ref (q 3), .ref (q 4), .ref (q 5), .ref (q 6), .ref (q 7), .ref (q 8), .ref (q 9), .ref (q 10), .ref (q 11), .ref (q 12), .ref (q 13), .ref (q 14), .ref (q 15), .int (nI kd), .int (nI rt), .int (nI fl), .long (lN tt), .ref (q 16), .ref (q 17)], cj B (q 3) 16 (va_up (va_cpy rtT ro 0 0 (min (ctN (k + 2)) 16)) (ctN (k + 2)) (rtT (ctN (k + 2)))), cj B (q 4) 80 (va_up (va_cpy (s_l 8) cu 0 0 (ctN (k + 2))) (ctN (k + 2)) (s_l 8 (ctN (k + 2)))), cj B (q 5) 8 s2, cj B (q 6) 8 s5, cj B (q 7) 16 u46_1.2, cj B (q 8) 16 u46_1.1, cn B (q 9) 25 T, cj B (q 10) 24 rn, cj B (q 11) 25 S, cb B (q 15) 128 g, cj B (q 14) 80 w] rfl ?_
        refine g_iincN (pc := 50) X (a := ctN (k + 2)) (ctN (k + 2) + 1) d_O_constants_50 rfl 1 rfl (by omega) (by decide) ?_
        refine g_lv [(0, .ref a), (1, .int (nI (ctN (k + 2) + 1))), (2, .int (nI (k + 2)))] rfl ?_
        refine g_iincN (pc := 53) X (a := k + 2) (k + 3) d_O_constants_53 rfl 1 rfl (by omega) (by decide) ?_
        refine g_lv [(0, .ref a), (1, .int (nI (ctN (k + 2) + 1))), (2, .int (nI (k + 3)))] rfl ?_
        refine g_goto (pc := 56) X (tgt := 4) d_O_constants_56 (by decide) ?_
        refine g_lv [(0, .ref a), (1, .int (nI (ctN (k + 2) + 1))), (2, .int (nI (k + 3)))] rfl ?_
        refine g_lve [(0, .ref a), (1, .int (nI (ctN (k + 1 + 2)))), (2, .int (nI (k + 1 + 2)))] (by (rw [show k + 1 + 2 = k + 2 + 1 by omega]; first | rw [hc3 hpr] | rw [(hc2 hpr).2]) <;> rfl) ?_
        refine g_wsq [co a 4 [.ref (q 0), .ref (q 1), .ref (q 2), .int (nI tp), .int cd, .ref (q 3), .ref (q 4), .ref (q 5), .ref (q 6), .ref (q 7), .ref (q 8), .ref (q 9), .ref (q 10), .ref (q 11), .ref (q 12), .ref (q 13), .ref (q 14), .ref (q 15), .int (nI kd), .int (nI rt), .int (nI fl), .long (lN tt), .ref (q 16), .ref (q 17)], cj B (q 3) 16 (va_cpy rtT ro 0 0 (min (ctN (k + 1 + 2)) 16)), cj B (q 4) 80 (va_cpy (s_l 8) cu 0 0 (ctN (k + 1 + 2))), cj B (q 5) 8 s2, cj B (q 6) 8 s5, cj B (q 7) 16 u46_1.2, cj B (q 8) 16 u46_1.1, cn B (q 9) 25 T, cj B (q 10) 24 rn, cj B (q 11) 25 S, cb B (q 15) 128 g, cj B (q 14) 80 w] (by rw [show k + 1 + 2 = k + 2 + 1 by omega]; first | rw [hc3 hpr] | (rw [(hc2 hpr).2]; first | rw [ro_a _ (by omega), cu_a] | rw [← ro_b _ (by omega), cu_a])) ?_
        exact kk4 u46_1.1 u46_1.2
  · intro pd lm
    show G B M 6 0 0 Q [co a 4 [.ref (q 0), .ref (q 1), .ref (q 2), .int (nI tp), .int cd, .ref (q 3), .ref (q 4), .ref (q 5), .ref (q 6), .ref (q 7), .ref (q 8), .ref (q 9), .ref (q 10), .ref (q 11), .ref (q 12), .ref (q 13), .ref (q 14), .ref (q 15), .int (nI kd), .int (nI rt), .int (nI fl), .long (lN tt), .ref (q 16), .ref (q 17)], cj B (q 3) 16 (va_cpy rtT ro 0 0 (min (ctN (408 + 2)) 16)), cj B (q 4) 80 (va_cpy (s_l 8) cu 0 0 (ctN (408 + 2))), cj B (q 5) 8 s2, cj B (q 6) 8 s5, cj B (q 7) 16 lm, cj B (q 8) 16 pd, cn B (q 9) 25 T, cj B (q 10) 24 rn, cj B (q 11) 25 S, cb B (q 15) 128 g, cj B (q 14) 80 w] [(0, .ref a), (1, .int (nI (ctN (408 + 2)))), (2, .int (nI (408 + 2)))] 4 []
    have h410 : ctN (408 + 2) = 80 := ct_410
    refine g_iload_n (pc := 4) X (i := 1) d_O_constants_4 rfl rfl ?_
    refine g_bipush (pc := 5) X (v := nI 80) d_O_constants_5 (by decide) ?_
    refine g_icmp_geN (pc := 7) X (tgt := 59) d_O_constants_7 (by decide) (by omega) (by omega) (fun h_7 => ?_) (fun h_7 => absurd h_7 (by omega))
    refine g_wsq [co a 4 [.ref (q 0), .ref (q 1), .ref (q 2), .int (nI tp), .int cd, .ref (q 3), .ref (q 4), .ref (q 5), .ref (q 6), .ref (q 7), .ref (q 8), .ref (q 9), .ref (q 10), .ref (q 11), .ref (q 12), .ref (q 13), .ref (q 14), .ref (q 15), .int (nI kd), .int (nI rt), .int (nI fl), .long (lN tt), .ref (q 16), .ref (q 17)], cj B (q 3) 16 (va_cpy rtT ro 0 0 16), cj B (q 4) 80 (va_cpy (s_l 8) cu 0 0 80), cj B (q 5) 8 s2, cj B (q 6) 8 s5, cj B (q 7) 16 lm, cj B (q 8) 16 pd, cn B (q 9) 25 T, cj B (q 10) 24 rn, cj B (q 11) 25 S, cb B (q 15) 128 g, cj B (q 14) 80 w] (by rw [show ctN (408 + 2) = 80 from ct_410] <;> rfl) ?_
    refine g_iconst (pc := 59) X (v := nI 1) d_O_constants_59 (by decide) ?_
    refine g_istore_n (pc := 60) X (i := 2) d_O_constants_60 rfl (by decide) ?_
    refine g_lv [(0, .ref a), (1, .int (nI (ctN (408 + 2)))), (2, .int (nI 1))] rfl ?_
    refine g_iconst (pc := 61) X (v := nI 0) d_O_constants_61 (by decide) ?_
    refine g_istore_n (pc := 62) X (i := 3) d_O_constants_62 rfl (by decide) ?_
    refine g_lv [(0, .ref a), (1, .int (nI (ctN (408 + 2)))), (2, .int (nI 1)), (3, .int (nI 0))] rfl ?_
    refine g_iconst (pc := 63) X (v := nI 0) d_O_constants_63 (by decide) ?_
    refine g_istore (pc := 64) X d_O_constants_64 (by decide) ?_
    refine g_lv [(0, .ref a), (1, .int (nI (ctN (408 + 2)))), (2, .int (nI 1)), (3, .int (nI 0)), (4, .int (nI 0))] rfl ?_
    refine g_lv [(0, .ref a), (2, .int (nI 1)), (3, .int (nI 0)), (4, .int (nI 0))] rfl ?_
    refine g_lve [(0, .ref a), (2, .int (nI (tuA 0))), (3, .int (nI (tuB 0))), (4, .int (nI 0))] (by rfl) ?_
    refine loopF (σ := Nat → Int32) tuF (fun t z => G B M 6 0 0 Q [co a 4 [.ref (q 0), .ref (q 1), .ref (q 2), .int (nI tp), .int cd, .ref (q 3), .ref (q 4), .ref (q 5), .ref (q 6), .ref (q 7), .ref (q 8), .ref (q 9), .ref (q 10), .ref (q 11), .ref (q 12), .ref (q 13), .ref (q 14), .ref (q 15), .int (nI kd), .int (nI rt), .int (nI fl), .long (lN tt), .ref (q 16), .ref (q 17)], cj B (q 3) 16 (va_cpy rtT ro 0 0 16), cj B (q 4) 80 (va_cpy (s_l 8) cu 0 0 80), cj B (q 5) 8 s2, cj B (q 6) 8 s5, cj B (q 7) 16 lm, cj B (q 8) 16 pd, cn B (q 9) 25 z, cj B (q 10) 24 rn, cj B (q 11) 25 S, cb B (q 15) 128 g, cj B (q 14) 80 w] [(0, .ref a), (2, .int (nI (tuA t))), (3, .int (nI (tuB t))), (4, .int (nI t))] 66 []) 24 T ?_ ?_
    · intro t z hk66 kk66
      obtain ⟨t1, t2, t3, t4⟩ := tu_st t (by omega)
      have hq9 : (t + 1) * (t + 2) ≤ 25 * 26 := Nat.mul_le_mul (by omega) (by omega)
      show G B M 6 0 0 Q [co a 4 [.ref (q 0), .ref (q 1), .ref (q 2), .int (nI tp), .int cd, .ref (q 3), .ref (q 4), .ref (q 5), .ref (q 6), .ref (q 7), .ref (q 8), .ref (q 9), .ref (q 10), .ref (q 11), .ref (q 12), .ref (q 13), .ref (q 14), .ref (q 15), .int (nI kd), .int (nI rt), .int (nI fl), .long (lN tt), .ref (q 16), .ref (q 17)], cj B (q 3) 16 (va_cpy rtT ro 0 0 16), cj B (q 4) 80 (va_cpy (s_l 8) cu 0 0 80), cj B (q 5) 8 s2, cj B (q 6) 8 s5, cj B (q 7) 16 lm, cj B (q 8) 16 pd, cn B (q 9) 25 z, cj B (q 10) 24 rn, cj B (q 11) 25 S, cb B (q 15) 128 g, cj B (q 14) 80 w] [(0, .ref a), (2, .int (nI (tuA t))), (3, .int (nI (tuB t))), (4, .int (nI t))] 66 []
      refine g_iload (pc := 66) X d_O_constants_66 rfl ?_
      refine g_bipush (pc := 68) X (v := nI 24) d_O_constants_68 (by decide) ?_
      refine g_icmp_geN (pc := 70) X (tgt := 119) d_O_constants_70 (by decide) (by omega) (by omega) (fun h_70 => absurd h_70 (by omega)) (fun h_70 => ?_)
      refine g_aload_n (pc := 73) X (i := 0) d_O_constants_73 rfl rfl ?_
      refine g_get (pc := 74) X in_O 0 rfl rfl 11 (by decide) wd_830 rfl d_O_constants_74 ?_
      refine g_iload_n (pc := 77) X (i := 2) d_O_constants_77 rfl rfl ?_
      refine g_iconst (pc := 78) X (v := nI 5) d_O_constants_78 (by decide) ?_
      refine g_iload_n (pc := 79) X (i := 3) d_O_constants_79 rfl rfl ?_
      refine g_imulN (pc := 80) X (5 * (tuB t)) rfl d_O_constants_80 ?_
      refine g_iaddN (pc := 81) X (tuA t + (5 * (tuB t))) (by omega) d_O_constants_81 ?_
      refine g_iload (pc := 82) X d_O_constants_82 rfl ?_
      refine g_iconst (pc := 84) X (v := nI 1) d_O_constants_84 (by decide) ?_
      refine g_iaddN (pc := 85) X (t + 1) (by omega) d_O_constants_85 ?_
      refine g_iload (pc := 86) X d_O_constants_86 rfl ?_
      refine g_iconst (pc := 88) X (v := nI 2) d_O_constants_88 (by decide) ?_
      refine g_iaddN (pc := 89) X (t + 2) (by omega) d_O_constants_89 ?_
      refine g_imulN (pc := 90) X ((t + 1) * (t + 2)) rfl d_O_constants_90 ?_
      refine g_iconst (pc := 91) X (v := nI 2) d_O_constants_91 (by decide) ?_
      refine g_idivN (pc := 92) X (((t + 1) * (t + 2)) / 2) (by omega) (by omega) (by omega) rfl d_O_constants_92 ?_
      refine g_bipush (pc := 93) X (v := nI 64) d_O_constants_93 (by decide) ?_
      refine g_iremN (pc := 95) X ((((t + 1) * (t + 2)) / 2) % 64) (by omega) (by omega) (by omega) rfl d_O_constants_95 ?_
      refine g_iast (pc := 96) X 7 rfl (tuA t + (5 * (tuB t))) rfl (by omega) (by omega) d_O_constants_96 ?_
      refine g_wsq [co a 4 [.ref (q 0), .ref (q 1), .ref (q 2), .int (nI tp), .int cd, .ref (q 3), .ref (q 4), .ref (q 5), .ref (q 6), .ref (q 7), .ref (q 8), .ref (q 9), .ref (q 10), .ref (q 11), .ref (q 12), .ref (q 13), .ref (q 14), .ref (q 15), .int (nI kd), .int (nI rt), .int (nI fl), .long (lN tt), .ref (q 16), .ref (q 17)], cj B (q 3) 16 (va_cpy rtT ro 0 0 16), cj B (q 4) 80 (va_cpy (s_l 8) cu 0 0 80), cj B (q 5) 8 s2, cj B (q 6) 8 s5, cj B (q 7) 16 lm, cj B (q 8) 16 pd, cn B (q 9) 25 (va_up z (tuA t + (5 * (tuB t))) (nI ((((t + 1) * (t + 2)) / 2) % 64))), cj B (q 10) 24 rn, cj B (q 11) 25 S, cb B (q 15) 128 g, cj B (q 14) 80 w] rfl ?_
      refine g_iconst (pc := 97) X (v := nI 2) d_O_constants_97 (by decide) ?_
      refine g_iload_n (pc := 98) X (i := 2) d_O_constants_98 rfl rfl ?_
      refine g_imulN (pc := 99) X (2 * (tuA t)) rfl d_O_constants_99 ?_
      refine g_iconst (pc := 100) X (v := nI 3) d_O_constants_100 (by decide) ?_
      refine g_iload_n (pc := 101) X (i := 3) d_O_constants_101 rfl rfl ?_
      refine g_imulN (pc := 102) X (3 * (tuB t)) rfl d_O_constants_102 ?_
      refine g_iaddN (pc := 103) X (2 * (tuA t) + (3 * (tuB t))) (by omega) d_O_constants_103 ?_
      refine g_iconst (pc := 104) X (v := nI 5) d_O_constants_104 (by decide) ?_
      refine g_iremN (pc := 105) X ((2 * (tuA t) + (3 * (tuB t))) % 5) (by omega) (by omega) (by omega) rfl d_O_constants_105 ?_
      refine g_istore (pc := 106) X d_O_constants_106 (by decide) ?_
      refine g_lv [(0, .ref a), (2, .int (nI (tuA t))), (3, .int (nI (tuB t))), (4, .int (nI t)), (5, .int (nI ((2 * (tuA t) + (3 * (tuB t))) % 5)))] rfl ?_
      refine g_iload_n (pc := 108) X (i := 3) d_O_constants_108 rfl rfl ?_
      refine g_istore_n (pc := 109) X (i := 2) d_O_constants_109 rfl (by decide) ?_
      refine g_lv [(0, .ref a), (2, .int (nI (tuB t))), (3, .int (nI (tuB t))), (4, .int (nI t)), (5, .int (nI ((2 * (tuA t) + (3 * (tuB t))) % 5)))] rfl ?_
      refine g_iload (pc := 110) X d_O_constants_110 rfl ?_
      refine g_istore_n (pc := 112) X (i := 3) d_O_constants_112 rfl (by decide) ?_
      refine g_lv [(0, .ref a), (2, .int (nI (tuB t))), (3, .int (nI ((2 * (tuA t) + (3 * (tuB t))) % 5))), (4, .int (nI t)), (5, .int (nI ((2 * (tuA t) + (3 * (tuB t))) % 5)))] rfl ?_
      refine g_iincN (pc := 113) X (a := t) (t + 1) d_O_constants_113 rfl 1 rfl (by omega) (by decide) ?_
      refine g_lv [(0, .ref a), (2, .int (nI (tuB t))), (3, .int (nI ((2 * (tuA t) + (3 * (tuB t))) % 5))), (4, .int (nI (t + 1))), (5, .int (nI ((2 * (tuA t) + (3 * (tuB t))) % 5)))] rfl ?_
      refine g_goto (pc := 116) X (tgt := 66) d_O_constants_116 (by decide) ?_
      refine g_lv [(0, .ref a), (2, .int (nI (tuB t))), (3, .int (nI ((2 * (tuA t) + (3 * (tuB t))) % 5))), (4, .int (nI (t + 1)))] rfl ?_
      refine g_lve [(0, .ref a), (2, .int (nI (tuA (t + 1)))), (3, .int (nI (tuB (t + 1)))), (4, .int (nI (t + 1)))] (by rw [t3, t4]) ?_
      exact kk66 _ (by rfl)
    · show G B M 6 0 0 Q [co a 4 [.ref (q 0), .ref (q 1), .ref (q 2), .int (nI tp), .int cd, .ref (q 3), .ref (q 4), .ref (q 5), .ref (q 6), .ref (q 7), .ref (q 8), .ref (q 9), .ref (q 10), .ref (q 11), .ref (q 12), .ref (q 13), .ref (q 14), .ref (q 15), .int (nI kd), .int (nI rt), .int (nI fl), .long (lN tt), .ref (q 16), .ref (q 17)], cj B (q 3) 16 (va_cpy rtT ro 0 0 16), cj B (q 4) 80 (va_cpy (s_l 8) cu 0 0 80), cj B (q 5) 8 s2, cj B (q 6) 8 s5, cj B (q 7) 16 lm, cj B (q 8) 16 pd, cn B (q 9) 25 (it tuF 24 T), cj B (q 10) 24 rn, cj B (q 11) 25 S, cb B (q 15) 128 g, cj B (q 14) 80 w] [(0, .ref a), (2, .int (nI (tuA 24))), (3, .int (nI (tuB 24))), (4, .int (nI 24))] 66 []
      refine g_iload (pc := 66) X d_O_constants_66 rfl ?_
      refine g_bipush (pc := 68) X (v := nI 24) d_O_constants_68 (by decide) ?_
      refine g_icmp_geN (pc := 70) X (tgt := 119) d_O_constants_70 (by decide) (by omega) (by omega) (fun h_70 => ?_) (fun h_70 => absurd h_70 (by omega))
      refine g_iconst (pc := 119) X (v := nI 0) d_O_constants_119 (by decide) ?_
      refine g_istore (pc := 120) X d_O_constants_120 (by decide) ?_
      refine g_lv [(0, .ref a), (2, .int (nI (tuA 24))), (3, .int (nI (tuB 24))), (4, .int (nI 0))] rfl ?_
      refine g_lv [(0, .ref a), (4, .int (nI 0))] rfl ?_
      refine loopF (σ := Nat → Int64) rdF (fun i R9 => G B M 6 0 0 Q [co a 4 [.ref (q 0), .ref (q 1), .ref (q 2), .int (nI tp), .int cd, .ref (q 3), .ref (q 4), .ref (q 5), .ref (q 6), .ref (q 7), .ref (q 8), .ref (q 9), .ref (q 10), .ref (q 11), .ref (q 12), .ref (q 13), .ref (q 14), .ref (q 15), .int (nI kd), .int (nI rt), .int (nI fl), .long (lN tt), .ref (q 16), .ref (q 17)], cj B (q 3) 16 (va_cpy rtT ro 0 0 16), cj B (q 4) 80 (va_cpy (s_l 8) cu 0 0 80), cj B (q 5) 8 s2, cj B (q 6) 8 s5, cj B (q 7) 16 lm, cj B (q 8) 16 pd, cn B (q 9) 25 (it tuF 24 T), cj B (q 10) 24 R9, cj B (q 11) 25 S, cb B (q 15) 128 g, cj B (q 14) 80 w] [(0, .ref a), (4, .int (nI i))] 122 []) 24 rn ?_ ?_
      · intro i R9 hk122 kk122
        show G B M 6 0 0 Q [co a 4 [.ref (q 0), .ref (q 1), .ref (q 2), .int (nI tp), .int cd, .ref (q 3), .ref (q 4), .ref (q 5), .ref (q 6), .ref (q 7), .ref (q 8), .ref (q 9), .ref (q 10), .ref (q 11), .ref (q 12), .ref (q 13), .ref (q 14), .ref (q 15), .int (nI kd), .int (nI rt), .int (nI fl), .long (lN tt), .ref (q 16), .ref (q 17)], cj B (q 3) 16 (va_cpy rtT ro 0 0 16), cj B (q 4) 80 (va_cpy (s_l 8) cu 0 0 80), cj B (q 5) 8 s2, cj B (q 6) 8 s5, cj B (q 7) 16 lm, cj B (q 8) 16 pd, cn B (q 9) 25 (it tuF 24 T), cj B (q 10) 24 R9, cj B (q 11) 25 S, cb B (q 15) 128 g, cj B (q 14) 80 w] [(0, .ref a), (4, .int (nI i))] 122 []
        refine g_iload (pc := 122) X d_O_constants_122 rfl ?_
        refine g_bipush (pc := 124) X (v := nI 24) d_O_constants_124 (by decide) ?_
        refine g_icmp_geN (pc := 126) X (tgt := 184) d_O_constants_126 (by decide) (by omega) (by omega) (fun h_126 => absurd h_126 (by omega)) (fun h_126 => ?_)
        refine g_iconst (pc := 129) X (v := nI 0) d_O_constants_129 (by decide) ?_
        refine g_istore (pc := 130) X d_O_constants_130 (by decide) ?_
        refine g_lv [(0, .ref a), (4, .int (nI i)), (5, .int (nI 0))] rfl ?_
        refine g_lv [(0, .ref a), (4, .int (nI i)), (5, .int (nI 0))] rfl ?_
        refine loopF (σ := Nat → Int64) (rdI i) (fun j R2 => G B M 6 0 0 Q [co a 4 [.ref (q 0), .ref (q 1), .ref (q 2), .int (nI tp), .int cd, .ref (q 3), .ref (q 4), .ref (q 5), .ref (q 6), .ref (q 7), .ref (q 8), .ref (q 9), .ref (q 10), .ref (q 11), .ref (q 12), .ref (q 13), .ref (q 14), .ref (q 15), .int (nI kd), .int (nI rt), .int (nI fl), .long (lN tt), .ref (q 16), .ref (q 17)], cj B (q 3) 16 (va_cpy rtT ro 0 0 16), cj B (q 4) 80 (va_cpy (s_l 8) cu 0 0 80), cj B (q 5) 8 s2, cj B (q 6) 8 s5, cj B (q 7) 16 lm, cj B (q 8) 16 pd, cn B (q 9) 25 (it tuF 24 T), cj B (q 10) 24 R2, cj B (q 11) 25 S, cb B (q 15) 128 g, cj B (q 14) 80 w] [(0, .ref a), (4, .int (nI i)), (5, .int (nI j))] 132 []) 7 R9 ?_ ?_
        · intro j R2 hk132 kk132
          show G B M 6 0 0 Q [co a 4 [.ref (q 0), .ref (q 1), .ref (q 2), .int (nI tp), .int cd, .ref (q 3), .ref (q 4), .ref (q 5), .ref (q 6), .ref (q 7), .ref (q 8), .ref (q 9), .ref (q 10), .ref (q 11), .ref (q 12), .ref (q 13), .ref (q 14), .ref (q 15), .int (nI kd), .int (nI rt), .int (nI fl), .long (lN tt), .ref (q 16), .ref (q 17)], cj B (q 3) 16 (va_cpy rtT ro 0 0 16), cj B (q 4) 80 (va_cpy (s_l 8) cu 0 0 80), cj B (q 5) 8 s2, cj B (q 6) 8 s5, cj B (q 7) 16 lm, cj B (q 8) 16 pd, cn B (q 9) 25 (it tuF 24 T), cj B (q 10) 24 R2, cj B (q 11) 25 S, cb B (q 15) 128 g, cj B (q 14) 80 w] [(0, .ref a), (4, .int (nI i)), (5, .int (nI j))] 132 []
          refine g_iload (pc := 132) X d_O_constants_132 rfl ?_
          refine g_bipush (pc := 134) X (v := nI 6) d_O_constants_134 (by decide) ?_
          refine g_icmp_gtN (pc := 136) X (tgt := 178) d_O_constants_136 (by decide) (by omega) (by omega) (fun h_136 => absurd h_136 (by omega)) (fun h_136 => ?_)
          refine g_iload (pc := 139) X d_O_constants_139 rfl ?_
          refine g_bipush (pc := 141) X (v := nI 7) d_O_constants_141 (by decide) ?_
          refine g_iload (pc := 143) X d_O_constants_143 rfl ?_
          refine g_imulN (pc := 145) X (7 * i) rfl d_O_constants_145 ?_
          refine g_iaddN (pc := 146) X (j + (7 * i)) (by omega) d_O_constants_146 ?_
          refine g_callSi (pc := 147) X (c_O_bit (m_l M) B (j + (7 * i)) (by omega)) wd_760 wd_761 wd_5 wd_762 hd_O_bit [] rfl rfl [] (fun _ => rfl) rfl (by rw [hR]; decide) (by rw [hR]; decide) rfl (Nat.le_of_ble_eq_true rfl) d_O_constants_147 (fun r9 _ hr9 => ?_)
          subst hr9
          refine g_wsq [co a 4 [.ref (q 0), .ref (q 1), .ref (q 2), .int (nI tp), .int cd, .ref (q 3), .ref (q 4), .ref (q 5), .ref (q 6), .ref (q 7), .ref (q 8), .ref (q 9), .ref (q 10), .ref (q 11), .ref (q 12), .ref (q 13), .ref (q 14), .ref (q 15), .int (nI kd), .int (nI rt), .int (nI fl), .long (lN tt), .ref (q 16), .ref (q 17)], cj B (q 3) 16 (va_cpy rtT ro 0 0 16), cj B (q 4) 80 (va_cpy (s_l 8) cu 0 0 80), cj B (q 5) 8 s2, cj B (q 6) 8 s5, cj B (q 7) 16 lm, cj B (q 8) 16 pd, cn B (q 9) 25 (it tuF 24 T), cj B (q 10) 24 R2, cj B (q 11) 25 S, cb B (q 15) 128 g, cj B (q 14) 80 w] rfl ?_
          refine g_iconst (pc := 150) X (v := nI 1) d_O_constants_150 (by decide) ?_
          refine g_icmp_ne (pc := 151) X (tgt := 172) d_O_constants_151 (by decide) (fun h_151 => ?_) (fun h_151 => ?_)
          · refine g_iincN (pc := 172) X (a := j) (j + 1) d_O_constants_172 rfl 1 rfl (by omega) (by decide) ?_
            refine g_lv [(0, .ref a), (4, .int (nI i)), (5, .int (nI (j + 1)))] rfl ?_
            refine g_goto (pc := 175) X (tgt := 132) d_O_constants_175 (by decide) ?_
            refine g_lv [(0, .ref a), (4, .int (nI i)), (5, .int (nI (j + 1)))] rfl ?_
            exact kk132 _ (by unfold rdI; first | rw [if_pos (by assumption)] | rw [if_neg (by assumption)])
          · refine g_aload_n (pc := 154) X (i := 0) d_O_constants_154 rfl rfl ?_
            refine g_get (pc := 155) X in_O 0 rfl rfl 12 (by decide) wd_831 rfl d_O_constants_155 ?_
            refine g_iload (pc := 158) X d_O_constants_158 rfl ?_
            refine g_dup2_11 (pc := 160) X d_O_constants_160 rfl rfl ?_
            refine g_lald (pc := 161) X 8 rfl i rfl (by omega) (by omega) d_O_constants_161 ?_
            refine g_lconst (pc := 162) X (v := 1) d_O_constants_162 (by decide) ?_
            refine g_iconst (pc := 163) X (v := nI 1) d_O_constants_163 (by decide) ?_
            refine g_iload (pc := 164) X d_O_constants_164 rfl ?_
            refine g_ishl (pc := 166) X d_O_constants_166 ?_
            refine g_iconst (pc := 167) X (v := nI 1) d_O_constants_167 (by decide) ?_
            refine g_isub (pc := 168) X d_O_constants_168 ?_
            refine g_lshl (pc := 169) X (v := lshl 1 (((nI 1) <<< ((nI j) &&& 31)) - (nI 1))) d_O_constants_169 rfl ?_
            refine g_lor (pc := 170) X d_O_constants_170 ?_
            refine g_last (pc := 171) X 8 rfl i rfl (by omega) (by omega) d_O_constants_171 ?_
            refine g_wsq [co a 4 [.ref (q 0), .ref (q 1), .ref (q 2), .int (nI tp), .int cd, .ref (q 3), .ref (q 4), .ref (q 5), .ref (q 6), .ref (q 7), .ref (q 8), .ref (q 9), .ref (q 10), .ref (q 11), .ref (q 12), .ref (q 13), .ref (q 14), .ref (q 15), .int (nI kd), .int (nI rt), .int (nI fl), .long (lN tt), .ref (q 16), .ref (q 17)], cj B (q 3) 16 (va_cpy rtT ro 0 0 16), cj B (q 4) 80 (va_cpy (s_l 8) cu 0 0 80), cj B (q 5) 8 s2, cj B (q 6) 8 s5, cj B (q 7) 16 lm, cj B (q 8) 16 pd, cn B (q 9) 25 (it tuF 24 T), cj B (q 10) 24 (va_up R2 i ((R2 i) ||| (lshl 1 (((nI 1) <<< ((nI j) &&& 31)) - (nI 1))))), cj B (q 11) 25 S, cb B (q 15) 128 g, cj B (q 14) 80 w] rfl ?_
            refine g_iincN (pc := 172) X (a := j) (j + 1) d_O_constants_172 rfl 1 rfl (by omega) (by decide) ?_
            refine g_lv [(0, .ref a), (4, .int (nI i)), (5, .int (nI (j + 1)))] rfl ?_
            refine g_goto (pc := 175) X (tgt := 132) d_O_constants_175 (by decide) ?_
            refine g_lv [(0, .ref a), (4, .int (nI i)), (5, .int (nI (j + 1)))] rfl ?_
            exact kk132 _ (by unfold rdI; first | rw [if_pos (by assumption)] | rw [if_neg (by assumption)])
        · show G B M 6 0 0 Q [co a 4 [.ref (q 0), .ref (q 1), .ref (q 2), .int (nI tp), .int cd, .ref (q 3), .ref (q 4), .ref (q 5), .ref (q 6), .ref (q 7), .ref (q 8), .ref (q 9), .ref (q 10), .ref (q 11), .ref (q 12), .ref (q 13), .ref (q 14), .ref (q 15), .int (nI kd), .int (nI rt), .int (nI fl), .long (lN tt), .ref (q 16), .ref (q 17)], cj B (q 3) 16 (va_cpy rtT ro 0 0 16), cj B (q 4) 80 (va_cpy (s_l 8) cu 0 0 80), cj B (q 5) 8 s2, cj B (q 6) 8 s5, cj B (q 7) 16 lm, cj B (q 8) 16 pd, cn B (q 9) 25 (it tuF 24 T), cj B (q 10) 24 (it (rdI i) 7 R9), cj B (q 11) 25 S, cb B (q 15) 128 g, cj B (q 14) 80 w] [(0, .ref a), (4, .int (nI i)), (5, .int (nI 7))] 132 []
          refine g_iload (pc := 132) X d_O_constants_132 rfl ?_
          refine g_bipush (pc := 134) X (v := nI 6) d_O_constants_134 (by decide) ?_
          refine g_icmp_gtN (pc := 136) X (tgt := 178) d_O_constants_136 (by decide) (by omega) (by omega) (fun h_136 => ?_) (fun h_136 => absurd h_136 (by omega))
          refine g_iincN (pc := 178) X (a := i) (i + 1) d_O_constants_178 rfl 1 rfl (by omega) (by decide) ?_
          refine g_lv [(0, .ref a), (4, .int (nI (i + 1))), (5, .int (nI 7))] rfl ?_
          refine g_goto (pc := 181) X (tgt := 122) d_O_constants_181 (by decide) ?_
          refine g_lv [(0, .ref a), (4, .int (nI (i + 1)))] rfl ?_
          exact kk122 _ (by rfl)
      · show G B M 6 0 0 Q [co a 4 [.ref (q 0), .ref (q 1), .ref (q 2), .int (nI tp), .int cd, .ref (q 3), .ref (q 4), .ref (q 5), .ref (q 6), .ref (q 7), .ref (q 8), .ref (q 9), .ref (q 10), .ref (q 11), .ref (q 12), .ref (q 13), .ref (q 14), .ref (q 15), .int (nI kd), .int (nI rt), .int (nI fl), .long (lN tt), .ref (q 16), .ref (q 17)], cj B (q 3) 16 (va_cpy rtT ro 0 0 16), cj B (q 4) 80 (va_cpy (s_l 8) cu 0 0 80), cj B (q 5) 8 s2, cj B (q 6) 8 s5, cj B (q 7) 16 lm, cj B (q 8) 16 pd, cn B (q 9) 25 (it tuF 24 T), cj B (q 10) 24 (it rdF 24 rn), cj B (q 11) 25 S, cb B (q 15) 128 g, cj B (q 14) 80 w] [(0, .ref a), (4, .int (nI 24))] 122 []
        refine g_iload (pc := 122) X d_O_constants_122 rfl ?_
        refine g_bipush (pc := 124) X (v := nI 24) d_O_constants_124 (by decide) ?_
        refine g_icmp_geN (pc := 126) X (tgt := 184) d_O_constants_126 (by decide) (by omega) (by omega) (fun h_126 => ?_) (fun h_126 => absurd h_126 (by omega))
        refine g_aload_n (pc := 184) X (i := 0) d_O_constants_184 rfl rfl ?_
        refine g_aload_n (pc := 185) X (i := 0) d_O_constants_185 rfl rfl ?_
        refine g_get (pc := 186) X in_O 0 rfl rfl 7 (by decide) wd_826 rfl d_O_constants_186 ?_
        refine g_bipush (pc := 189) X (v := nI 50) d_O_constants_189 (by decide) ?_
        refine g_bipush (pc := 191) X (v := nI 52) d_O_constants_191 (by decide) ?_
        refine g_callVv (pc := 193) (q0 := 0) X (c_O_named_x (m_l M) B a q tp kd rt fl tt cd S g w (va_cpy (s_l 8) cu 0 0 80) (va_cpy rtT ro 0 0 16) s2 s5 (cpy_at _ _ _) (fun i hi => (cpy_at rtT ro 16 i (by omega)).trans (ro_4 hi))) wd_763 wd_765 wp_O_named wd_5 wd_766 hd_O_named [0, 9, 10, 11, 2, 1, 3, 4] rfl rfl [a, q 11, q 15, q 14, q 4, q 3, q 5, q 6] (fun _ => rfl) rfl rfl rfl (by rw [hR]; decide) (by rw [hR]; decide) rfl (Nat.le_of_ble_eq_true rfl) d_O_constants_193 (fun u193 _ => ?_)
        refine g_wsq [co a 4 [.ref (q 0), .ref (q 1), .ref (q 2), .int (nI tp), .int cd, .ref (q 3), .ref (q 4), .ref (q 5), .ref (q 6), .ref (q 7), .ref (q 8), .ref (q 9), .ref (q 10), .ref (q 11), .ref (q 12), .ref (q 13), .ref (q 14), .ref (q 15), .int (nI 3), .int (nI (rtN 3)), .int (nI u193.1.2.1), .long (lN u193.2), .ref (q 16), .ref (q 17)], cj B (q 3) 16 (va_cpy rtT ro 0 0 16), cj B (q 4) 80 (va_cpy (s_l 8) cu 0 0 80), cj B (q 5) 8 (va_cpy (s_l 6) s2 0 0 8), cj B (q 6) 8 s5, cj B (q 7) 16 lm, cj B (q 8) 16 pd, cn B (q 9) 25 (it tuF 24 T), cj B (q 10) 24 (it rdF 24 rn), cj B (q 11) 25 u193.1.2.2.1, cb B (q 15) 128 u193.1.1, cj B (q 14) 80 u193.1.2.2.2] rfl ?_
        refine g_aload_n (pc := 196) X (i := 0) d_O_constants_196 rfl rfl ?_
        refine g_aload_n (pc := 197) X (i := 0) d_O_constants_197 rfl rfl ?_
        refine g_get (pc := 198) X in_O 0 rfl rfl 8 (by decide) wd_827 rfl d_O_constants_198 ?_
        refine g_bipush (pc := 201) X (v := nI 53) d_O_constants_201 (by decide) ?_
        refine g_bipush (pc := 203) X (v := nI 54) d_O_constants_203 (by decide) ?_
        refine g_callVv (pc := 205) (q0 := 0) X (c_O_named_y (m_l M) B a q tp 3 (rtN 3) u193.1.2.1 u193.2 cd u193.1.2.2.1 u193.1.1 u193.1.2.2.2 (va_cpy (s_l 8) cu 0 0 80) (va_cpy rtT ro 0 0 16) (va_cpy (s_l 6) s2 0 0 8) s5 (cpy_at _ _ _) (fun i hi => (cpy_at rtT ro 16 i (by omega)).trans (ro_4 hi))) wd_763 wd_765 wp_O_named wd_5 wd_766 hd_O_named [0, 9, 10, 11, 2, 1, 3, 4] rfl rfl [a, q 11, q 15, q 14, q 4, q 3, q 5, q 6] (fun _ => rfl) rfl rfl rfl (by rw [hR]; decide) (by rw [hR]; decide) rfl (Nat.le_of_ble_eq_true rfl) d_O_constants_205 (fun u205 _ => ?_)
        refine g_wsq [co a 4 [.ref (q 0), .ref (q 1), .ref (q 2), .int (nI tp), .int cd, .ref (q 3), .ref (q 4), .ref (q 5), .ref (q 6), .ref (q 7), .ref (q 8), .ref (q 9), .ref (q 10), .ref (q 11), .ref (q 12), .ref (q 13), .ref (q 14), .ref (q 15), .int (nI 3), .int (nI (rtN 3)), .int (nI u205.1.2.1), .long (lN u205.2), .ref (q 16), .ref (q 17)], cj B (q 3) 16 (va_cpy rtT ro 0 0 16), cj B (q 4) 80 (va_cpy (s_l 8) cu 0 0 80), cj B (q 5) 8 (va_cpy (s_l 6) s2 0 0 8), cj B (q 6) 8 (va_cpy (s_l 7) s5 0 0 8), cj B (q 7) 16 lm, cj B (q 8) 16 pd, cn B (q 9) 25 (it tuF 24 T), cj B (q 10) 24 (it rdF 24 rn), cj B (q 11) 25 u205.1.2.2.1, cb B (q 15) 128 u205.1.1, cj B (q 14) 80 u205.1.2.2.2] rfl ?_
        exact kret (u205, pd, lm) _ 208 trivial d_O_constants_208
