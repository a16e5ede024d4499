theorem c_O_root (l : Launch) (B : Bx) (a : Nat) (q : Nat → Nat) (tp : Nat) (kd : Nat) (rt : Nat) (fl : Nat) (tt : Nat) (cd : Int32) (n : Nat) (p : Nat) (w : Nat) (P : Nat) (pd : Nat → Int64) (lm : Nat → Int64) (hp : p = 2 ∨ p = 3) (hn : n < 410) (hR9 : isRt n p (w + 1) P) (hW : w + 1 < 30) (hP : P < 2 ^ 64) : Cl (S := LPP) l B y_O_root b_O_root 7 (Rm 2 0 0) [.ref a, .int (nI n), .int (nI p)] [co a 4 [.ref (q 0), .ref (q 1), .ref (q 2), .int (nI tp), .int cd, .ref (q 3), .ref (q 4), .ref (q 5), .ref (q 6), .ref (q 7), .ref (q 8), .ref (q 9), .ref (q 10), .ref (q 11), .ref (q 12), .ref (q 13), .ref (q 14), .ref (q 15), .int (nI kd), .int (nI rt), .int (nI fl), .long (lN tt), .ref (q 16), .ref (q 17)], cj B (q 8) 16 pd, cj B (q 7) 16 lm] (fun r _ => r = lN P) (fun u => [co a 4 [.ref (q 0), .ref (q 1), .ref (q 2), .int (nI tp), .int cd, .ref (q 3), .ref (q 4), .ref (q 5), .ref (q 6), .ref (q 7), .ref (q 8), .ref (q 9), .ref (q 10), .ref (q 11), .ref (q 12), .ref (q 13), .ref (q 14), .ref (q 15), .int (nI kd), .int (nI rt), .int (nI fl), .long (lN tt), .ref (q 16), .ref (q 17)], cj B (q 8) 16 u.1, cj B (q 7) 16 u.2]) := by
  refine ctr_l (by decide) (Nat.le_of_ble_eq_true rfl) ?_
  intro M Q hl hR hin X kret
  subst hl
  refine g_lv [(0, .ref a), (1, .int (nI n)), (2, .int (nI p))] rfl ?_
  refine g_iconst (pc := 0) X (v := nI 1) d_O_root_0 (by decide) ?_
  refine g_istore_n (pc := 1) X (i := 3) d_O_root_1 rfl (by decide) ?_
  refine g_lv [(0, .ref a), (1, .int (nI n)), (2, .int (nI p)), (3, .int (nI 1))] rfl ?_
  refine g_lv [(0, .ref a), (1, .int (nI n)), (2, .int (nI p)), (3, .int (nI 1))] rfl ?_
  refine g_wsq [co a 4 [.ref (q 0), .ref (q 1), .ref (q 2), .int (nI tp), .int cd, .ref (q 3), .ref (q 4), .ref (q 5), .ref (q 6), .ref (q 7), .ref (q 8), .ref (q 9), .ref (q 10), .ref (q 11), .ref (q 12), .ref (q 13), .ref (q 14), .ref (q 15), .int (nI kd), .int (nI rt), .int (nI fl), .long (lN tt), .ref (q 16), .ref (q 17)], cj B (q 8) 16 pd, cj B (q 7) 16 lm] (by rfl) ?_
  refine loopK (fun k => ∀ (pd : Nat → Int64) (lm : Nat → Int64), G B M 7 0 0 Q [co a 4 [.ref (q 0), .ref (q 1), .ref (q 2), .int (nI tp), .int cd, .ref (q 3), .ref (q 4), .ref (q 5), .ref (q 6), .ref (q 7), .ref (q 8), .ref (q 9), .ref (q 10), .ref (q 11), .ref (q 12), .ref (q 13), .ref (q 14), .ref (q 15), .int (nI kd), .int (nI rt), .int (nI fl), .long (lN tt), .ref (q 16), .ref (q 17)], cj B (q 8) 16 pd, cj B (q 7) 16 lm] [(0, .ref a), (1, .int (nI n)), (2, .int (nI p)), (3, .int (nI (k + 1)))] 2 []) w ?_ ?_ pd lm
  · intro k hk2 kk2 pd lm
    have hz := isRt_lo hR9 (k + 2) (by omega)
    show G B M 7 0 0 Q [co a 4 [.ref (q 0), .ref (q 1), .ref (q 2), .int (nI tp), .int cd, .ref (q 3), .ref (q 4), .ref (q 5), .ref (q 6), .ref (q 7), .ref (q 8), .ref (q 9), .ref (q 10), .ref (q 11), .ref (q 12), .ref (q 13), .ref (q 14), .ref (q 15), .int (nI kd), .int (nI rt), .int (nI fl), .long (lN tt), .ref (q 16), .ref (q 17)], cj B (q 8) 16 pd, cj B (q 7) 16 lm] [(0, .ref a), (1, .int (nI n)), (2, .int (nI p)), (3, .int (nI (k + 1)))] 2 []
    refine g_aload_n (pc := 2) X (i := 0) d_O_root_2 rfl rfl ?_
    refine g_iload_n (pc := 3) X (i := 3) d_O_root_3 rfl rfl ?_
    refine g_iconst (pc := 4) X (v := nI 1) d_O_root_4 (by decide) ?_
    refine g_iaddN (pc := 5) X (k + 2) (by omega) d_O_root_5 ?_
    refine g_lconst (pc := 6) X (v := 0) d_O_root_6 (by decide) ?_
    refine g_setl (lN 0) rfl ?_
    refine g_iload_n (pc := 7) X (i := 2) d_O_root_7 rfl rfl ?_
    refine g_iload_n (pc := 8) X (i := 1) d_O_root_8 rfl rfl ?_
    refine g_callVi (pc := 9) (q0 := 0) X (c_O_above (m_l M) B a q tp kd rt fl tt cd (k + 2) 0 p n pd lm (by omega) (by omega) hp (by omega)) wd_755 wd_757 wp_O_above wd_5 wd_758 hd_O_above [0, 1, 2] rfl rfl [a, q 8, q 7] (fun _ => rfl) rfl rfl rfl (by rw [hR]; decide) (by rw [hR]; decide) rfl (Nat.le_of_ble_eq_true rfl) d_O_root_9 (fun r9 u9 hr9 => ?_)
    subst hr9
    refine g_wsq [co a 4 [.ref (q 0), .ref (q 1), .ref (q 2), .int (nI tp), .int cd, .ref (q 3), .ref (q 4), .ref (q 5), .ref (q 6), .ref (q 7), .ref (q 8), .ref (q 9), .ref (q 10), .ref (q 11), .ref (q 12), .ref (q 13), .ref (q 14), .ref (q 15), .int (nI kd), .int (nI rt), .int (nI fl), .long (lN tt), .ref (q 16), .ref (q 17)], cj B (q 8) 16 u9.1, cj B (q 7) 16 u9.2] rfl ?_
    refine g_if_neN (pc := 12) X (tgt := 21) d_O_root_12 (by decide) (by omega) (fun h_12 => absurd h_12 (by omega)) (fun h_12 => ?_)
    refine g_iincN (pc := 15) X (a := k + 1) (k + 2) d_O_root_15 rfl 1 rfl (by omega) (by decide) ?_
    refine g_lv [(0, .ref a), (1, .int (nI n)), (2, .int (nI p)), (3, .int (nI (k + 2)))] rfl ?_
    refine g_goto (pc := 18) X (tgt := 2) d_O_root_18 (by decide) ?_
    refine g_lv [(0, .ref a), (1, .int (nI n)), (2, .int (nI p)), (3, .int (nI (k + 2)))] rfl ?_
    refine g_wsq [co a 4 [.ref (q 0), .ref (q 1), .ref (q 2), .int (nI tp), .int cd, .ref (q 3), .ref (q 4), .ref (q 5), .ref (q 6), .ref (q 7), .ref (q 8), .ref (q 9), .ref (q 10), .ref (q 11), .ref (q 12), .ref (q 13), .ref (q 14), .ref (q 15), .int (nI kd), .int (nI rt), .int (nI fl), .long (lN tt), .ref (q 16), .ref (q 17)], cj B (q 8) 16 u9.1, cj B (q 7) 16 u9.2] (by rfl) ?_
    exact kk2 u9.1 u9.2
  · intro pd lm
    show G B M 7 0 0 Q [co a 4 [.ref (q 0), .ref (q 1), .ref (q 2), .int (nI tp), .int cd, .ref (q 3), .ref (q 4), .ref (q 5), .ref (q 6), .ref (q 7), .ref (q 8), .ref (q 9), .ref (q 10), .ref (q 11), .ref (q 12), .ref (q 13), .ref (q 14), .ref (q 15), .int (nI kd), .int (nI rt), .int (nI fl), .long (lN tt), .ref (q 16), .ref (q 17)], cj B (q 8) 16 pd, cj B (q 7) 16 lm] [(0, .ref a), (1, .int (nI n)), (2, .int (nI p)), (3, .int (nI (w + 1)))] 2 []
    have hz : ab (w + 2) 0 p n = 1 := isRt_hi hR9
    refine g_aload_n (pc := 2) X (i := 0) d_O_root_2 rfl rfl ?_
    refine g_iload_n (pc := 3) X (i := 3) d_O_root_3 rfl rfl ?_
    refine g_iconst (pc := 4) X (v := nI 1) d_O_root_4 (by decide) ?_
    refine g_iaddN (pc := 5) X (w + 2) (by omega) d_O_root_5 ?_
    refine g_lconst (pc := 6) X (v := 0) d_O_root_6 (by decide) ?_
    refine g_setl (lN 0) rfl ?_
    refine g_iload_n (pc := 7) X (i := 2) d_O_root_7 rfl rfl ?_
    refine g_iload_n (pc := 8) X (i := 1) d_O_root_8 rfl rfl ?_
    refine g_callVi (pc := 9) (q0 := 0) X (c_O_above (m_l M) B a q tp kd rt fl tt cd (w + 2) 0 p n pd lm (by omega) (by omega) hp (by omega)) wd_755 wd_757 wp_O_above wd_5 wd_758 hd_O_above [0, 1, 2] rfl rfl [a, q 8, q 7] (fun _ => rfl) rfl rfl rfl (by rw [hR]; decide) (by rw [hR]; decide) rfl (Nat.le_of_ble_eq_true rfl) d_O_root_9 (fun r9 u9_1 hr9 => ?_)
    subst hr9
    refine g_wsq [co a 4 [.ref (q 0), .ref (q 1), .ref (q 2), .int (nI tp), .int cd, .ref (q 3), .ref (q 4), .ref (q 5), .ref (q 6), .ref (q 7), .ref (q 8), .ref (q 9), .ref (q 10), .ref (q 11), .ref (q 12), .ref (q 13), .ref (q 14), .ref (q 15), .int (nI kd), .int (nI rt), .int (nI fl), .long (lN tt), .ref (q 16), .ref (q 17)], cj B (q 8) 16 u9_1.1, cj B (q 7) 16 u9_1.2] rfl ?_
    refine g_if_neN (pc := 12) X (tgt := 21) d_O_root_12 (by decide) (by omega) (fun h_12 => ?_) (fun h_12 => absurd h_12 (by omega))
    refine g_lconst (pc := 21) X (v := 0) d_O_root_21 (by decide) ?_
    refine g_setl (lN (hiP P 0)) (by rw [hiP_0 hP]; rfl) ?_
    refine g_lstore (pc := 22) X d_O_root_22 (by decide) ?_
    refine g_lv [(0, .ref a), (1, .int (nI n)), (2, .int (nI p)), (3, .int (nI (w + 1))), (4, .long (lN (hiP P 0)))] rfl ?_
    refine g_bipush (pc := 24) X (v := nI 63) d_O_root_24 (by decide) ?_
    refine g_istore (pc := 26) X d_O_root_26 (by decide) ?_
    refine g_lv [(0, .ref a), (1, .int (nI n)), (2, .int (nI p)), (3, .int (nI (w + 1))), (4, .long (lN (hiP P 0))), (6, .int (nI 63))] rfl ?_
    refine g_lv [(0, .ref a), (1, .int (nI n)), (2, .int (nI p)), (3, .int (nI (w + 1))), (4, .long (lN (hiP P 0))), (6, .int (nI 63))] rfl ?_
    refine g_lve [(0, .ref a), (1, .int (nI n)), (2, .int (nI p)), (3, .int (nI (w + 1))), (4, .long (lN (hiP P 0))), (6, .int (nI (64 - 0) - nI 1))] (by rw [pk_sub (by omega)]) ?_
    refine g_wsq [co a 4 [.ref (q 0), .ref (q 1), .ref (q 2), .int (nI tp), .int cd, .ref (q 3), .ref (q 4), .ref (q 5), .ref (q 6), .ref (q 7), .ref (q 8), .ref (q 9), .ref (q 10), .ref (q 11), .ref (q 12), .ref (q 13), .ref (q 14), .ref (q 15), .int (nI kd), .int (nI rt), .int (nI fl), .long (lN tt), .ref (q 16), .ref (q 17)], cj B (q 8) 16 u9_1.1, cj B (q 7) 16 u9_1.2] (by rfl) ?_
    refine loopK (fun k => ∀ (pd : Nat → Int64) (lm : Nat → Int64), G B M 7 0 0 Q [co a 4 [.ref (q 0), .ref (q 1), .ref (q 2), .int (nI tp), .int cd, .ref (q 3), .ref (q 4), .ref (q 5), .ref (q 6), .ref (q 7), .ref (q 8), .ref (q 9), .ref (q 10), .ref (q 11), .ref (q 12), .ref (q 13), .ref (q 14), .ref (q 15), .int (nI kd), .int (nI rt), .int (nI fl), .long (lN tt), .ref (q 16), .ref (q 17)], cj B (q 8) 16 pd, cj B (q 7) 16 lm] [(0, .ref a), (1, .int (nI n)), (2, .int (nI p)), (3, .int (nI (w + 1))), (4, .long (lN (hiP P k))), (6, .int (nI (64 - k) - nI 1))] 28 []) 64 ?_ ?_ u9_1.1 u9_1.2
    · intro k hk28 kk28 pd lm
      have hb9 := ab_le (w + 1) (hiP P k + 2 ^ (63 - k)) p n
      show G B M 7 0 0 Q [co a 4 [.ref (q 0), .ref (q 1), .ref (q 2), .int (nI tp), .int cd, .ref (q 3), .ref (q 4), .ref (q 5), .ref (q 6), .ref (q 7), .ref (q 8), .ref (q 9), .ref (q 10), .ref (q 11), .ref (q 12), .ref (q 13), .ref (q 14), .ref (q 15), .int (nI kd), .int (nI rt), .int (nI fl), .long (lN tt), .ref (q 16), .ref (q 17)], cj B (q 8) 16 pd, cj B (q 7) 16 lm] [(0, .ref a), (1, .int (nI n)), (2, .int (nI p)), (3, .int (nI (w + 1))), (4, .long (lN (hiP P k))), (6, .int (nI (64 - k) - nI 1))] 28 []
      refine g_lve [(0, .ref a), (1, .int (nI n)), (2, .int (nI p)), (3, .int (nI (w + 1))), (4, .long (lN (hiP P k))), (6, .int (nI (63 - k)))] (by rw [pk_sub (by omega), show 64 - k - 1 = 63 - k by omega]) ?_
      refine g_iload (pc := 28) X d_O_root_28 rfl ?_
      refine g_if_ltN (pc := 30) X (tgt := 65) d_O_root_30 (by decide) (by omega) ?_
      refine g_aload_n (pc := 33) X (i := 0) d_O_root_33 rfl rfl ?_
      refine g_iload_n (pc := 34) X (i := 3) d_O_root_34 rfl rfl ?_
      refine g_lload (pc := 35) X d_O_root_35 rfl ?_
      refine g_lconst (pc := 37) X (v := 1) d_O_root_37 (by decide) ?_
      refine g_iload (pc := 38) X d_O_root_38 rfl ?_
      refine g_lshl (pc := 40) X (v := lshl 1 (nI (63 - k))) d_O_root_40 rfl ?_
      refine g_lor (pc := 41) X d_O_root_41 ?_
      refine g_setl (lN (hiP P k + 2 ^ (63 - k))) (or_bit P k hP (by omega)) ?_
      refine g_iload_n (pc := 42) X (i := 2) d_O_root_42 rfl rfl ?_
      refine g_iload_n (pc := 43) X (i := 1) d_O_root_43 rfl rfl ?_
      refine g_callVi (pc := 44) (q0 := 0) X (c_O_above (m_l M) B a q tp kd rt fl tt cd (w + 1) (hiP P k + 2 ^ (63 - k)) p n pd lm (by omega) (hiP_lt hP (by omega)) hp (by omega)) wd_755 wd_757 wp_O_above wd_5 wd_758 hd_O_above [0, 1, 2] rfl rfl [a, q 8, q 7] (fun _ => rfl) rfl rfl rfl (by rw [hR]; decide) (by rw [hR]; decide) rfl (Nat.le_of_ble_eq_true rfl) d_O_root_44 (fun r9 u44 hr9 => ?_)
      subst hr9
      refine g_wsq [co a 4 [.ref (q 0), .ref (q 1), .ref (q 2), .int (nI tp), .int cd, .ref (q 3), .ref (q 4), .ref (q 5), .ref (q 6), .ref (q 7), .ref (q 8), .ref (q 9), .ref (q 10), .ref (q 11), .ref (q 12), .ref (q 13), .ref (q 14), .ref (q 15), .int (nI kd), .int (nI rt), .int (nI fl), .long (lN tt), .ref (q 16), .ref (q 17)], cj B (q 8) 16 u44.1, cj B (q 7) 16 u44.2] rfl ?_
      refine g_if_neN (pc := 47) X (tgt := 59) d_O_root_47 (by decide) (by omega) (fun h_47 => ?_) (fun h_47 => ?_)
      · refine g_iinc (pc := 59) X (k9 := (-1)) d_O_root_59 rfl (by decide) (by decide) ?_
        refine g_lv [(0, .ref a), (1, .int (nI n)), (2, .int (nI p)), (3, .int (nI (w + 1))), (4, .long (lN (hiP P k))), (6, .int ((nI (63 - k)) + (-1)))] rfl ?_
        refine g_goto (pc := 62) X (tgt := 28) d_O_root_62 (by decide) ?_
        refine g_lv [(0, .ref a), (1, .int (nI n)), (2, .int (nI p)), (3, .int (nI (w + 1))), (4, .long (lN (hiP P k))), (6, .int ((nI (63 - k)) + (-1)))] rfl ?_
        refine g_lve [(0, .ref a), (1, .int (nI n)), (2, .int (nI p)), (3, .int (nI (w + 1))), (4, .long (lN (hiP P (k + 1)))), (6, .int (nI (64 - (k + 1)) - nI 1))] (by rw [show 64 - (k + 1) = 63 - k by omega, Int32.sub_eq_add_neg]; first | (rw [(hiP_s P k (by omega)).1 (rt_le hR9 (by omega))]; rfl) | (rw [(hiP_s P k (by omega)).2 (rt_gt hR9 (by omega))]; rfl)) ?_
        refine g_wsq [co a 4 [.ref (q 0), .ref (q 1), .ref (q 2), .int (nI tp), .int cd, .ref (q 3), .ref (q 4), .ref (q 5), .ref (q 6), .ref (q 7), .ref (q 8), .ref (q 9), .ref (q 10), .ref (q 11), .ref (q 12), .ref (q 13), .ref (q 14), .ref (q 15), .int (nI kd), .int (nI rt), .int (nI fl), .long (lN tt), .ref (q 16), .ref (q 17)], cj B (q 8) 16 u44.1, cj B (q 7) 16 u44.2] (by rfl) ?_
        exact kk28 u44.1 u44.2
      · refine g_lload (pc := 50) X d_O_root_50 rfl ?_
        refine g_lconst (pc := 52) X (v := 1) d_O_root_52 (by decide) ?_
        refine g_iload (pc := 53) X d_O_root_53 rfl ?_
        refine g_lshl (pc := 55) X (v := lshl 1 (nI (63 - k))) d_O_root_55 rfl ?_
        refine g_lor (pc := 56) X d_O_root_56 ?_
        refine g_setl (lN (hiP P k + 2 ^ (63 - k))) (or_bit P k hP (by omega)) ?_
        refine g_lstore (pc := 57) X d_O_root_57 (by decide) ?_
        refine g_lv [(0, .ref a), (1, .int (nI n)), (2, .int (nI p)), (3, .int (nI (w + 1))), (4, .long (lN (hiP P k + 2 ^ (63 - k)))), (6, .int (nI (63 - k)))] rfl ?_
        refine g_iinc (pc := 59) X (k9 := (-1)) d_O_root_59 rfl (by decide) (by decide) ?_
        refine g_lv [(0, .ref a), (1, .int (nI n)), (2, .int (nI p)), (3, .int (nI (w + 1))), (4, .long (lN (hiP P k + 2 ^ (63 - k)))), (6, .int ((nI (63 - k)) + (-1)))] rfl ?_
        refine g_goto (pc := 62) X (tgt := 28) d_O_root_62 (by decide) ?_
        refine g_lv [(0, .ref a), (1, .int (nI n)), (2, .int (nI p)), (3, .int (nI (w + 1))), (4, .long (lN (hiP P k + 2 ^ (63 - k)))), (6, .int ((nI (63 - k)) + (-1)))] rfl ?_
        refine g_lve [(0, .ref a), (1, .int (nI n)), (2, .int (nI p)), (3, .int (nI (w + 1))), (4, .long (lN (hiP P (k + 1)))), (6, .int (nI (64 - (k + 1)) - nI 1))] (by rw [show 64 - (k + 1) = 63 - k by omega, Int32.sub_eq_add_neg]; first | (rw [(hiP_s P k (by omega)).1 (rt_le hR9 (by omega))]; rfl) | (rw [(hiP_s P k (by omega)).2 (rt_gt hR9 (by omega))]; rfl)) ?_
        refine g_wsq [co a 4 [.ref (q 0), .ref (q 1), .ref (q 2), .int (nI tp), .int cd, .ref (q 3), .ref (q 4), .ref (q 5), .ref (q 6), .ref (q 7), .ref (q 8), .ref (q 9), .ref (q 10), .ref (q 11), .ref (q 12), .ref (q 13), .ref (q 14), .ref (q 15), .int (nI kd), .int (nI rt), .int (nI fl), .long (lN tt), .ref (q 16), .ref (q 17)], cj B (q 8) 16 u44.1, cj B (q 7) 16 u44.2] (by rfl) ?_
        exact kk28 u44.1 u44.2
    · intro pd lm
      show G B M 7 0 0 Q [co a 4 [.ref (q 0), .ref (q 1), .ref (q 2), .int (nI tp), .int cd, .ref (q 3), .ref (q 4), .ref (q 5), .ref (q 6), .ref (q 7), .ref (q 8), .ref (q 9), .ref (q 10), .ref (q 11), .ref (q 12), .ref (q 13), .ref (q 14), .ref (q 15), .int (nI kd), .int (nI rt), .int (nI fl), .long (lN tt), .ref (q 16), .ref (q 17)], cj B (q 8) 16 pd, cj B (q 7) 16 lm] [(0, .ref a), (1, .int (nI n)), (2, .int (nI p)), (3, .int (nI (w + 1))), (4, .long (lN (hiP P 64))), (6, .int (nI (64 - 64) - nI 1))] 28 []
      refine g_iload (pc := 28) X d_O_root_28 rfl ?_
      refine g_if_lt (pc := 30) X (tgt := 65) d_O_root_30 (by decide) (fun hz => ?_) (fun hz => absurd (pk_sneg (by omega) (by omega)) hz)
      refine g_lload (pc := 65) X d_O_root_65 rfl ?_
      exact kret _ (pd, lm) _ 67 (by rw [hiP_64]) d_O_root_67
