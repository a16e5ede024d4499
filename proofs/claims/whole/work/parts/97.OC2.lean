theorem c_O_above (l : Launch) (B : Bx) (a : Nat) (q : Nat → Nat) (tp : Nat) (kd : Nat) (rt : Nat) (fl : Nat) (tt : Nat) (cd : Int32) (W : Nat) (P : Nat) (p : Nat) (n : Nat) (pd : Nat → Int64) (lm : Nat → Int64) (hW : W < 1000) (hP : P < 2 ^ 64) (hp : p = 2 ∨ p = 3) (hn : n < 2 ^ 31) : Ci (S := LPP) l B y_O_above b_O_above 10 .boolean (Rm 1 0 0) [.ref a, .int (nI W), .long (lN P), .int (nI p), .int (nI n)] [co a 4 [.ref (q 0), .ref (q 1), .ref (q 2), .int (nI tp), .int cd, .ref (q 3), .ref (q 4), .ref (q 5), .ref (q 6), .ref (q 7), .ref (q 8), .ref (q 9), .ref (q 10), .ref (q 11), .ref (q 12), .ref (q 13), .ref (q 14), .ref (q 15), .int (nI kd), .int (nI rt), .int (nI fl), .long (lN tt), .ref (q 16), .ref (q 17)], cj B (q 8) 16 pd, cj B (q 7) 16 lm] (fun r _ => r = nI (ab W P p n)) (fun u => [co a 4 [.ref (q 0), .ref (q 1), .ref (q 2), .int (nI tp), .int cd, .ref (q 3), .ref (q 4), .ref (q 5), .ref (q 6), .ref (q 7), .ref (q 8), .ref (q 9), .ref (q 10), .ref (q 11), .ref (q 12), .ref (q 13), .ref (q 14), .ref (q 15), .int (nI kd), .int (nI rt), .int (nI fl), .long (lN tt), .ref (q 16), .ref (q 17)], cj B (q 8) 16 u.1, cj B (q 7) 16 u.2]) := by
  refine ctr_z (by decide) (Nat.le_of_ble_eq_true rfl) ?_
  intro M Q hl hR hin X kret
  subst hl
  have hD9 := (pwr_ok 16 W P p (by decide) hP).1
  have hrs := rs_le (pwr 16 W P p) (4 * p)
  refine g_lv [(0, .ref a), (1, .int (nI W)), (2, .long (lN P)), (4, .int (nI p)), (5, .int (nI n))] rfl ?_
  refine g_iconst (pc := 0) X (v := nI 0) d_O_above_0 (by decide) ?_
  refine g_istore (pc := 1) X d_O_above_1 (by decide) ?_
  refine g_lv [(0, .ref a), (1, .int (nI W)), (2, .long (lN P)), (4, .int (nI p)), (5, .int (nI n)), (6, .int (nI 0))] rfl ?_
  refine g_lv [(0, .ref a), (1, .int (nI W)), (2, .long (lN P)), (4, .int (nI p)), (5, .int (nI n)), (6, .int (nI 0))] rfl ?_
  refine g_wsq [co a 4 [.ref (q 0), .ref (q 1), .ref (q 2), .int (nI tp), .int cd, .ref (q 3), .ref (q 4), .ref (q 5), .ref (q 6), .ref (q 7), .ref (q 8), .ref (q 9), .ref (q 10), .ref (q 11), .ref (q 12), .ref (q 13), .ref (q 14), .ref (q 15), .int (nI kd), .int (nI rt), .int (nI fl), .long (lN tt), .ref (q 16), .ref (q 17)], cj B (q 8) 16 (va_cpy oneL pd 0 0 0), cj B (q 7) 16 lm] (by rw [← cpy_0]) ?_
  refine loopK (fun k => G B M 10 0 0 Q [co a 4 [.ref (q 0), .ref (q 1), .ref (q 2), .int (nI tp), .int cd, .ref (q 3), .ref (q 4), .ref (q 5), .ref (q 6), .ref (q 7), .ref (q 8), .ref (q 9), .ref (q 10), .ref (q 11), .ref (q 12), .ref (q 13), .ref (q 14), .ref (q 15), .int (nI kd), .int (nI rt), .int (nI fl), .long (lN tt), .ref (q 16), .ref (q 17)], cj B (q 8) 16 (va_cpy oneL pd 0 0 k), cj B (q 7) 16 lm] [(0, .ref a), (1, .int (nI W)), (2, .long (lN P)), (4, .int (nI p)), (5, .int (nI n)), (6, .int (nI k))] 3 []) 16 ?_ ?_
  · intro k hk3 kk3
    show G B M 10 0 0 Q [co a 4 [.ref (q 0), .ref (q 1), .ref (q 2), .int (nI tp), .int cd, .ref (q 3), .ref (q 4), .ref (q 5), .ref (q 6), .ref (q 7), .ref (q 8), .ref (q 9), .ref (q 10), .ref (q 11), .ref (q 12), .ref (q 13), .ref (q 14), .ref (q 15), .int (nI kd), .int (nI rt), .int (nI fl), .long (lN tt), .ref (q 16), .ref (q 17)], cj B (q 8) 16 (va_cpy oneL pd 0 0 k), cj B (q 7) 16 lm] [(0, .ref a), (1, .int (nI W)), (2, .long (lN P)), (4, .int (nI p)), (5, .int (nI n)), (6, .int (nI k))] 3 []
    refine g_iload (pc := 3) X d_O_above_3 rfl ?_
    refine g_bipush (pc := 5) X (v := nI 16) d_O_above_5 (by decide) ?_
    refine g_icmp_geN (pc := 7) X (tgt := 33) d_O_above_7 (by decide) (by omega) (by omega) (fun h_7 => absurd h_7 (by omega)) (fun h_7 => ?_)
    refine g_aload_n (pc := 10) X (i := 0) d_O_above_10 rfl rfl ?_
    refine g_get (pc := 11) X in_O 0 rfl rfl 10 (by decide) wd_829 rfl d_O_above_11 ?_
    refine g_iload (pc := 14) X d_O_above_14 rfl ?_
    refine g_iload (pc := 16) X d_O_above_16 rfl ?_
    refine g_if_neN (pc := 18) X (tgt := 25) d_O_above_18 (by decide) (by omega) (fun h_18 => ?_) (fun h_18 => ?_)
    · refine g_lconst (pc := 25) X (v := 0) d_O_above_25 (by decide) ?_
      refine g_last (pc := 26) X 1 rfl k rfl (by omega) (by omega) d_O_above_26 ?_
      refine g_wsq [co a 4 [.ref (q 0), .ref (q 1), .ref (q 2), .int (nI tp), .int cd, .ref (q 3), .ref (q 4), .ref (q 5), .ref (q 6), .ref (q 7), .ref (q 8), .ref (q 9), .ref (q 10), .ref (q 11), .ref (q 12), .ref (q 13), .ref (q 14), .ref (q 15), .int (nI kd), .int (nI rt), .int (nI fl), .long (lN tt), .ref (q 16), .ref (q 17)], cj B (q 8) 16 (va_up (va_cpy oneL pd 0 0 k) k 0), cj B (q 7) 16 lm] rfl ?_
      refine g_iincN (pc := 27) X (a := k) (k + 1) d_O_above_27 rfl 1 rfl (by omega) (by decide) ?_
      refine g_lv [(0, .ref a), (1, .int (nI W)), (2, .long (lN P)), (4, .int (nI p)), (5, .int (nI n)), (6, .int (nI (k + 1)))] rfl ?_
      refine g_goto (pc := 30) X (tgt := 3) d_O_above_30 (by decide) ?_
      refine g_lv [(0, .ref a), (1, .int (nI W)), (2, .long (lN P)), (4, .int (nI p)), (5, .int (nI n)), (6, .int (nI (k + 1)))] rfl ?_
      refine g_wsq [co a 4 [.ref (q 0), .ref (q 1), .ref (q 2), .int (nI tp), .int cd, .ref (q 3), .ref (q 4), .ref (q 5), .ref (q 6), .ref (q 7), .ref (q 8), .ref (q 9), .ref (q 10), .ref (q 11), .ref (q 12), .ref (q 13), .ref (q 14), .ref (q 15), .int (nI kd), .int (nI rt), .int (nI fl), .long (lN tt), .ref (q 16), .ref (q 17)], cj B (q 8) 16 (va_cpy oneL pd 0 0 (k + 1)), cj B (q 7) 16 lm] (by first | rw [one_s1 _ (by omega)] | rw [one_s0 _ (by omega)]) ?_
      exact kk3
    · refine g_lconst (pc := 21) X (v := 1) d_O_above_21 (by decide) ?_
      refine g_goto (pc := 22) X (tgt := 26) d_O_above_22 (by decide) ?_
      refine g_last (pc := 26) X 1 rfl k rfl (by omega) (by omega) d_O_above_26 ?_
      refine g_wsq [co a 4 [.ref (q 0), .ref (q 1), .ref (q 2), .int (nI tp), .int cd, .ref (q 3), .ref (q 4), .ref (q 5), .ref (q 6), .ref (q 7), .ref (q 8), .ref (q 9), .ref (q 10), .ref (q 11), .ref (q 12), .ref (q 13), .ref (q 14), .ref (q 15), .int (nI kd), .int (nI rt), .int (nI fl), .long (lN tt), .ref (q 16), .ref (q 17)], cj B (q 8) 16 (va_up (va_cpy oneL pd 0 0 k) k 1), cj B (q 7) 16 lm] rfl ?_
      refine g_iincN (pc := 27) X (a := k) (k + 1) d_O_above_27 rfl 1 rfl (by omega) (by decide) ?_
      refine g_lv [(0, .ref a), (1, .int (nI W)), (2, .long (lN P)), (4, .int (nI p)), (5, .int (nI n)), (6, .int (nI (k + 1)))] rfl ?_
      refine g_goto (pc := 30) X (tgt := 3) d_O_above_30 (by decide) ?_
      refine g_lv [(0, .ref a), (1, .int (nI W)), (2, .long (lN P)), (4, .int (nI p)), (5, .int (nI n)), (6, .int (nI (k + 1)))] rfl ?_
      refine g_wsq [co a 4 [.ref (q 0), .ref (q 1), .ref (q 2), .int (nI tp), .int cd, .ref (q 3), .ref (q 4), .ref (q 5), .ref (q 6), .ref (q 7), .ref (q 8), .ref (q 9), .ref (q 10), .ref (q 11), .ref (q 12), .ref (q 13), .ref (q 14), .ref (q 15), .int (nI kd), .int (nI rt), .int (nI fl), .long (lN tt), .ref (q 16), .ref (q 17)], cj B (q 8) 16 (va_cpy oneL pd 0 0 (k + 1)), cj B (q 7) 16 lm] (by first | rw [one_s1 _ (by omega)] | rw [one_s0 _ (by omega)]) ?_
      exact kk3
  · show G B M 10 0 0 Q [co a 4 [.ref (q 0), .ref (q 1), .ref (q 2), .int (nI tp), .int cd, .ref (q 3), .ref (q 4), .ref (q 5), .ref (q 6), .ref (q 7), .ref (q 8), .ref (q 9), .ref (q 10), .ref (q 11), .ref (q 12), .ref (q 13), .ref (q 14), .ref (q 15), .int (nI kd), .int (nI rt), .int (nI fl), .long (lN tt), .ref (q 16), .ref (q 17)], cj B (q 8) 16 (va_cpy oneL pd 0 0 16), cj B (q 7) 16 lm] [(0, .ref a), (1, .int (nI W)), (2, .long (lN P)), (4, .int (nI p)), (5, .int (nI n)), (6, .int (nI 16))] 3 []
    refine g_iload (pc := 3) X d_O_above_3 rfl ?_
    refine g_bipush (pc := 5) X (v := nI 16) d_O_above_5 (by decide) ?_
    refine g_icmp_geN (pc := 7) X (tgt := 33) d_O_above_7 (by decide) (by omega) (by omega) (fun h_7 => ?_) (fun h_7 => absurd h_7 (by omega))
    refine g_cj 1 rfl (g := fun z9 => lN (oneN z9)) (one_x pd) ?_
    refine g_wsq [co a 4 [.ref (q 0), .ref (q 1), .ref (q 2), .int (nI tp), .int cd, .ref (q 3), .ref (q 4), .ref (q 5), .ref (q 6), .ref (q 7), .ref (q 8), .ref (q 9), .ref (q 10), .ref (q 11), .ref (q 12), .ref (q 13), .ref (q 14), .ref (q 15), .int (nI kd), .int (nI rt), .int (nI fl), .long (lN tt), .ref (q 16), .ref (q 17)], cj B (q 8) 16 (fun z9 => lN (oneN z9)), cj B (q 7) 16 lm] rfl ?_
    refine g_iconst (pc := 33) X (v := nI 0) d_O_above_33 (by decide) ?_
    refine g_istore (pc := 34) X d_O_above_34 (by decide) ?_
    refine g_lv [(0, .ref a), (1, .int (nI W)), (2, .long (lN P)), (4, .int (nI p)), (5, .int (nI n)), (6, .int (nI 0))] rfl ?_
    refine g_lv [(0, .ref a), (1, .int (nI W)), (2, .long (lN P)), (4, .int (nI p)), (5, .int (nI n)), (6, .int (nI 0))] rfl ?_
    refine loopI (σ := MW) (mwF W P) (fun t s => ∀ j, j < 16 → s.1 j < 65536) (fun t s => G B M 10 0 0 Q [co a 4 [.ref (q 0), .ref (q 1), .ref (q 2), .int (nI tp), .int cd, .ref (q 3), .ref (q 4), .ref (q 5), .ref (q 6), .ref (q 7), .ref (q 8), .ref (q 9), .ref (q 10), .ref (q 11), .ref (q 12), .ref (q 13), .ref (q 14), .ref (q 15), .int (nI kd), .int (nI rt), .int (nI fl), .long (lN tt), .ref (q 16), .ref (q 17)], cj B (q 8) 16 (fun z9 => lN (s.1 z9)), cj B (q 7) 16 s.2] [(0, .ref a), (1, .int (nI W)), (2, .long (lN P)), (4, .int (nI p)), (5, .int (nI n)), (6, .int (nI t))] 36 []) p (oneN, lm) one_lt (fun t s _ _ => mul1_lt W P t s.1) ?_ ?_
    · intro t s hk36 hI36 kk36
      have hE := cnv_le W P hI36 hW
      show G B M 10 0 0 Q [co a 4 [.ref (q 0), .ref (q 1), .ref (q 2), .int (nI tp), .int cd, .ref (q 3), .ref (q 4), .ref (q 5), .ref (q 6), .ref (q 7), .ref (q 8), .ref (q 9), .ref (q 10), .ref (q 11), .ref (q 12), .ref (q 13), .ref (q 14), .ref (q 15), .int (nI kd), .int (nI rt), .int (nI fl), .long (lN tt), .ref (q 16), .ref (q 17)], cj B (q 8) 16 (fun z9 => lN (s.1 z9)), cj B (q 7) 16 s.2] [(0, .ref a), (1, .int (nI W)), (2, .long (lN P)), (4, .int (nI p)), (5, .int (nI n)), (6, .int (nI t))] 36 []
      refine g_iload (pc := 36) X d_O_above_36 rfl ?_
      refine g_iload (pc := 38) X d_O_above_38 rfl ?_
      refine g_icmp_geN (pc := 40) X (tgt := 208) d_O_above_40 (by decide) (by omega) (by omega) (fun h_40 => absurd h_40 (by omega)) (fun h_40 => ?_)
      refine g_iconst (pc := 43) X (v := nI 0) d_O_above_43 (by decide) ?_
      refine g_istore (pc := 44) X d_O_above_44 (by decide) ?_
      refine g_lv [(0, .ref a), (1, .int (nI W)), (2, .long (lN P)), (4, .int (nI p)), (5, .int (nI n)), (6, .int (nI t)), (7, .int (nI 0))] rfl ?_
      refine g_lv [(0, .ref a), (1, .int (nI W)), (2, .long (lN P)), (4, .int (nI p)), (5, .int (nI n)), (6, .int (nI t)), (7, .int (nI 0))] rfl ?_
      refine g_wsq [co a 4 [.ref (q 0), .ref (q 1), .ref (q 2), .int (nI tp), .int cd, .ref (q 3), .ref (q 4), .ref (q 5), .ref (q 6), .ref (q 7), .ref (q 8), .ref (q 9), .ref (q 10), .ref (q 11), .ref (q 12), .ref (q 13), .ref (q 14), .ref (q 15), .int (nI kd), .int (nI rt), .int (nI fl), .long (lN tt), .ref (q 16), .ref (q 17)], cj B (q 8) 16 (fun z9 => lN (s.1 z9)), cj B (q 7) 16 (fil s.2 0 0 0)] (by rw [← fil_0]) ?_
      refine loopK (fun z => G B M 10 0 0 Q [co a 4 [.ref (q 0), .ref (q 1), .ref (q 2), .int (nI tp), .int cd, .ref (q 3), .ref (q 4), .ref (q 5), .ref (q 6), .ref (q 7), .ref (q 8), .ref (q 9), .ref (q 10), .ref (q 11), .ref (q 12), .ref (q 13), .ref (q 14), .ref (q 15), .int (nI kd), .int (nI rt), .int (nI fl), .long (lN tt), .ref (q 16), .ref (q 17)], cj B (q 8) 16 (fun z9 => lN (s.1 z9)), cj B (q 7) 16 (fil s.2 0 z 0)] [(0, .ref a), (1, .int (nI W)), (2, .long (lN P)), (4, .int (nI p)), (5, .int (nI n)), (6, .int (nI t)), (7, .int (nI z))] 46 []) 16 ?_ ?_
      · intro z hk46 kk46
        show G B M 10 0 0 Q [co a 4 [.ref (q 0), .ref (q 1), .ref (q 2), .int (nI tp), .int cd, .ref (q 3), .ref (q 4), .ref (q 5), .ref (q 6), .ref (q 7), .ref (q 8), .ref (q 9), .ref (q 10), .ref (q 11), .ref (q 12), .ref (q 13), .ref (q 14), .ref (q 15), .int (nI kd), .int (nI rt), .int (nI fl), .long (lN tt), .ref (q 16), .ref (q 17)], cj B (q 8) 16 (fun z9 => lN (s.1 z9)), cj B (q 7) 16 (fil s.2 0 z 0)] [(0, .ref a), (1, .int (nI W)), (2, .long (lN P)), (4, .int (nI p)), (5, .int (nI n)), (6, .int (nI t)), (7, .int (nI z))] 46 []
        refine g_iload (pc := 46) X d_O_above_46 rfl ?_
        refine g_bipush (pc := 48) X (v := nI 16) d_O_above_48 (by decide) ?_
        refine g_icmp_geN (pc := 50) X (tgt := 67) d_O_above_50 (by decide) (by omega) (by omega) (fun h_50 => absurd h_50 (by omega)) (fun h_50 => ?_)
        refine g_aload_n (pc := 53) X (i := 0) d_O_above_53 rfl rfl ?_
        refine g_get (pc := 54) X in_O 0 rfl rfl 9 (by decide) wd_828 rfl d_O_above_54 ?_
        refine g_iload (pc := 57) X d_O_above_57 rfl ?_
        refine g_lconst (pc := 59) X (v := 0) d_O_above_59 (by decide) ?_
        refine g_last (pc := 60) X 2 rfl z rfl (by omega) (by omega) d_O_above_60 ?_
        refine g_wsq [co a 4 [.ref (q 0), .ref (q 1), .ref (q 2), .int (nI tp), .int cd, .ref (q 3), .ref (q 4), .ref (q 5), .ref (q 6), .ref (q 7), .ref (q 8), .ref (q 9), .ref (q 10), .ref (q 11), .ref (q 12), .ref (q 13), .ref (q 14), .ref (q 15), .int (nI kd), .int (nI rt), .int (nI fl), .long (lN tt), .ref (q 16), .ref (q 17)], cj B (q 8) 16 (fun z9 => lN (s.1 z9)), cj B (q 7) 16 (va_up (fil s.2 0 z 0) z 0)] rfl ?_
        refine g_iincN (pc := 61) X (a := z) (z + 1) d_O_above_61 rfl 1 rfl (by omega) (by decide) ?_
        refine g_lv [(0, .ref a), (1, .int (nI W)), (2, .long (lN P)), (4, .int (nI p)), (5, .int (nI n)), (6, .int (nI t)), (7, .int (nI (z + 1)))] rfl ?_
        refine g_goto (pc := 64) X (tgt := 46) d_O_above_64 (by decide) ?_
        refine g_lv [(0, .ref a), (1, .int (nI W)), (2, .long (lN P)), (4, .int (nI p)), (5, .int (nI n)), (6, .int (nI t)), (7, .int (nI (z + 1)))] rfl ?_
        refine g_wsq [co a 4 [.ref (q 0), .ref (q 1), .ref (q 2), .int (nI tp), .int cd, .ref (q 3), .ref (q 4), .ref (q 5), .ref (q 6), .ref (q 7), .ref (q 8), .ref (q 9), .ref (q 10), .ref (q 11), .ref (q 12), .ref (q 13), .ref (q 14), .ref (q 15), .int (nI kd), .int (nI rt), .int (nI fl), .long (lN tt), .ref (q 16), .ref (q 17)], cj B (q 8) 16 (fun z9 => lN (s.1 z9)), cj B (q 7) 16 (fil s.2 0 (z + 1) 0)] (by rw [fil_s _ (by omega)]) ?_
        exact kk46
      · show G B M 10 0 0 Q [co a 4 [.ref (q 0), .ref (q 1), .ref (q 2), .int (nI tp), .int cd, .ref (q 3), .ref (q 4), .ref (q 5), .ref (q 6), .ref (q 7), .ref (q 8), .ref (q 9), .ref (q 10), .ref (q 11), .ref (q 12), .ref (q 13), .ref (q 14), .ref (q 15), .int (nI kd), .int (nI rt), .int (nI fl), .long (lN tt), .ref (q 16), .ref (q 17)], cj B (q 8) 16 (fun z9 => lN (s.1 z9)), cj B (q 7) 16 (fil s.2 0 16 0)] [(0, .ref a), (1, .int (nI W)), (2, .long (lN P)), (4, .int (nI p)), (5, .int (nI n)), (6, .int (nI t)), (7, .int (nI 16))] 46 []
        refine g_iload (pc := 46) X d_O_above_46 rfl ?_
        refine g_bipush (pc := 48) X (v := nI 16) d_O_above_48 (by decide) ?_
        refine g_icmp_geN (pc := 50) X (tgt := 67) d_O_above_50 (by decide) (by omega) (by omega) (fun h_50 => ?_) (fun h_50 => absurd h_50 (by omega))
        refine g_cj 2 rfl (g := fun z9 => lN ((fun _ => 0) z9)) (fil_x s.2) ?_
        refine g_wsq [co a 4 [.ref (q 0), .ref (q 1), .ref (q 2), .int (nI tp), .int cd, .ref (q 3), .ref (q 4), .ref (q 5), .ref (q 6), .ref (q 7), .ref (q 8), .ref (q 9), .ref (q 10), .ref (q 11), .ref (q 12), .ref (q 13), .ref (q 14), .ref (q 15), .int (nI kd), .int (nI rt), .int (nI fl), .long (lN tt), .ref (q 16), .ref (q 17)], cj B (q 8) 16 (fun z9 => lN (s.1 z9)), cj B (q 7) 16 (fun z9 => lN ((fun _ => 0) z9))] rfl ?_
        refine g_iconst (pc := 67) X (v := nI 0) d_O_above_67 (by decide) ?_
        refine g_istore (pc := 68) X d_O_above_68 (by decide) ?_
        refine g_lv [(0, .ref a), (1, .int (nI W)), (2, .long (lN P)), (4, .int (nI p)), (5, .int (nI n)), (6, .int (nI t)), (7, .int (nI 0))] rfl ?_
        refine g_lv [(0, .ref a), (1, .int (nI W)), (2, .long (lN P)), (4, .int (nI p)), (5, .int (nI n)), (6, .int (nI t)), (7, .int (nI 0))] rfl ?_
        refine loopF (σ := Nat → Nat) (cnF 16 s.1 W P) (fun i E => G B M 10 0 0 Q [co a 4 [.ref (q 0), .ref (q 1), .ref (q 2), .int (nI tp), .int cd, .ref (q 3), .ref (q 4), .ref (q 5), .ref (q 6), .ref (q 7), .ref (q 8), .ref (q 9), .ref (q 10), .ref (q 11), .ref (q 12), .ref (q 13), .ref (q 14), .ref (q 15), .int (nI kd), .int (nI rt), .int (nI fl), .long (lN tt), .ref (q 16), .ref (q 17)], cj B (q 8) 16 (fun z9 => lN (s.1 z9)), cj B (q 7) 16 (fun z9 => lN (E z9))] [(0, .ref a), (1, .int (nI W)), (2, .long (lN P)), (4, .int (nI p)), (5, .int (nI n)), (6, .int (nI t)), (7, .int (nI i))] 70 []) 16 (fun _ => 0) ?_ ?_
        · intro i E hk70 kk70
          show G B M 10 0 0 Q [co a 4 [.ref (q 0), .ref (q 1), .ref (q 2), .int (nI tp), .int cd, .ref (q 3), .ref (q 4), .ref (q 5), .ref (q 6), .ref (q 7), .ref (q 8), .ref (q 9), .ref (q 10), .ref (q 11), .ref (q 12), .ref (q 13), .ref (q 14), .ref (q 15), .int (nI kd), .int (nI rt), .int (nI fl), .long (lN tt), .ref (q 16), .ref (q 17)], cj B (q 8) 16 (fun z9 => lN (s.1 z9)), cj B (q 7) 16 (fun z9 => lN (E z9))] [(0, .ref a), (1, .int (nI W)), (2, .long (lN P)), (4, .int (nI p)), (5, .int (nI n)), (6, .int (nI t)), (7, .int (nI i))] 70 []
          refine g_iload (pc := 70) X d_O_above_70 rfl ?_
          refine g_bipush (pc := 72) X (v := nI 16) d_O_above_72 (by decide) ?_
          refine g_icmp_geN (pc := 74) X (tgt := 151) d_O_above_74 (by decide) (by omega) (by omega) (fun h_74 => absurd h_74 (by omega)) (fun h_74 => ?_)
          refine g_iconst (pc := 77) X (v := nI 0) d_O_above_77 (by decide) ?_
          refine g_istore (pc := 78) X d_O_above_78 (by decide) ?_
          refine g_lv [(0, .ref a), (1, .int (nI W)), (2, .long (lN P)), (4, .int (nI p)), (5, .int (nI n)), (6, .int (nI t)), (7, .int (nI i)), (8, .int (nI 0))] rfl ?_
          refine g_lv [(0, .ref a), (1, .int (nI W)), (2, .long (lN P)), (4, .int (nI p)), (5, .int (nI n)), (6, .int (nI t)), (7, .int (nI i)), (8, .int (nI 0))] rfl ?_
          refine loopF (σ := Nat → Nat) (cnI s.1 W P i) (fun j E2 => G B M 10 0 0 Q [co a 4 [.ref (q 0), .ref (q 1), .ref (q 2), .int (nI tp), .int cd, .ref (q 3), .ref (q 4), .ref (q 5), .ref (q 6), .ref (q 7), .ref (q 8), .ref (q 9), .ref (q 10), .ref (q 11), .ref (q 12), .ref (q 13), .ref (q 14), .ref (q 15), .int (nI kd), .int (nI rt), .int (nI fl), .long (lN tt), .ref (q 16), .ref (q 17)], cj B (q 8) 16 (fun z9 => lN (s.1 z9)), cj B (q 7) 16 (fun z9 => lN (E2 z9))] [(0, .ref a), (1, .int (nI W)), (2, .long (lN P)), (4, .int (nI p)), (5, .int (nI n)), (6, .int (nI t)), (7, .int (nI i)), (8, .int (nI j))] 80 []) (cnM 16 i) E ?_ ?_
          · intro j E2 hk80 kk80
            have hm := cnM_or i
            show G B M 10 0 0 Q [co a 4 [.ref (q 0), .ref (q 1), .ref (q 2), .int (nI tp), .int cd, .ref (q 3), .ref (q 4), .ref (q 5), .ref (q 6), .ref (q 7), .ref (q 8), .ref (q 9), .ref (q 10), .ref (q 11), .ref (q 12), .ref (q 13), .ref (q 14), .ref (q 15), .int (nI kd), .int (nI rt), .int (nI fl), .long (lN tt), .ref (q 16), .ref (q 17)], cj B (q 8) 16 (fun z9 => lN (s.1 z9)), cj B (q 7) 16 (fun z9 => lN (E2 z9))] [(0, .ref a), (1, .int (nI W)), (2, .long (lN P)), (4, .int (nI p)), (5, .int (nI n)), (6, .int (nI t)), (7, .int (nI i)), (8, .int (nI j))] 80 []
            refine g_iload (pc := 80) X d_O_above_80 rfl ?_
            refine g_iconst (pc := 82) X (v := nI 5) d_O_above_82 (by decide) ?_
            refine g_icmp_geN (pc := 83) X (tgt := 145) d_O_above_83 (by decide) (by omega) (by omega) (fun h_83 => absurd h_83 (by omega)) (fun h_83 => ?_)
            refine g_iload (pc := 86) X d_O_above_86 rfl ?_
            refine g_iload (pc := 88) X d_O_above_88 rfl ?_
            refine g_iaddN (pc := 90) X (i + j) (by omega) d_O_above_90 ?_
            refine g_bipush (pc := 91) X (v := nI 16) d_O_above_91 (by decide) ?_
            refine g_icmp_geN (pc := 93) X (tgt := 145) d_O_above_93 (by decide) (by omega) (by omega) (fun h_93 => absurd h_93 (by omega)) (fun h_93 => ?_)
            refine g_aload_n (pc := 96) X (i := 0) d_O_above_96 rfl rfl ?_
            refine g_get (pc := 97) X in_O 0 rfl rfl 9 (by decide) wd_828 rfl d_O_above_97 ?_
            refine g_iload (pc := 100) X d_O_above_100 rfl ?_
            refine g_iload (pc := 102) X d_O_above_102 rfl ?_
            refine g_iaddN (pc := 104) X (i + j) (by omega) d_O_above_104 ?_
            refine g_dup2_11 (pc := 105) X d_O_above_105 rfl rfl ?_
            refine g_lald (pc := 106) X 2 rfl (i + j) rfl (by omega) (by omega) d_O_above_106 ?_
            refine g_aload_n (pc := 107) X (i := 0) d_O_above_107 rfl rfl ?_
            refine g_get (pc := 108) X in_O 0 rfl rfl 10 (by decide) wd_829 rfl d_O_above_108 ?_
            refine g_iload (pc := 111) X d_O_above_111 rfl ?_
            refine g_lald (pc := 113) X 1 rfl i rfl (by omega) (by omega) d_O_above_113 ?_
            refine g_iload (pc := 114) X d_O_above_114 rfl ?_
            refine g_iconst (pc := 116) X (v := nI 4) d_O_above_116 (by decide) ?_
            refine g_icmp_geN (pc := 117) X (tgt := 134) d_O_above_117 (by decide) (by omega) (by omega) (fun h_117 => ?_) (fun h_117 => ?_)
            · refine g_iload_n (pc := 134) X (i := 1) d_O_above_134 rfl rfl ?_
              refine g_i2l (pc := 135) X (v := lN W) d_O_above_135 (nI_l (by omega)) ?_
              refine g_setl (lN (dgW W P j)) (congrArg lN (dg_4 (by omega))) ?_
              refine g_lmul (pc := 136) X d_O_above_136 ?_
              refine g_setl (lN (s.1 i * dgW W P j)) (lN_mul _ _) ?_
              refine g_ladd (pc := 137) X d_O_above_137 ?_
              refine g_setl (lN (E2 (i + j) + s.1 i * dgW W P j)) (lN_add _ _) ?_
              refine g_last (pc := 138) X 2 rfl (i + j) rfl (by omega) (by omega) d_O_above_138 ?_
              refine g_wsq [co a 4 [.ref (q 0), .ref (q 1), .ref (q 2), .int (nI tp), .int cd, .ref (q 3), .ref (q 4), .ref (q 5), .ref (q 6), .ref (q 7), .ref (q 8), .ref (q 9), .ref (q 10), .ref (q 11), .ref (q 12), .ref (q 13), .ref (q 14), .ref (q 15), .int (nI kd), .int (nI rt), .int (nI fl), .long (lN tt), .ref (q 16), .ref (q 17)], cj B (q 8) 16 (fun z9 => lN (s.1 z9)), cj B (q 7) 16 (va_up (fun z9 => lN (E2 z9)) (i + j) (lN (E2 (i + j) + s.1 i * dgW W P j)))] rfl ?_
              rw [lN_up]
              refine g_iincN (pc := 139) X (a := j) (j + 1) d_O_above_139 rfl 1 rfl (by omega) (by decide) ?_
              refine g_lv [(0, .ref a), (1, .int (nI W)), (2, .long (lN P)), (4, .int (nI p)), (5, .int (nI n)), (6, .int (nI t)), (7, .int (nI i)), (8, .int (nI (j + 1)))] rfl ?_
              refine g_goto (pc := 142) X (tgt := 80) d_O_above_142 (by decide) ?_
              refine g_lv [(0, .ref a), (1, .int (nI W)), (2, .long (lN P)), (4, .int (nI p)), (5, .int (nI n)), (6, .int (nI t)), (7, .int (nI i)), (8, .int (nI (j + 1)))] rfl ?_
              exact kk80 (va_up E2 (i + j) (E2 (i + j) + s.1 i * dgW W P j)) (by rfl)
            · refine g_lload_n (pc := 120) X (i := 2) d_O_above_120 rfl rfl ?_
              refine g_bipush (pc := 121) X (v := nI 16) d_O_above_121 (by decide) ?_
              refine g_iload (pc := 123) X d_O_above_123 rfl ?_
              refine g_imulN (pc := 125) X (16 * j) rfl d_O_above_125 ?_
              refine g_lushr (pc := 126) X (v := lush (lN P) (nI (16 * j))) d_O_above_126 rfl ?_
              refine g_ldc2 (pc := 127) X wd_759 d_O_above_127 ?_
              refine g_land (pc := 130) X d_O_above_130 ?_
              refine g_setl (lN (dgW W P j)) (dg_and hP (by omega)) ?_
              refine g_goto (pc := 131) X (tgt := 136) d_O_above_131 (by decide) ?_
              refine g_lmul (pc := 136) X d_O_above_136 ?_
              refine g_setl (lN (s.1 i * dgW W P j)) (lN_mul _ _) ?_
              refine g_ladd (pc := 137) X d_O_above_137 ?_
              refine g_setl (lN (E2 (i + j) + s.1 i * dgW W P j)) (lN_add _ _) ?_
              refine g_last (pc := 138) X 2 rfl (i + j) rfl (by omega) (by omega) d_O_above_138 ?_
              refine g_wsq [co a 4 [.ref (q 0), .ref (q 1), .ref (q 2), .int (nI tp), .int cd, .ref (q 3), .ref (q 4), .ref (q 5), .ref (q 6), .ref (q 7), .ref (q 8), .ref (q 9), .ref (q 10), .ref (q 11), .ref (q 12), .ref (q 13), .ref (q 14), .ref (q 15), .int (nI kd), .int (nI rt), .int (nI fl), .long (lN tt), .ref (q 16), .ref (q 17)], cj B (q 8) 16 (fun z9 => lN (s.1 z9)), cj B (q 7) 16 (va_up (fun z9 => lN (E2 z9)) (i + j) (lN (E2 (i + j) + s.1 i * dgW W P j)))] rfl ?_
              rw [lN_up]
              refine g_iincN (pc := 139) X (a := j) (j + 1) d_O_above_139 rfl 1 rfl (by omega) (by decide) ?_
              refine g_lv [(0, .ref a), (1, .int (nI W)), (2, .long (lN P)), (4, .int (nI p)), (5, .int (nI n)), (6, .int (nI t)), (7, .int (nI i)), (8, .int (nI (j + 1)))] rfl ?_
              refine g_goto (pc := 142) X (tgt := 80) d_O_above_142 (by decide) ?_
              refine g_lv [(0, .ref a), (1, .int (nI W)), (2, .long (lN P)), (4, .int (nI p)), (5, .int (nI n)), (6, .int (nI t)), (7, .int (nI i)), (8, .int (nI (j + 1)))] rfl ?_
              exact kk80 (va_up E2 (i + j) (E2 (i + j) + s.1 i * dgW W P j)) (by rfl)
          · have hm := cnM_or i
            show G B M 10 0 0 Q [co a 4 [.ref (q 0), .ref (q 1), .ref (q 2), .int (nI tp), .int cd, .ref (q 3), .ref (q 4), .ref (q 5), .ref (q 6), .ref (q 7), .ref (q 8), .ref (q 9), .ref (q 10), .ref (q 11), .ref (q 12), .ref (q 13), .ref (q 14), .ref (q 15), .int (nI kd), .int (nI rt), .int (nI fl), .long (lN tt), .ref (q 16), .ref (q 17)], cj B (q 8) 16 (fun z9 => lN (s.1 z9)), cj B (q 7) 16 (fun z9 => lN ((it (cnI s.1 W P i) (cnM 16 i) E) z9))] [(0, .ref a), (1, .int (nI W)), (2, .long (lN P)), (4, .int (nI p)), (5, .int (nI n)), (6, .int (nI t)), (7, .int (nI i)), (8, .int (nI (cnM 16 i)))] 80 []
            refine g_iload (pc := 80) X d_O_above_80 rfl ?_
            refine g_iconst (pc := 82) X (v := nI 5) d_O_above_82 (by decide) ?_
            refine g_icmp_geN (pc := 83) X (tgt := 145) d_O_above_83 (by decide) (by omega) (by omega) (fun h_83 => ?_) (fun h_83 => ?_)
            · refine g_iincN (pc := 145) X (a := i) (i + 1) d_O_above_145 rfl 1 rfl (by omega) (by decide) ?_
              refine g_lv [(0, .ref a), (1, .int (nI W)), (2, .long (lN P)), (4, .int (nI p)), (5, .int (nI n)), (6, .int (nI t)), (7, .int (nI (i + 1))), (8, .int (nI (cnM 16 i)))] rfl ?_
              refine g_goto (pc := 148) X (tgt := 70) d_O_above_148 (by decide) ?_
              refine g_lv [(0, .ref a), (1, .int (nI W)), (2, .long (lN P)), (4, .int (nI p)), (5, .int (nI n)), (6, .int (nI t)), (7, .int (nI (i + 1)))] rfl ?_
              exact kk70 _ (by rfl)
            · refine g_iload (pc := 86) X d_O_above_86 rfl ?_
              refine g_iload (pc := 88) X d_O_above_88 rfl ?_
              refine g_iaddN (pc := 90) X (i + (cnM 16 i)) (by omega) d_O_above_90 ?_
              refine g_bipush (pc := 91) X (v := nI 16) d_O_above_91 (by decide) ?_
              refine g_icmp_geN (pc := 93) X (tgt := 145) d_O_above_93 (by decide) (by omega) (by omega) (fun h_93 => ?_) (fun h_93 => absurd h_93 (by omega))
              refine g_iincN (pc := 145) X (a := i) (i + 1) d_O_above_145 rfl 1 rfl (by omega) (by decide) ?_
              refine g_lv [(0, .ref a), (1, .int (nI W)), (2, .long (lN P)), (4, .int (nI p)), (5, .int (nI n)), (6, .int (nI t)), (7, .int (nI (i + 1))), (8, .int (nI (cnM 16 i)))] rfl ?_
              refine g_goto (pc := 148) X (tgt := 70) d_O_above_148 (by decide) ?_
              refine g_lv [(0, .ref a), (1, .int (nI W)), (2, .long (lN P)), (4, .int (nI p)), (5, .int (nI n)), (6, .int (nI t)), (7, .int (nI (i + 1)))] rfl ?_
              exact kk70 _ (by rfl)
        · rw [show it (cnF 16 s.1 W P) 16 (fun _ => 0) = cnv 16 s.1 W P from rfl]
          show G B M 10 0 0 Q [co a 4 [.ref (q 0), .ref (q 1), .ref (q 2), .int (nI tp), .int cd, .ref (q 3), .ref (q 4), .ref (q 5), .ref (q 6), .ref (q 7), .ref (q 8), .ref (q 9), .ref (q 10), .ref (q 11), .ref (q 12), .ref (q 13), .ref (q 14), .ref (q 15), .int (nI kd), .int (nI rt), .int (nI fl), .long (lN tt), .ref (q 16), .ref (q 17)], cj B (q 8) 16 (fun z9 => lN (s.1 z9)), cj B (q 7) 16 (fun z9 => lN ((cnv 16 s.1 W P) z9))] [(0, .ref a), (1, .int (nI W)), (2, .long (lN P)), (4, .int (nI p)), (5, .int (nI n)), (6, .int (nI t)), (7, .int (nI 16))] 70 []
          refine g_iload (pc := 70) X d_O_above_70 rfl ?_
          refine g_bipush (pc := 72) X (v := nI 16) d_O_above_72 (by decide) ?_
          refine g_icmp_geN (pc := 74) X (tgt := 151) d_O_above_74 (by decide) (by omega) (by omega) (fun h_74 => ?_) (fun h_74 => absurd h_74 (by omega))
          refine g_lconst (pc := 151) X (v := 0) d_O_above_151 (by decide) ?_
          refine g_setl (lN 0) rfl ?_
          refine g_lstore (pc := 152) X d_O_above_152 (by decide) ?_
          refine g_lv [(0, .ref a), (1, .int (nI W)), (2, .long (lN P)), (4, .int (nI p)), (5, .int (nI n)), (6, .int (nI t)), (7, .long (lN 0))] rfl ?_
          refine g_iconst (pc := 154) X (v := nI 0) d_O_above_154 (by decide) ?_
          refine g_istore (pc := 155) X d_O_above_155 (by decide) ?_
          refine g_lv [(0, .ref a), (1, .int (nI W)), (2, .long (lN P)), (4, .int (nI p)), (5, .int (nI n)), (6, .int (nI t)), (7, .long (lN 0)), (9, .int (nI 0))] rfl ?_
          refine g_lv [(0, .ref a), (1, .int (nI W)), (2, .long (lN P)), (4, .int (nI p)), (5, .int (nI n)), (6, .int (nI t)), (7, .long (lN 0)), (9, .int (nI 0))] rfl ?_
          refine loopI (σ := NC) (nrF (cnv 16 s.1 W P)) (fun i c => c.1 ≤ 4294967296) (fun i c => G B M 10 0 0 Q [co a 4 [.ref (q 0), .ref (q 1), .ref (q 2), .int (nI tp), .int cd, .ref (q 3), .ref (q 4), .ref (q 5), .ref (q 6), .ref (q 7), .ref (q 8), .ref (q 9), .ref (q 10), .ref (q 11), .ref (q 12), .ref (q 13), .ref (q 14), .ref (q 15), .int (nI kd), .int (nI rt), .int (nI fl), .long (lN tt), .ref (q 16), .ref (q 17)], cj B (q 8) 16 (fun z9 => lN (c.2 z9)), cj B (q 7) 16 (fun z9 => lN ((cnv 16 s.1 W P) z9))] [(0, .ref a), (1, .int (nI W)), (2, .long (lN P)), (4, .int (nI p)), (5, .int (nI n)), (6, .int (nI t)), (7, .long (lN c.1)), (9, .int (nI i))] 157 []) 16 (0, s.1) (Nat.zero_le _) (fun i c _ h => by have h9 := hE i; show (c.1 + cnv 16 s.1 W P i) / 65536 ≤ 4294967296; omega) ?_ ?_
          · intro i c hk157 hI157 kk157
            have hE9 := hE i
            show G B M 10 0 0 Q [co a 4 [.ref (q 0), .ref (q 1), .ref (q 2), .int (nI tp), .int cd, .ref (q 3), .ref (q 4), .ref (q 5), .ref (q 6), .ref (q 7), .ref (q 8), .ref (q 9), .ref (q 10), .ref (q 11), .ref (q 12), .ref (q 13), .ref (q 14), .ref (q 15), .int (nI kd), .int (nI rt), .int (nI fl), .long (lN tt), .ref (q 16), .ref (q 17)], cj B (q 8) 16 (fun z9 => lN (c.2 z9)), cj B (q 7) 16 (fun z9 => lN ((cnv 16 s.1 W P) z9))] [(0, .ref a), (1, .int (nI W)), (2, .long (lN P)), (4, .int (nI p)), (5, .int (nI n)), (6, .int (nI t)), (7, .long (lN c.1)), (9, .int (nI i))] 157 []
            refine g_iload (pc := 157) X d_O_above_157 rfl ?_
            refine g_bipush (pc := 159) X (v := nI 16) d_O_above_159 (by decide) ?_
            refine g_icmp_geN (pc := 161) X (tgt := 202) d_O_above_161 (by decide) (by omega) (by omega) (fun h_161 => absurd h_161 (by omega)) (fun h_161 => ?_)
            refine g_lload (pc := 164) X d_O_above_164 rfl ?_
            refine g_aload_n (pc := 166) X (i := 0) d_O_above_166 rfl rfl ?_
            refine g_get (pc := 167) X in_O 0 rfl rfl 9 (by decide) wd_828 rfl d_O_above_167 ?_
            refine g_iload (pc := 170) X d_O_above_170 rfl ?_
            refine g_lald (pc := 172) X 2 rfl i rfl (by omega) (by omega) d_O_above_172 ?_
            refine g_ladd (pc := 173) X d_O_above_173 ?_
            refine g_setl (lN (c.1 + cnv 16 s.1 W P i)) (lN_add _ _) ?_
            refine g_lstore (pc := 174) X d_O_above_174 (by decide) ?_
            refine g_lv [(0, .ref a), (1, .int (nI W)), (2, .long (lN P)), (4, .int (nI p)), (5, .int (nI n)), (6, .int (nI t)), (7, .long (lN (c.1 + cnv 16 s.1 W P i))), (9, .int (nI i))] rfl ?_
            refine g_aload_n (pc := 176) X (i := 0) d_O_above_176 rfl rfl ?_
            refine g_get (pc := 177) X in_O 0 rfl rfl 10 (by decide) wd_829 rfl d_O_above_177 ?_
            refine g_iload (pc := 180) X d_O_above_180 rfl ?_
            refine g_lload (pc := 182) X d_O_above_182 rfl ?_
            refine g_ldc2 (pc := 184) X wd_759 d_O_above_184 ?_
            refine g_land (pc := 187) X d_O_above_187 ?_
            refine g_setl (lN ((c.1 + cnv 16 s.1 W P i) % 65536)) (lN_and16 _) ?_
            refine g_last (pc := 188) X 1 rfl i rfl (by omega) (by omega) d_O_above_188 ?_
            refine g_wsq [co a 4 [.ref (q 0), .ref (q 1), .ref (q 2), .int (nI tp), .int cd, .ref (q 3), .ref (q 4), .ref (q 5), .ref (q 6), .ref (q 7), .ref (q 8), .ref (q 9), .ref (q 10), .ref (q 11), .ref (q 12), .ref (q 13), .ref (q 14), .ref (q 15), .int (nI kd), .int (nI rt), .int (nI fl), .long (lN tt), .ref (q 16), .ref (q 17)], cj B (q 8) 16 (va_up (fun z9 => lN (c.2 z9)) i (lN ((c.1 + cnv 16 s.1 W P i) % 65536))), cj B (q 7) 16 (fun z9 => lN ((cnv 16 s.1 W P) z9))] rfl ?_
            rw [lN_up]
            refine g_lload (pc := 189) X d_O_above_189 rfl ?_
            refine g_bipush (pc := 191) X (v := nI 16) d_O_above_191 (by decide) ?_
            refine g_lushr (pc := 193) X (v := lush (lN (c.1 + cnv 16 s.1 W P i)) (nI 16)) d_O_above_193 rfl ?_
            refine g_setl (lN ((c.1 + cnv 16 s.1 W P i) / 65536)) (lN_ush16 (by omega)) ?_
            refine g_lstore (pc := 194) X d_O_above_194 (by decide) ?_
            refine g_lv [(0, .ref a), (1, .int (nI W)), (2, .long (lN P)), (4, .int (nI p)), (5, .int (nI n)), (6, .int (nI t)), (7, .long (lN ((c.1 + cnv 16 s.1 W P i) / 65536))), (9, .int (nI i))] rfl ?_
            refine g_iincN (pc := 196) X (a := i) (i + 1) d_O_above_196 rfl 1 rfl (by omega) (by decide) ?_
            refine g_lv [(0, .ref a), (1, .int (nI W)), (2, .long (lN P)), (4, .int (nI p)), (5, .int (nI n)), (6, .int (nI t)), (7, .long (lN ((c.1 + cnv 16 s.1 W P i) / 65536))), (9, .int (nI (i + 1)))] rfl ?_
            refine g_goto (pc := 199) X (tgt := 157) d_O_above_199 (by decide) ?_
            refine g_lv [(0, .ref a), (1, .int (nI W)), (2, .long (lN P)), (4, .int (nI p)), (5, .int (nI n)), (6, .int (nI t)), (7, .long (lN ((c.1 + cnv 16 s.1 W P i) / 65536))), (9, .int (nI (i + 1)))] rfl ?_
            exact kk157 ((c.1 + cnv 16 s.1 W P i) / 65536, va_up c.2 i ((c.1 + cnv 16 s.1 W P i) % 65536)) (by rfl)
          · intro hI157
            show G B M 10 0 0 Q [co a 4 [.ref (q 0), .ref (q 1), .ref (q 2), .int (nI tp), .int cd, .ref (q 3), .ref (q 4), .ref (q 5), .ref (q 6), .ref (q 7), .ref (q 8), .ref (q 9), .ref (q 10), .ref (q 11), .ref (q 12), .ref (q 13), .ref (q 14), .ref (q 15), .int (nI kd), .int (nI rt), .int (nI fl), .long (lN tt), .ref (q 16), .ref (q 17)], cj B (q 8) 16 (fun z9 => lN ((it (nrF (cnv 16 s.1 W P)) 16 (0, s.1)).2 z9)), cj B (q 7) 16 (fun z9 => lN ((cnv 16 s.1 W P) z9))] [(0, .ref a), (1, .int (nI W)), (2, .long (lN P)), (4, .int (nI p)), (5, .int (nI n)), (6, .int (nI t)), (7, .long (lN (it (nrF (cnv 16 s.1 W P)) 16 (0, s.1)).1)), (9, .int (nI 16))] 157 []
            refine g_iload (pc := 157) X d_O_above_157 rfl ?_
            refine g_bipush (pc := 159) X (v := nI 16) d_O_above_159 (by decide) ?_
            refine g_icmp_geN (pc := 161) X (tgt := 202) d_O_above_161 (by decide) (by omega) (by omega) (fun h_161 => ?_) (fun h_161 => absurd h_161 (by omega))
            refine g_iincN (pc := 202) X (a := t) (t + 1) d_O_above_202 rfl 1 rfl (by omega) (by decide) ?_
            refine g_lv [(0, .ref a), (1, .int (nI W)), (2, .long (lN P)), (4, .int (nI p)), (5, .int (nI n)), (6, .int (nI (t + 1))), (7, .long (lN (it (nrF (cnv 16 s.1 W P)) 16 (0, s.1)).1)), (9, .int (nI 16))] rfl ?_
            refine g_goto (pc := 205) X (tgt := 36) d_O_above_205 (by decide) ?_
            refine g_lv [(0, .ref a), (1, .int (nI W)), (2, .long (lN P)), (4, .int (nI p)), (5, .int (nI n)), (6, .int (nI (t + 1)))] rfl ?_
            exact kk36 (mul1 16 W P t s.1, fun z9 => lN (cnv 16 s.1 W P z9)) (by rfl)
    · intro hI36
      show G B M 10 0 0 Q [co a 4 [.ref (q 0), .ref (q 1), .ref (q 2), .int (nI tp), .int cd, .ref (q 3), .ref (q 4), .ref (q 5), .ref (q 6), .ref (q 7), .ref (q 8), .ref (q 9), .ref (q 10), .ref (q 11), .ref (q 12), .ref (q 13), .ref (q 14), .ref (q 15), .int (nI kd), .int (nI rt), .int (nI fl), .long (lN tt), .ref (q 16), .ref (q 17)], cj B (q 8) 16 (fun z9 => lN ((it (mwF W P) p (oneN, lm)).1 z9)), cj B (q 7) 16 ((it (mwF W P) p (oneN, lm)).2)] [(0, .ref a), (1, .int (nI W)), (2, .long (lN P)), (4, .int (nI p)), (5, .int (nI n)), (6, .int (nI p))] 36 []
      refine g_iload (pc := 36) X d_O_above_36 rfl ?_
      refine g_iload (pc := 38) X d_O_above_38 rfl ?_
      refine g_icmp_geN (pc := 40) X (tgt := 208) d_O_above_40 (by decide) (by omega) (by omega) (fun h_40 => ?_) (fun h_40 => absurd h_40 (by omega))
      rw [mw_1]
      refine g_aload_n (pc := 208) X (i := 0) d_O_above_208 rfl rfl ?_
      refine g_get (pc := 209) X in_O 0 rfl rfl 10 (by decide) wd_829 rfl d_O_above_209 ?_
      refine g_iconst (pc := 212) X (v := nI 4) d_O_above_212 (by decide) ?_
      refine g_iload (pc := 213) X d_O_above_213 rfl ?_
      refine g_imulN (pc := 215) X (4 * p) rfl d_O_above_215 ?_
      refine g_lald (pc := 216) X 1 rfl (4 * p) rfl (by omega) (by omega) d_O_above_216 ?_
      refine g_aload_n (pc := 217) X (i := 0) d_O_above_217 rfl rfl ?_
      refine g_get (pc := 218) X in_O 0 rfl rfl 10 (by decide) wd_829 rfl d_O_above_218 ?_
      refine g_iconst (pc := 221) X (v := nI 4) d_O_above_221 (by decide) ?_
      refine g_iload (pc := 222) X d_O_above_222 rfl ?_
      refine g_imulN (pc := 224) X (4 * p) rfl d_O_above_224 ?_
      refine g_iconst (pc := 225) X (v := nI 1) d_O_above_225 (by decide) ?_
      refine g_iaddN (pc := 226) X (4 * p + 1) (by omega) d_O_above_226 ?_
      refine g_lald (pc := 227) X 1 rfl (4 * p + 1) rfl (by omega) (by omega) d_O_above_227 ?_
      refine g_bipush (pc := 228) X (v := nI 16) d_O_above_228 (by decide) ?_
      refine g_lshl (pc := 230) X (v := lshl (lN (pwr 16 W P p (4 * p + 1))) (nI 16)) d_O_above_230 rfl ?_
      refine g_setl (lN (pwr 16 W P p (4 * p + 1) * 65536)) (lN_shl16 _) ?_
      refine g_ladd (pc := 231) X d_O_above_231 ?_
      refine g_setl (lN (tpN 16 W P p)) (lN_add _ _) ?_
      refine g_lstore (pc := 232) X d_O_above_232 (by decide) ?_
      refine g_lv [(0, .ref a), (1, .int (nI W)), (2, .long (lN P)), (4, .int (nI p)), (5, .int (nI n)), (6, .long (lN (tpN 16 W P p)))] rfl ?_
      refine g_iconst (pc := 234) X (v := nI 0) d_O_above_234 (by decide) ?_
      refine g_istore (pc := 235) X d_O_above_235 (by decide) ?_
      refine g_lv [(0, .ref a), (1, .int (nI W)), (2, .long (lN P)), (4, .int (nI p)), (5, .int (nI n)), (6, .long (lN (tpN 16 W P p))), (8, .int (nI 0))] rfl ?_
      refine g_iconst (pc := 237) X (v := nI 0) d_O_above_237 (by decide) ?_
      refine g_istore (pc := 238) X d_O_above_238 (by decide) ?_
      refine g_lv [(0, .ref a), (1, .int (nI W)), (2, .long (lN P)), (4, .int (nI p)), (5, .int (nI n)), (6, .long (lN (tpN 16 W P p))), (8, .int (nI 0)), (9, .int (nI 0))] rfl ?_
      refine g_lv [(0, .ref a), (4, .int (nI p)), (5, .int (nI n)), (6, .long (lN (tpN 16 W P p))), (8, .int (nI 0)), (9, .int (nI 0))] rfl ?_
      refine g_lve [(0, .ref a), (4, .int (nI p)), (5, .int (nI n)), (6, .long (lN (tpN 16 W P p))), (8, .int (nI (rsN (pwr 16 W P p) 0))), (9, .int (nI 0))] (by rfl) ?_
      refine g_wsq [co a 4 [.ref (q 0), .ref (q 1), .ref (q 2), .int (nI tp), .int cd, .ref (q 3), .ref (q 4), .ref (q 5), .ref (q 6), .ref (q 7), .ref (q 8), .ref (q 9), .ref (q 10), .ref (q 11), .ref (q 12), .ref (q 13), .ref (q 14), .ref (q 15), .int (nI kd), .int (nI rt), .int (nI fl), .long (lN tt), .ref (q 16), .ref (q 17)], cj B (q 8) 16 (fun z9 => lN (pwr 16 W P p z9)), cj B (q 7) 16 ((it (mwF W P) p (oneN, lm)).2)] (by rfl) ?_
      refine loopK (fun k => G B M 10 0 0 Q [co a 4 [.ref (q 0), .ref (q 1), .ref (q 2), .int (nI tp), .int cd, .ref (q 3), .ref (q 4), .ref (q 5), .ref (q 6), .ref (q 7), .ref (q 8), .ref (q 9), .ref (q 10), .ref (q 11), .ref (q 12), .ref (q 13), .ref (q 14), .ref (q 15), .int (nI kd), .int (nI rt), .int (nI fl), .long (lN tt), .ref (q 16), .ref (q 17)], cj B (q 8) 16 (fun z9 => lN (pwr 16 W P p z9)), cj B (q 7) 16 ((it (mwF W P) p (oneN, lm)).2)] [(0, .ref a), (4, .int (nI p)), (5, .int (nI n)), (6, .long (lN (tpN 16 W P p))), (8, .int (nI (rsN (pwr 16 W P p) k))), (9, .int (nI k))] 240 []) (4 * p) ?_ ?_
      · intro k hk240 kk240
        have hb9 : pwr 16 W P p k < 2 ^ 31 := Nat.lt_of_lt_of_le (hD9 k (by omega)) (by decide)
        show G B M 10 0 0 Q [co a 4 [.ref (q 0), .ref (q 1), .ref (q 2), .int (nI tp), .int cd, .ref (q 3), .ref (q 4), .ref (q 5), .ref (q 6), .ref (q 7), .ref (q 8), .ref (q 9), .ref (q 10), .ref (q 11), .ref (q 12), .ref (q 13), .ref (q 14), .ref (q 15), .int (nI kd), .int (nI rt), .int (nI fl), .long (lN tt), .ref (q 16), .ref (q 17)], cj B (q 8) 16 (fun z9 => lN (pwr 16 W P p z9)), cj B (q 7) 16 ((it (mwF W P) p (oneN, lm)).2)] [(0, .ref a), (4, .int (nI p)), (5, .int (nI n)), (6, .long (lN (tpN 16 W P p))), (8, .int (nI (rsN (pwr 16 W P p) k))), (9, .int (nI k))] 240 []
        refine g_iload (pc := 240) X d_O_above_240 rfl ?_
        refine g_iconst (pc := 242) X (v := nI 4) d_O_above_242 (by decide) ?_
        refine g_iload (pc := 243) X d_O_above_243 rfl ?_
        refine g_imulN (pc := 245) X (4 * p) rfl d_O_above_245 ?_
        refine g_icmp_geN (pc := 246) X (tgt := 270) d_O_above_246 (by decide) (by omega) (by omega) (fun h_246 => absurd h_246 (by omega)) (fun h_246 => ?_)
        refine g_aload_n (pc := 249) X (i := 0) d_O_above_249 rfl rfl ?_
        refine g_get (pc := 250) X in_O 0 rfl rfl 10 (by decide) wd_829 rfl d_O_above_250 ?_
        refine g_iload (pc := 253) X d_O_above_253 rfl ?_
        refine g_lald (pc := 255) X 1 rfl k rfl (by omega) (by omega) d_O_above_255 ?_
        refine g_lconst (pc := 256) X (v := 0) d_O_above_256 (by decide) ?_
        refine g_lcmp (pc := 257) X d_O_above_257 ?_
        refine g_if_eq (pc := 258) X (tgt := 264) d_O_above_258 (by decide) (fun h_258 => ?_) (fun h_258 => ?_)
        · refine g_iincN (pc := 264) X (a := k) (k + 1) d_O_above_264 rfl 1 rfl (by omega) (by decide) ?_
          refine g_lv [(0, .ref a), (4, .int (nI p)), (5, .int (nI n)), (6, .long (lN (tpN 16 W P p))), (8, .int (nI (rsN (pwr 16 W P p) k))), (9, .int (nI (k + 1)))] rfl ?_
          refine g_goto (pc := 267) X (tgt := 240) d_O_above_267 (by decide) ?_
          refine g_lv [(0, .ref a), (4, .int (nI p)), (5, .int (nI n)), (6, .long (lN (tpN 16 W P p))), (8, .int (nI (rsN (pwr 16 W P p) k))), (9, .int (nI (k + 1)))] rfl ?_
          refine g_lve [(0, .ref a), (4, .int (nI p)), (5, .int (nI n)), (6, .long (lN (tpN 16 W P p))), (8, .int (nI (rsN (pwr 16 W P p) (k + 1)))), (9, .int (nI (k + 1)))] (by first | rw [rs_0 ((lN_z hb9).mp h_258)] | rw [← rs_1 (fun h => h_258 ((lN_z hb9).mpr h))]) ?_
          refine g_wsq [co a 4 [.ref (q 0), .ref (q 1), .ref (q 2), .int (nI tp), .int cd, .ref (q 3), .ref (q 4), .ref (q 5), .ref (q 6), .ref (q 7), .ref (q 8), .ref (q 9), .ref (q 10), .ref (q 11), .ref (q 12), .ref (q 13), .ref (q 14), .ref (q 15), .int (nI kd), .int (nI rt), .int (nI fl), .long (lN tt), .ref (q 16), .ref (q 17)], cj B (q 8) 16 (fun z9 => lN (pwr 16 W P p z9)), cj B (q 7) 16 ((it (mwF W P) p (oneN, lm)).2)] (by rfl) ?_
          exact kk240
        · refine g_iconst (pc := 261) X (v := nI 1) d_O_above_261 (by decide) ?_
          refine g_istore (pc := 262) X d_O_above_262 (by decide) ?_
          refine g_lv [(0, .ref a), (4, .int (nI p)), (5, .int (nI n)), (6, .long (lN (tpN 16 W P p))), (8, .int (nI 1)), (9, .int (nI k))] rfl ?_
          refine g_iincN (pc := 264) X (a := k) (k + 1) d_O_above_264 rfl 1 rfl (by omega) (by decide) ?_
          refine g_lv [(0, .ref a), (4, .int (nI p)), (5, .int (nI n)), (6, .long (lN (tpN 16 W P p))), (8, .int (nI 1)), (9, .int (nI (k + 1)))] rfl ?_
          refine g_goto (pc := 267) X (tgt := 240) d_O_above_267 (by decide) ?_
          refine g_lv [(0, .ref a), (4, .int (nI p)), (5, .int (nI n)), (6, .long (lN (tpN 16 W P p))), (8, .int (nI 1)), (9, .int (nI (k + 1)))] rfl ?_
          refine g_lve [(0, .ref a), (4, .int (nI p)), (5, .int (nI n)), (6, .long (lN (tpN 16 W P p))), (8, .int (nI (rsN (pwr 16 W P p) (k + 1)))), (9, .int (nI (k + 1)))] (by first | rw [rs_0 ((lN_z hb9).mp h_258)] | rw [← rs_1 (fun h => h_258 ((lN_z hb9).mpr h))]) ?_
          refine g_wsq [co a 4 [.ref (q 0), .ref (q 1), .ref (q 2), .int (nI tp), .int cd, .ref (q 3), .ref (q 4), .ref (q 5), .ref (q 6), .ref (q 7), .ref (q 8), .ref (q 9), .ref (q 10), .ref (q 11), .ref (q 12), .ref (q 13), .ref (q 14), .ref (q 15), .int (nI kd), .int (nI rt), .int (nI fl), .long (lN tt), .ref (q 16), .ref (q 17)], cj B (q 8) 16 (fun z9 => lN (pwr 16 W P p z9)), cj B (q 7) 16 ((it (mwF W P) p (oneN, lm)).2)] (by rfl) ?_
          exact kk240
      · show G B M 10 0 0 Q [co a 4 [.ref (q 0), .ref (q 1), .ref (q 2), .int (nI tp), .int cd, .ref (q 3), .ref (q 4), .ref (q 5), .ref (q 6), .ref (q 7), .ref (q 8), .ref (q 9), .ref (q 10), .ref (q 11), .ref (q 12), .ref (q 13), .ref (q 14), .ref (q 15), .int (nI kd), .int (nI rt), .int (nI fl), .long (lN tt), .ref (q 16), .ref (q 17)], cj B (q 8) 16 (fun z9 => lN (pwr 16 W P p z9)), cj B (q 7) 16 ((it (mwF W P) p (oneN, lm)).2)] [(0, .ref a), (4, .int (nI p)), (5, .int (nI n)), (6, .long (lN (tpN 16 W P p))), (8, .int (nI (rsN (pwr 16 W P p) (4 * p)))), (9, .int (nI (4 * p)))] 240 []
        refine g_iload (pc := 240) X d_O_above_240 rfl ?_
        refine g_iconst (pc := 242) X (v := nI 4) d_O_above_242 (by decide) ?_
        refine g_iload (pc := 243) X d_O_above_243 rfl ?_
        refine g_imulN (pc := 245) X (4 * p) rfl d_O_above_245 ?_
        refine g_icmp_geN (pc := 246) X (tgt := 270) d_O_above_246 (by decide) (by omega) (by omega) (fun h_246 => ?_) (fun h_246 => absurd h_246 (by omega))
        refine g_lload (pc := 270) X d_O_above_270 rfl ?_
        refine g_iload (pc := 272) X d_O_above_272 rfl ?_
        refine g_i2l (pc := 274) X (v := lN n) d_O_above_274 (nI_l (by omega)) ?_
        refine g_lcmp (pc := 275) X d_O_above_275 ?_
        refine g_if_gt (pc := 276) X (tgt := 293) d_O_above_276 (by decide) (fun h_276 => ?_) (fun h_276 => ?_)
        · refine g_iconst (pc := 293) X (v := nI 1) d_O_above_293 (by decide) ?_
          refine g_goto (pc := 294) X (tgt := 298) d_O_above_294 (by decide) ?_
          exact kret _ (fun z9 => lN (pwr 16 W P p z9), (it (mwF W P) p (oneN, lm)).2) _ 298 ⟨by rfl, by first | exact ab_A hW hP hp hn h_276 | exact ab_B hW hP hp hn h_285 (by omega) | exact ab_C hW hP hp hn h_276 h_285 | exact ab_D hW hP hp hn h_276 (by omega)⟩ d_O_above_298
        · refine g_lload (pc := 279) X d_O_above_279 rfl ?_
          refine g_iload (pc := 281) X d_O_above_281 rfl ?_
          refine g_i2l (pc := 283) X (v := lN n) d_O_above_283 (nI_l (by omega)) ?_
          refine g_lcmp (pc := 284) X d_O_above_284 ?_
          refine g_if_ne (pc := 285) X (tgt := 297) d_O_above_285 (by decide) (fun h_285 => ?_) (fun h_285 => ?_)
          · refine g_iconst (pc := 297) X (v := nI 0) d_O_above_297 (by decide) ?_
            exact kret _ (fun z9 => lN (pwr 16 W P p z9), (it (mwF W P) p (oneN, lm)).2) _ 298 ⟨by rfl, by first | exact ab_A hW hP hp hn h_276 | exact ab_B hW hP hp hn h_285 (by omega) | exact ab_C hW hP hp hn h_276 h_285 | exact ab_D hW hP hp hn h_276 (by omega)⟩ d_O_above_298
          · refine g_iload (pc := 288) X d_O_above_288 rfl ?_
            refine g_if_eqN (pc := 290) X (tgt := 297) d_O_above_290 (by decide) (by omega) (fun h_290 => ?_) (fun h_290 => ?_)
            · refine g_iconst (pc := 297) X (v := nI 0) d_O_above_297 (by decide) ?_
              exact kret _ (fun z9 => lN (pwr 16 W P p z9), (it (mwF W P) p (oneN, lm)).2) _ 298 ⟨by rfl, by first | exact ab_A hW hP hp hn h_276 | exact ab_B hW hP hp hn h_285 (by omega) | exact ab_C hW hP hp hn h_276 h_285 | exact ab_D hW hP hp hn h_276 (by omega)⟩ d_O_above_298
            · refine g_iconst (pc := 293) X (v := nI 1) d_O_above_293 (by decide) ?_
              refine g_goto (pc := 294) X (tgt := 298) d_O_above_294 (by decide) ?_
              exact kret _ (fun z9 => lN (pwr 16 W P p z9), (it (mwF W P) p (oneN, lm)).2) _ 298 ⟨by rfl, by first | exact ab_A hW hP hp hn h_276 | exact ab_B hW hP hp hn h_285 (by omega) | exact ab_C hW hP hp hn h_276 h_285 | exact ab_D hW hP hp hn h_276 (by omega)⟩ d_O_above_298
