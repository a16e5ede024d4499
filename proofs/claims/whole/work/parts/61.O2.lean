theorem c_O_permute (l : Launch) (B : Bx) (a : Nat) (q : Nat → Nat) (tp : Nat) (kd : Nat) (rt : Nat) (fl : Nat) (tt : Nat) (cd : Int32) (S : Nat → Int64) (o : Nat → Int64) (c : Nat → Int64) (T : Nat → Int32) (rn : Nat → Int64)  : Cv (S := Unit) l B y_O_permute b_O_permute 4 (Rm 2 0 0) [.ref a] [co a 4 [.ref (q 0), .ref (q 1), .ref (q 2), .int (nI tp), .int cd, .ref (q 3), .ref (q 4), .ref (q 5), .ref (q 6), .ref (q 7), .ref (q 8), .ref (q 9), .ref (q 10), .ref (q 11), .ref (q 12), .ref (q 13), .ref (q 14), .ref (q 15), .int (nI kd), .int (nI rt), .int (nI fl), .long (lN tt), .ref (q 16), .ref (q 17)], cj B (q 11) 25 S, cj B (q 12) 25 o, cj B (q 13) 5 c, cn B (q 9) 25 T, cj B (q 10) 24 rn] (fun _ => True) (fun _ => [co a 4 [.ref (q 0), .ref (q 1), .ref (q 2), .int (nI tp), .int cd, .ref (q 3), .ref (q 4), .ref (q 5), .ref (q 6), .ref (q 7), .ref (q 8), .ref (q 9), .ref (q 10), .ref (q 11), .ref (q 12), .ref (q 13), .ref (q 14), .ref (q 15), .int (nI kd), .int (nI rt), .int (nI fl), .long (lN tt), .ref (q 16), .ref (q 17)], cj B (q 11) 25 ((rprm T rn (S, o, c)).1), cj B (q 12) 25 ((rprm T rn (S, o, c)).2.1), cj B (q 13) 5 ((rprm T rn (S, o, c)).2.2), cn B (q 9) 25 T, cj B (q 10) 24 rn]) := by
  refine ctr_v (by decide) (Nat.le_of_ble_eq_true rfl) ?_
  intro M Q hl hR hin X kret
  subst hl
  refine g_lv [(0, .ref a)] rfl ?_
  refine g_iconst (pc := 0) X (v := nI 0) d_O_permute_0 (by decide) ?_
  refine g_istore_n (pc := 1) X (i := 1) d_O_permute_1 rfl (by decide) ?_
  refine g_lv [(0, .ref a), (1, .int (nI 0))] rfl ?_
  refine g_lv [(0, .ref a), (1, .int (nI 0))] rfl ?_
  refine loopF (σ := S3) (rpF T rn) (fun i s => G B M 4 0 0 Q [co a 4 [.ref (q 0), .ref (q 1), .ref (q 2), .int (nI tp), .int cd, .ref (q 3), .ref (q 4), .ref (q 5), .ref (q 6), .ref (q 7), .ref (q 8), .ref (q 9), .ref (q 10), .ref (q 11), .ref (q 12), .ref (q 13), .ref (q 14), .ref (q 15), .int (nI kd), .int (nI rt), .int (nI fl), .long (lN tt), .ref (q 16), .ref (q 17)], cj B (q 11) 25 s.1, cj B (q 12) 25 s.2.1, cj B (q 13) 5 s.2.2, cn B (q 9) 25 T, cj B (q 10) 24 rn] [(0, .ref a), (1, .int (nI i))] 2 []) 24 (S, o, c) ?_ ?_
  · intro i s hk2 kk2
    show G B M 4 0 0 Q [co a 4 [.ref (q 0), .ref (q 1), .ref (q 2), .int (nI tp), .int cd, .ref (q 3), .ref (q 4), .ref (q 5), .ref (q 6), .ref (q 7), .ref (q 8), .ref (q 9), .ref (q 10), .ref (q 11), .ref (q 12), .ref (q 13), .ref (q 14), .ref (q 15), .int (nI kd), .int (nI rt), .int (nI fl), .long (lN tt), .ref (q 16), .ref (q 17)], cj B (q 11) 25 s.1, cj B (q 12) 25 s.2.1, cj B (q 13) 5 s.2.2, cn B (q 9) 25 T, cj B (q 10) 24 rn] [(0, .ref a), (1, .int (nI i))] 2 []
    refine g_iload_n (pc := 2) X (i := 1) d_O_permute_2 rfl rfl ?_
    refine g_bipush (pc := 3) X (v := nI 24) d_O_permute_3 (by decide) ?_
    refine g_icmp_geN (pc := 5) X (tgt := 292) d_O_permute_5 (by decide) (by omega) (by omega) (fun h_5 => absurd h_5 (by omega)) (fun h_5 => ?_)
    refine g_iconst (pc := 8) X (v := nI 0) d_O_permute_8 (by decide) ?_
    refine g_istore_n (pc := 9) X (i := 2) d_O_permute_9 rfl (by decide) ?_
    refine g_lv [(0, .ref a), (1, .int (nI i)), (2, .int (nI 0))] rfl ?_
    refine g_lv [(0, .ref a), (1, .int (nI i)), (2, .int (nI 0))] rfl ?_
    refine loopF (σ := Nat → Int64) (rcF s.1) (fun a1 x => G B M 4 0 0 Q [co a 4 [.ref (q 0), .ref (q 1), .ref (q 2), .int (nI tp), .int cd, .ref (q 3), .ref (q 4), .ref (q 5), .ref (q 6), .ref (q 7), .ref (q 8), .ref (q 9), .ref (q 10), .ref (q 11), .ref (q 12), .ref (q 13), .ref (q 14), .ref (q 15), .int (nI kd), .int (nI rt), .int (nI fl), .long (lN tt), .ref (q 16), .ref (q 17)], cj B (q 11) 25 s.1, cj B (q 12) 25 s.2.1, cj B (q 13) 5 x, cn B (q 9) 25 T, cj B (q 10) 24 rn] [(0, .ref a), (1, .int (nI i)), (2, .int (nI a1))] 10 []) 5 s.2.2 ?_ ?_
    · intro a1 x hk10 kk10
      show G B M 4 0 0 Q [co a 4 [.ref (q 0), .ref (q 1), .ref (q 2), .int (nI tp), .int cd, .ref (q 3), .ref (q 4), .ref (q 5), .ref (q 6), .ref (q 7), .ref (q 8), .ref (q 9), .ref (q 10), .ref (q 11), .ref (q 12), .ref (q 13), .ref (q 14), .ref (q 15), .int (nI kd), .int (nI rt), .int (nI fl), .long (lN tt), .ref (q 16), .ref (q 17)], cj B (q 11) 25 s.1, cj B (q 12) 25 s.2.1, cj B (q 13) 5 x, cn B (q 9) 25 T, cj B (q 10) 24 rn] [(0, .ref a), (1, .int (nI i)), (2, .int (nI a1))] 10 []
      refine g_iload_n (pc := 10) X (i := 2) d_O_permute_10 rfl rfl ?_
      refine g_iconst (pc := 11) X (v := nI 5) d_O_permute_11 (by decide) ?_
      refine g_icmp_geN (pc := 12) X (tgt := 60) d_O_permute_12 (by decide) (by omega) (by omega) (fun h_12 => absurd h_12 (by omega)) (fun h_12 => ?_)
      refine g_aload_n (pc := 15) X (i := 0) d_O_permute_15 rfl rfl ?_
      refine g_get (pc := 16) X in_O 0 rfl rfl 15 (by decide) wd_834 rfl d_O_permute_16 ?_
      refine g_iload_n (pc := 19) X (i := 2) d_O_permute_19 rfl rfl ?_
      refine g_lconst (pc := 20) X (v := 0) d_O_permute_20 (by decide) ?_
      refine g_last (pc := 21) X 3 rfl a1 rfl (by omega) (by omega) d_O_permute_21 ?_
      refine g_wsq [co a 4 [.ref (q 0), .ref (q 1), .ref (q 2), .int (nI tp), .int cd, .ref (q 3), .ref (q 4), .ref (q 5), .ref (q 6), .ref (q 7), .ref (q 8), .ref (q 9), .ref (q 10), .ref (q 11), .ref (q 12), .ref (q 13), .ref (q 14), .ref (q 15), .int (nI kd), .int (nI rt), .int (nI fl), .long (lN tt), .ref (q 16), .ref (q 17)], cj B (q 11) 25 s.1, cj B (q 12) 25 s.2.1, cj B (q 13) 5 (va_up x a1 0), cn B (q 9) 25 T, cj B (q 10) 24 rn] rfl ?_
      refine g_iconst (pc := 22) X (v := nI 0) d_O_permute_22 (by decide) ?_
      refine g_istore_n (pc := 23) X (i := 3) d_O_permute_23 rfl (by decide) ?_
      refine g_lv [(0, .ref a), (1, .int (nI i)), (2, .int (nI a1)), (3, .int (nI 0))] rfl ?_
      refine g_lv [(0, .ref a), (1, .int (nI i)), (2, .int (nI a1)), (3, .int (nI 0))] rfl ?_
      refine loopF (σ := Nat → Int64) (rc1 s.1 a1) (fun b1 y => G B M 4 0 0 Q [co a 4 [.ref (q 0), .ref (q 1), .ref (q 2), .int (nI tp), .int cd, .ref (q 3), .ref (q 4), .ref (q 5), .ref (q 6), .ref (q 7), .ref (q 8), .ref (q 9), .ref (q 10), .ref (q 11), .ref (q 12), .ref (q 13), .ref (q 14), .ref (q 15), .int (nI kd), .int (nI rt), .int (nI fl), .long (lN tt), .ref (q 16), .ref (q 17)], cj B (q 11) 25 s.1, cj B (q 12) 25 s.2.1, cj B (q 13) 5 y, cn B (q 9) 25 T, cj B (q 10) 24 rn] [(0, .ref a), (1, .int (nI i)), (2, .int (nI a1)), (3, .int (nI b1))] 24 []) 5 (va_up x a1 0) ?_ ?_
      · intro b1 y hk24 kk24
        show G B M 4 0 0 Q [co a 4 [.ref (q 0), .ref (q 1), .ref (q 2), .int (nI tp), .int cd, .ref (q 3), .ref (q 4), .ref (q 5), .ref (q 6), .ref (q 7), .ref (q 8), .ref (q 9), .ref (q 10), .ref (q 11), .ref (q 12), .ref (q 13), .ref (q 14), .ref (q 15), .int (nI kd), .int (nI rt), .int (nI fl), .long (lN tt), .ref (q 16), .ref (q 17)], cj B (q 11) 25 s.1, cj B (q 12) 25 s.2.1, cj B (q 13) 5 y, cn B (q 9) 25 T, cj B (q 10) 24 rn] [(0, .ref a), (1, .int (nI i)), (2, .int (nI a1)), (3, .int (nI b1))] 24 []
        refine g_iload_n (pc := 24) X (i := 3) d_O_permute_24 rfl rfl ?_
        refine g_iconst (pc := 25) X (v := nI 5) d_O_permute_25 (by decide) ?_
        refine g_icmp_geN (pc := 26) X (tgt := 54) d_O_permute_26 (by decide) (by omega) (by omega) (fun h_26 => absurd h_26 (by omega)) (fun h_26 => ?_)
        refine g_aload_n (pc := 29) X (i := 0) d_O_permute_29 rfl rfl ?_
        refine g_get (pc := 30) X in_O 0 rfl rfl 15 (by decide) wd_834 rfl d_O_permute_30 ?_
        refine g_iload_n (pc := 33) X (i := 2) d_O_permute_33 rfl rfl ?_
        refine g_dup2_11 (pc := 34) X d_O_permute_34 rfl rfl ?_
        refine g_lald (pc := 35) X 3 rfl a1 rfl (by omega) (by omega) d_O_permute_35 ?_
        refine g_aload_n (pc := 36) X (i := 0) d_O_permute_36 rfl rfl ?_
        refine g_get (pc := 37) X in_O 0 rfl rfl 13 (by decide) wd_832 rfl d_O_permute_37 ?_
        refine g_iload_n (pc := 40) X (i := 2) d_O_permute_40 rfl rfl ?_
        refine g_iconst (pc := 41) X (v := nI 5) d_O_permute_41 (by decide) ?_
        refine g_iload_n (pc := 42) X (i := 3) d_O_permute_42 rfl rfl ?_
        refine g_imulN (pc := 43) X (5 * b1) rfl d_O_permute_43 ?_
        refine g_iaddN (pc := 44) X (a1 + (5 * b1)) (by omega) d_O_permute_44 ?_
        refine g_lald (pc := 45) X 1 rfl (a1 + (5 * b1)) rfl (by omega) (by omega) d_O_permute_45 ?_
        refine g_lxor (pc := 46) X d_O_permute_46 ?_
        refine g_last (pc := 47) X 3 rfl a1 rfl (by omega) (by omega) d_O_permute_47 ?_
        refine g_wsq [co a 4 [.ref (q 0), .ref (q 1), .ref (q 2), .int (nI tp), .int cd, .ref (q 3), .ref (q 4), .ref (q 5), .ref (q 6), .ref (q 7), .ref (q 8), .ref (q 9), .ref (q 10), .ref (q 11), .ref (q 12), .ref (q 13), .ref (q 14), .ref (q 15), .int (nI kd), .int (nI rt), .int (nI fl), .long (lN tt), .ref (q 16), .ref (q 17)], cj B (q 11) 25 s.1, cj B (q 12) 25 s.2.1, cj B (q 13) 5 (va_up y a1 ((y a1) ^^^ (s.1 (a1 + (5 * b1))))), cn B (q 9) 25 T, cj B (q 10) 24 rn] rfl ?_
        refine g_iincN (pc := 48) X (a := b1) (b1 + 1) d_O_permute_48 rfl 1 rfl (by omega) (by decide) ?_
        refine g_lv [(0, .ref a), (1, .int (nI i)), (2, .int (nI a1)), (3, .int (nI (b1 + 1)))] rfl ?_
        refine g_goto (pc := 51) X (tgt := 24) d_O_permute_51 (by decide) ?_
        refine g_lv [(0, .ref a), (1, .int (nI i)), (2, .int (nI a1)), (3, .int (nI (b1 + 1)))] rfl ?_
        exact kk24 _ (by rfl)
      · show G B M 4 0 0 Q [co a 4 [.ref (q 0), .ref (q 1), .ref (q 2), .int (nI tp), .int cd, .ref (q 3), .ref (q 4), .ref (q 5), .ref (q 6), .ref (q 7), .ref (q 8), .ref (q 9), .ref (q 10), .ref (q 11), .ref (q 12), .ref (q 13), .ref (q 14), .ref (q 15), .int (nI kd), .int (nI rt), .int (nI fl), .long (lN tt), .ref (q 16), .ref (q 17)], cj B (q 11) 25 s.1, cj B (q 12) 25 s.2.1, cj B (q 13) 5 (it (rc1 s.1 a1) 5 (va_up x a1 0)), cn B (q 9) 25 T, cj B (q 10) 24 rn] [(0, .ref a), (1, .int (nI i)), (2, .int (nI a1)), (3, .int (nI 5))] 24 []
        refine g_iload_n (pc := 24) X (i := 3) d_O_permute_24 rfl rfl ?_
        refine g_iconst (pc := 25) X (v := nI 5) d_O_permute_25 (by decide) ?_
        refine g_icmp_geN (pc := 26) X (tgt := 54) d_O_permute_26 (by decide) (by omega) (by omega) (fun h_26 => ?_) (fun h_26 => absurd h_26 (by omega))
        refine g_iincN (pc := 54) X (a := a1) (a1 + 1) d_O_permute_54 rfl 1 rfl (by omega) (by decide) ?_
        refine g_lv [(0, .ref a), (1, .int (nI i)), (2, .int (nI (a1 + 1))), (3, .int (nI 5))] rfl ?_
        refine g_goto (pc := 57) X (tgt := 10) d_O_permute_57 (by decide) ?_
        refine g_lv [(0, .ref a), (1, .int (nI i)), (2, .int (nI (a1 + 1)))] rfl ?_
        exact kk10 _ (by rfl)
    · rw [show it (rcF s.1) 5 s.2.2 = rcols s.1 s.2.2 from rfl]
      show G B M 4 0 0 Q [co a 4 [.ref (q 0), .ref (q 1), .ref (q 2), .int (nI tp), .int cd, .ref (q 3), .ref (q 4), .ref (q 5), .ref (q 6), .ref (q 7), .ref (q 8), .ref (q 9), .ref (q 10), .ref (q 11), .ref (q 12), .ref (q 13), .ref (q 14), .ref (q 15), .int (nI kd), .int (nI rt), .int (nI fl), .long (lN tt), .ref (q 16), .ref (q 17)], cj B (q 11) 25 s.1, cj B (q 12) 25 s.2.1, cj B (q 13) 5 (rcols s.1 s.2.2), cn B (q 9) 25 T, cj B (q 10) 24 rn] [(0, .ref a), (1, .int (nI i)), (2, .int (nI 5))] 10 []
      refine g_iload_n (pc := 10) X (i := 2) d_O_permute_10 rfl rfl ?_
      refine g_iconst (pc := 11) X (v := nI 5) d_O_permute_11 (by decide) ?_
      refine g_icmp_geN (pc := 12) X (tgt := 60) d_O_permute_12 (by decide) (by omega) (by omega) (fun h_12 => ?_) (fun h_12 => absurd h_12 (by omega))
      refine g_iconst (pc := 60) X (v := nI 0) d_O_permute_60 (by decide) ?_
      refine g_istore_n (pc := 61) X (i := 2) d_O_permute_61 rfl (by decide) ?_
      refine g_lv [(0, .ref a), (1, .int (nI i)), (2, .int (nI 0))] rfl ?_
      refine g_lv [(0, .ref a), (1, .int (nI i)), (2, .int (nI 0))] rfl ?_
      refine loopF (σ := Nat → Int64) (rtF (rcols s.1 s.2.2)) (fun a1 x => G B M 4 0 0 Q [co a 4 [.ref (q 0), .ref (q 1), .ref (q 2), .int (nI tp), .int cd, .ref (q 3), .ref (q 4), .ref (q 5), .ref (q 6), .ref (q 7), .ref (q 8), .ref (q 9), .ref (q 10), .ref (q 11), .ref (q 12), .ref (q 13), .ref (q 14), .ref (q 15), .int (nI kd), .int (nI rt), .int (nI fl), .long (lN tt), .ref (q 16), .ref (q 17)], cj B (q 11) 25 x, cj B (q 12) 25 s.2.1, cj B (q 13) 5 (rcols s.1 s.2.2), cn B (q 9) 25 T, cj B (q 10) 24 rn] [(0, .ref a), (1, .int (nI i)), (2, .int (nI a1))] 62 []) 5 s.1 ?_ ?_
      · intro a1 x hk62 kk62
        show G B M 4 0 0 Q [co a 4 [.ref (q 0), .ref (q 1), .ref (q 2), .int (nI tp), .int cd, .ref (q 3), .ref (q 4), .ref (q 5), .ref (q 6), .ref (q 7), .ref (q 8), .ref (q 9), .ref (q 10), .ref (q 11), .ref (q 12), .ref (q 13), .ref (q 14), .ref (q 15), .int (nI kd), .int (nI rt), .int (nI fl), .long (lN tt), .ref (q 16), .ref (q 17)], cj B (q 11) 25 x, cj B (q 12) 25 s.2.1, cj B (q 13) 5 (rcols s.1 s.2.2), cn B (q 9) 25 T, cj B (q 10) 24 rn] [(0, .ref a), (1, .int (nI i)), (2, .int (nI a1))] 62 []
        refine g_iload_n (pc := 62) X (i := 2) d_O_permute_62 rfl rfl ?_
        refine g_iconst (pc := 63) X (v := nI 5) d_O_permute_63 (by decide) ?_
        refine g_icmp_geN (pc := 64) X (tgt := 124) d_O_permute_64 (by decide) (by omega) (by omega) (fun h_64 => absurd h_64 (by omega)) (fun h_64 => ?_)
        refine g_iconst (pc := 67) X (v := nI 0) d_O_permute_67 (by decide) ?_
        refine g_istore_n (pc := 68) X (i := 3) d_O_permute_68 rfl (by decide) ?_
        refine g_lv [(0, .ref a), (1, .int (nI i)), (2, .int (nI a1)), (3, .int (nI 0))] rfl ?_
        refine g_lv [(0, .ref a), (1, .int (nI i)), (2, .int (nI a1)), (3, .int (nI 0))] rfl ?_
        refine loopF (σ := Nat → Int64) (rtI (rcols s.1 s.2.2) a1) (fun b1 y => G B M 4 0 0 Q [co a 4 [.ref (q 0), .ref (q 1), .ref (q 2), .int (nI tp), .int cd, .ref (q 3), .ref (q 4), .ref (q 5), .ref (q 6), .ref (q 7), .ref (q 8), .ref (q 9), .ref (q 10), .ref (q 11), .ref (q 12), .ref (q 13), .ref (q 14), .ref (q 15), .int (nI kd), .int (nI rt), .int (nI fl), .long (lN tt), .ref (q 16), .ref (q 17)], cj B (q 11) 25 y, cj B (q 12) 25 s.2.1, cj B (q 13) 5 (rcols s.1 s.2.2), cn B (q 9) 25 T, cj B (q 10) 24 rn] [(0, .ref a), (1, .int (nI i)), (2, .int (nI a1)), (3, .int (nI b1))] 69 []) 5 x ?_ ?_
        · intro b1 y hk69 kk69
          show G B M 4 0 0 Q [co a 4 [.ref (q 0), .ref (q 1), .ref (q 2), .int (nI tp), .int cd, .ref (q 3), .ref (q 4), .ref (q 5), .ref (q 6), .ref (q 7), .ref (q 8), .ref (q 9), .ref (q 10), .ref (q 11), .ref (q 12), .ref (q 13), .ref (q 14), .ref (q 15), .int (nI kd), .int (nI rt), .int (nI fl), .long (lN tt), .ref (q 16), .ref (q 17)], cj B (q 11) 25 y, cj B (q 12) 25 s.2.1, cj B (q 13) 5 (rcols s.1 s.2.2), cn B (q 9) 25 T, cj B (q 10) 24 rn] [(0, .ref a), (1, .int (nI i)), (2, .int (nI a1)), (3, .int (nI b1))] 69 []
          refine g_iload_n (pc := 69) X (i := 3) d_O_permute_69 rfl rfl ?_
          refine g_iconst (pc := 70) X (v := nI 5) d_O_permute_70 (by decide) ?_
          refine g_icmp_geN (pc := 71) X (tgt := 118) d_O_permute_71 (by decide) (by omega) (by omega) (fun h_71 => absurd h_71 (by omega)) (fun h_71 => ?_)
          refine g_aload_n (pc := 74) X (i := 0) d_O_permute_74 rfl rfl ?_
          refine g_get (pc := 75) X in_O 0 rfl rfl 13 (by decide) wd_832 rfl d_O_permute_75 ?_
          refine g_iload_n (pc := 78) X (i := 2) d_O_permute_78 rfl rfl ?_
          refine g_iconst (pc := 79) X (v := nI 5) d_O_permute_79 (by decide) ?_
          refine g_iload_n (pc := 80) X (i := 3) d_O_permute_80 rfl rfl ?_
          refine g_imulN (pc := 81) X (5 * b1) rfl d_O_permute_81 ?_
          refine g_iaddN (pc := 82) X (a1 + (5 * b1)) (by omega) d_O_permute_82 ?_
          refine g_dup2_11 (pc := 83) X d_O_permute_83 rfl rfl ?_
          refine g_lald (pc := 84) X 1 rfl (a1 + (5 * b1)) rfl (by omega) (by omega) d_O_permute_84 ?_
          refine g_aload_n (pc := 85) X (i := 0) d_O_permute_85 rfl rfl ?_
          refine g_get (pc := 86) X in_O 0 rfl rfl 15 (by decide) wd_834 rfl d_O_permute_86 ?_
          refine g_iload_n (pc := 89) X (i := 2) d_O_permute_89 rfl rfl ?_
          refine g_iconst (pc := 90) X (v := nI 4) d_O_permute_90 (by decide) ?_
          refine g_iaddN (pc := 91) X (a1 + 4) (by omega) d_O_permute_91 ?_
          refine g_iconst (pc := 92) X (v := nI 5) d_O_permute_92 (by decide) ?_
          refine g_iremN (pc := 93) X ((a1 + 4) % 5) (by omega) (by omega) (by omega) rfl d_O_permute_93 ?_
          refine g_lald (pc := 94) X 3 rfl ((a1 + 4) % 5) rfl (by omega) (by omega) d_O_permute_94 ?_
          refine g_aload_n (pc := 95) X (i := 0) d_O_permute_95 rfl rfl ?_
          refine g_get (pc := 96) X in_O 0 rfl rfl 15 (by decide) wd_834 rfl d_O_permute_96 ?_
          refine g_iload_n (pc := 99) X (i := 2) d_O_permute_99 rfl rfl ?_
          refine g_iconst (pc := 100) X (v := nI 1) d_O_permute_100 (by decide) ?_
          refine g_iaddN (pc := 101) X (a1 + 1) (by omega) d_O_permute_101 ?_
          refine g_iconst (pc := 102) X (v := nI 5) d_O_permute_102 (by decide) ?_
          refine g_iremN (pc := 103) X ((a1 + 1) % 5) (by omega) (by omega) (by omega) rfl d_O_permute_103 ?_
          refine g_lald (pc := 104) X 3 rfl ((a1 + 1) % 5) rfl (by omega) (by omega) d_O_permute_104 ?_
          refine g_iconst (pc := 105) X (v := nI 1) d_O_permute_105 (by decide) ?_
          refine g_callSl (pc := 106) X (c_O_left (m_l M) B ((rcols s.1 s.2.2) ((a1 + 1) % 5)) (nI 1) ) wd_796 wd_797 wd_5 wd_798 hd_O_left [] rfl rfl [] (fun _ => rfl) rfl (by rw [hR]; decide) (by rw [hR]; decide) rfl (Nat.le_of_ble_eq_true rfl) d_O_permute_106 (fun r9 _ hr9 => ?_)
          subst hr9
          refine g_wsq [co a 4 [.ref (q 0), .ref (q 1), .ref (q 2), .int (nI tp), .int cd, .ref (q 3), .ref (q 4), .ref (q 5), .ref (q 6), .ref (q 7), .ref (q 8), .ref (q 9), .ref (q 10), .ref (q 11), .ref (q 12), .ref (q 13), .ref (q 14), .ref (q 15), .int (nI kd), .int (nI rt), .int (nI fl), .long (lN tt), .ref (q 16), .ref (q 17)], cj B (q 11) 25 y, cj B (q 12) 25 s.2.1, cj B (q 13) 5 (rcols s.1 s.2.2), cn B (q 9) 25 T, cj B (q 10) 24 rn] rfl ?_
          refine g_lxor (pc := 109) X d_O_permute_109 ?_
          refine g_lxor (pc := 110) X d_O_permute_110 ?_
          refine g_last (pc := 111) X 1 rfl (a1 + (5 * b1)) rfl (by omega) (by omega) d_O_permute_111 ?_
          refine g_wsq [co a 4 [.ref (q 0), .ref (q 1), .ref (q 2), .int (nI tp), .int cd, .ref (q 3), .ref (q 4), .ref (q 5), .ref (q 6), .ref (q 7), .ref (q 8), .ref (q 9), .ref (q 10), .ref (q 11), .ref (q 12), .ref (q 13), .ref (q 14), .ref (q 15), .int (nI kd), .int (nI rt), .int (nI fl), .long (lN tt), .ref (q 16), .ref (q 17)], cj B (q 11) 25 (va_up y (a1 + (5 * b1)) ((y (a1 + (5 * b1))) ^^^ (((rcols s.1 s.2.2) ((a1 + 4) % 5)) ^^^ (leftR ((rcols s.1 s.2.2) ((a1 + 1) % 5)) (nI 1))))), cj B (q 12) 25 s.2.1, cj B (q 13) 5 (rcols s.1 s.2.2), cn B (q 9) 25 T, cj B (q 10) 24 rn] rfl ?_
          refine g_iincN (pc := 112) X (a := b1) (b1 + 1) d_O_permute_112 rfl 1 rfl (by omega) (by decide) ?_
          refine g_lv [(0, .ref a), (1, .int (nI i)), (2, .int (nI a1)), (3, .int (nI (b1 + 1)))] rfl ?_
          refine g_goto (pc := 115) X (tgt := 69) d_O_permute_115 (by decide) ?_
          refine g_lv [(0, .ref a), (1, .int (nI i)), (2, .int (nI a1)), (3, .int (nI (b1 + 1)))] rfl ?_
          exact kk69 _ (by rfl)
        · show G B M 4 0 0 Q [co a 4 [.ref (q 0), .ref (q 1), .ref (q 2), .int (nI tp), .int cd, .ref (q 3), .ref (q 4), .ref (q 5), .ref (q 6), .ref (q 7), .ref (q 8), .ref (q 9), .ref (q 10), .ref (q 11), .ref (q 12), .ref (q 13), .ref (q 14), .ref (q 15), .int (nI kd), .int (nI rt), .int (nI fl), .long (lN tt), .ref (q 16), .ref (q 17)], cj B (q 11) 25 (it (rtI (rcols s.1 s.2.2) a1) 5 x), cj B (q 12) 25 s.2.1, cj B (q 13) 5 (rcols s.1 s.2.2), cn B (q 9) 25 T, cj B (q 10) 24 rn] [(0, .ref a), (1, .int (nI i)), (2, .int (nI a1)), (3, .int (nI 5))] 69 []
          refine g_iload_n (pc := 69) X (i := 3) d_O_permute_69 rfl rfl ?_
          refine g_iconst (pc := 70) X (v := nI 5) d_O_permute_70 (by decide) ?_
          refine g_icmp_geN (pc := 71) X (tgt := 118) d_O_permute_71 (by decide) (by omega) (by omega) (fun h_71 => ?_) (fun h_71 => absurd h_71 (by omega))
          refine g_iincN (pc := 118) X (a := a1) (a1 + 1) d_O_permute_118 rfl 1 rfl (by omega) (by decide) ?_
          refine g_lv [(0, .ref a), (1, .int (nI i)), (2, .int (nI (a1 + 1))), (3, .int (nI 5))] rfl ?_
          refine g_goto (pc := 121) X (tgt := 62) d_O_permute_121 (by decide) ?_
          refine g_lv [(0, .ref a), (1, .int (nI i)), (2, .int (nI (a1 + 1)))] rfl ?_
          exact kk62 _ (by rfl)
      · rw [show it (rtF (rcols s.1 s.2.2)) 5 s.1 = rtheta (rcols s.1 s.2.2) s.1 from rfl]
        show G B M 4 0 0 Q [co a 4 [.ref (q 0), .ref (q 1), .ref (q 2), .int (nI tp), .int cd, .ref (q 3), .ref (q 4), .ref (q 5), .ref (q 6), .ref (q 7), .ref (q 8), .ref (q 9), .ref (q 10), .ref (q 11), .ref (q 12), .ref (q 13), .ref (q 14), .ref (q 15), .int (nI kd), .int (nI rt), .int (nI fl), .long (lN tt), .ref (q 16), .ref (q 17)], cj B (q 11) 25 (rtheta (rcols s.1 s.2.2) s.1), cj B (q 12) 25 s.2.1, cj B (q 13) 5 (rcols s.1 s.2.2), cn B (q 9) 25 T, cj B (q 10) 24 rn] [(0, .ref a), (1, .int (nI i)), (2, .int (nI 5))] 62 []
        refine g_iload_n (pc := 62) X (i := 2) d_O_permute_62 rfl rfl ?_
        refine g_iconst (pc := 63) X (v := nI 5) d_O_permute_63 (by decide) ?_
        refine g_icmp_geN (pc := 64) X (tgt := 124) d_O_permute_64 (by decide) (by omega) (by omega) (fun h_64 => ?_) (fun h_64 => absurd h_64 (by omega))
        refine g_iconst (pc := 124) X (v := nI 0) d_O_permute_124 (by decide) ?_
        refine g_istore_n (pc := 125) X (i := 2) d_O_permute_125 rfl (by decide) ?_
        refine g_lv [(0, .ref a), (1, .int (nI i)), (2, .int (nI 0))] rfl ?_
        refine g_lv [(0, .ref a), (1, .int (nI i)), (2, .int (nI 0))] rfl ?_
        refine loopF (σ := Nat → Int64) (rrF (rtheta (rcols s.1 s.2.2) s.1) T) (fun a1 x => G B M 4 0 0 Q [co a 4 [.ref (q 0), .ref (q 1), .ref (q 2), .int (nI tp), .int cd, .ref (q 3), .ref (q 4), .ref (q 5), .ref (q 6), .ref (q 7), .ref (q 8), .ref (q 9), .ref (q 10), .ref (q 11), .ref (q 12), .ref (q 13), .ref (q 14), .ref (q 15), .int (nI kd), .int (nI rt), .int (nI fl), .long (lN tt), .ref (q 16), .ref (q 17)], cj B (q 11) 25 (rtheta (rcols s.1 s.2.2) s.1), cj B (q 12) 25 x, cj B (q 13) 5 (rcols s.1 s.2.2), cn B (q 9) 25 T, cj B (q 10) 24 rn] [(0, .ref a), (1, .int (nI i)), (2, .int (nI a1))] 126 []) 5 s.2.1 ?_ ?_
        · intro a1 x hk126 kk126
          show G B M 4 0 0 Q [co a 4 [.ref (q 0), .ref (q 1), .ref (q 2), .int (nI tp), .int cd, .ref (q 3), .ref (q 4), .ref (q 5), .ref (q 6), .ref (q 7), .ref (q 8), .ref (q 9), .ref (q 10), .ref (q 11), .ref (q 12), .ref (q 13), .ref (q 14), .ref (q 15), .int (nI kd), .int (nI rt), .int (nI fl), .long (lN tt), .ref (q 16), .ref (q 17)], cj B (q 11) 25 (rtheta (rcols s.1 s.2.2) s.1), cj B (q 12) 25 x, cj B (q 13) 5 (rcols s.1 s.2.2), cn B (q 9) 25 T, cj B (q 10) 24 rn] [(0, .ref a), (1, .int (nI i)), (2, .int (nI a1))] 126 []
          refine g_iload_n (pc := 126) X (i := 2) d_O_permute_126 rfl rfl ?_
          refine g_iconst (pc := 127) X (v := nI 5) d_O_permute_127 (by decide) ?_
          refine g_icmp_geN (pc := 128) X (tgt := 191) d_O_permute_128 (by decide) (by omega) (by omega) (fun h_128 => absurd h_128 (by omega)) (fun h_128 => ?_)
          refine g_iconst (pc := 131) X (v := nI 0) d_O_permute_131 (by decide) ?_
          refine g_istore_n (pc := 132) X (i := 3) d_O_permute_132 rfl (by decide) ?_
          refine g_lv [(0, .ref a), (1, .int (nI i)), (2, .int (nI a1)), (3, .int (nI 0))] rfl ?_
          refine g_lv [(0, .ref a), (1, .int (nI i)), (2, .int (nI a1)), (3, .int (nI 0))] rfl ?_
          refine loopF (σ := Nat → Int64) (rrI (rtheta (rcols s.1 s.2.2) s.1) T a1) (fun b1 y => G B M 4 0 0 Q [co a 4 [.ref (q 0), .ref (q 1), .ref (q 2), .int (nI tp), .int cd, .ref (q 3), .ref (q 4), .ref (q 5), .ref (q 6), .ref (q 7), .ref (q 8), .ref (q 9), .ref (q 10), .ref (q 11), .ref (q 12), .ref (q 13), .ref (q 14), .ref (q 15), .int (nI kd), .int (nI rt), .int (nI fl), .long (lN tt), .ref (q 16), .ref (q 17)], cj B (q 11) 25 (rtheta (rcols s.1 s.2.2) s.1), cj B (q 12) 25 y, cj B (q 13) 5 (rcols s.1 s.2.2), cn B (q 9) 25 T, cj B (q 10) 24 rn] [(0, .ref a), (1, .int (nI i)), (2, .int (nI a1)), (3, .int (nI b1))] 133 []) 5 x ?_ ?_
          · intro b1 y hk133 kk133
            show G B M 4 0 0 Q [co a 4 [.ref (q 0), .ref (q 1), .ref (q 2), .int (nI tp), .int cd, .ref (q 3), .ref (q 4), .ref (q 5), .ref (q 6), .ref (q 7), .ref (q 8), .ref (q 9), .ref (q 10), .ref (q 11), .ref (q 12), .ref (q 13), .ref (q 14), .ref (q 15), .int (nI kd), .int (nI rt), .int (nI fl), .long (lN tt), .ref (q 16), .ref (q 17)], cj B (q 11) 25 (rtheta (rcols s.1 s.2.2) s.1), cj B (q 12) 25 y, cj B (q 13) 5 (rcols s.1 s.2.2), cn B (q 9) 25 T, cj B (q 10) 24 rn] [(0, .ref a), (1, .int (nI i)), (2, .int (nI a1)), (3, .int (nI b1))] 133 []
            refine g_iload_n (pc := 133) X (i := 3) d_O_permute_133 rfl rfl ?_
            refine g_iconst (pc := 134) X (v := nI 5) d_O_permute_134 (by decide) ?_
            refine g_icmp_geN (pc := 135) X (tgt := 185) d_O_permute_135 (by decide) (by omega) (by omega) (fun h_135 => absurd h_135 (by omega)) (fun h_135 => ?_)
            refine g_aload_n (pc := 138) X (i := 0) d_O_permute_138 rfl rfl ?_
            refine g_get (pc := 139) X in_O 0 rfl rfl 14 (by decide) wd_833 rfl d_O_permute_139 ?_
            refine g_iload_n (pc := 142) X (i := 3) d_O_permute_142 rfl rfl ?_
            refine g_iconst (pc := 143) X (v := nI 5) d_O_permute_143 (by decide) ?_
            refine g_iconst (pc := 144) X (v := nI 2) d_O_permute_144 (by decide) ?_
            refine g_iload_n (pc := 145) X (i := 2) d_O_permute_145 rfl rfl ?_
            refine g_imulN (pc := 146) X (2 * a1) rfl d_O_permute_146 ?_
            refine g_iconst (pc := 147) X (v := nI 3) d_O_permute_147 (by decide) ?_
            refine g_iload_n (pc := 148) X (i := 3) d_O_permute_148 rfl rfl ?_
            refine g_imulN (pc := 149) X (3 * b1) rfl d_O_permute_149 ?_
            refine g_iaddN (pc := 150) X (2 * a1 + (3 * b1)) (by omega) d_O_permute_150 ?_
            refine g_iconst (pc := 151) X (v := nI 5) d_O_permute_151 (by decide) ?_
            refine g_iremN (pc := 152) X ((2 * a1 + (3 * b1)) % 5) (by omega) (by omega) (by omega) rfl d_O_permute_152 ?_
            refine g_imulN (pc := 153) X (5 * ((2 * a1 + (3 * b1)) % 5)) rfl d_O_permute_153 ?_
            refine g_iaddN (pc := 154) X (b1 + (5 * ((2 * a1 + (3 * b1)) % 5))) (by omega) d_O_permute_154 ?_
            refine g_aload_n (pc := 155) X (i := 0) d_O_permute_155 rfl rfl ?_
            refine g_get (pc := 156) X in_O 0 rfl rfl 13 (by decide) wd_832 rfl d_O_permute_156 ?_
            refine g_iload_n (pc := 159) X (i := 2) d_O_permute_159 rfl rfl ?_
            refine g_iconst (pc := 160) X (v := nI 5) d_O_permute_160 (by decide) ?_
            refine g_iload_n (pc := 161) X (i := 3) d_O_permute_161 rfl rfl ?_
            refine g_imulN (pc := 162) X (5 * b1) rfl d_O_permute_162 ?_
            refine g_iaddN (pc := 163) X (a1 + (5 * b1)) (by omega) d_O_permute_163 ?_
            refine g_lald (pc := 164) X 1 rfl (a1 + (5 * b1)) rfl (by omega) (by omega) d_O_permute_164 ?_
            refine g_aload_n (pc := 165) X (i := 0) d_O_permute_165 rfl rfl ?_
            refine g_get (pc := 166) X in_O 0 rfl rfl 11 (by decide) wd_830 rfl d_O_permute_166 ?_
            refine g_iload_n (pc := 169) X (i := 2) d_O_permute_169 rfl rfl ?_
            refine g_iconst (pc := 170) X (v := nI 5) d_O_permute_170 (by decide) ?_
            refine g_iload_n (pc := 171) X (i := 3) d_O_permute_171 rfl rfl ?_
            refine g_imulN (pc := 172) X (5 * b1) rfl d_O_permute_172 ?_
            refine g_iaddN (pc := 173) X (a1 + (5 * b1)) (by omega) d_O_permute_173 ?_
            refine g_iald (pc := 174) X 4 rfl (a1 + (5 * b1)) rfl (by omega) (by omega) d_O_permute_174 ?_
            refine g_callSl (pc := 175) X (c_O_left (m_l M) B ((rtheta (rcols s.1 s.2.2) s.1) (a1 + (5 * b1))) (T (a1 + (5 * b1))) ) wd_796 wd_797 wd_5 wd_798 hd_O_left [] rfl rfl [] (fun _ => rfl) rfl (by rw [hR]; decide) (by rw [hR]; decide) rfl (Nat.le_of_ble_eq_true rfl) d_O_permute_175 (fun r9 _ hr9 => ?_)
            subst hr9
            refine g_wsq [co a 4 [.ref (q 0), .ref (q 1), .ref (q 2), .int (nI tp), .int cd, .ref (q 3), .ref (q 4), .ref (q 5), .ref (q 6), .ref (q 7), .ref (q 8), .ref (q 9), .ref (q 10), .ref (q 11), .ref (q 12), .ref (q 13), .ref (q 14), .ref (q 15), .int (nI kd), .int (nI rt), .int (nI fl), .long (lN tt), .ref (q 16), .ref (q 17)], cj B (q 11) 25 (rtheta (rcols s.1 s.2.2) s.1), cj B (q 12) 25 y, cj B (q 13) 5 (rcols s.1 s.2.2), cn B (q 9) 25 T, cj B (q 10) 24 rn] rfl ?_
            refine g_last (pc := 178) X 2 rfl (b1 + (5 * ((2 * a1 + (3 * b1)) % 5))) rfl (by omega) (by omega) d_O_permute_178 ?_
            refine g_wsq [co a 4 [.ref (q 0), .ref (q 1), .ref (q 2), .int (nI tp), .int cd, .ref (q 3), .ref (q 4), .ref (q 5), .ref (q 6), .ref (q 7), .ref (q 8), .ref (q 9), .ref (q 10), .ref (q 11), .ref (q 12), .ref (q 13), .ref (q 14), .ref (q 15), .int (nI kd), .int (nI rt), .int (nI fl), .long (lN tt), .ref (q 16), .ref (q 17)], cj B (q 11) 25 (rtheta (rcols s.1 s.2.2) s.1), cj B (q 12) 25 (va_up y (b1 + (5 * ((2 * a1 + (3 * b1)) % 5))) (leftR ((rtheta (rcols s.1 s.2.2) s.1) (a1 + (5 * b1))) (T (a1 + (5 * b1))))), cj B (q 13) 5 (rcols s.1 s.2.2), cn B (q 9) 25 T, cj B (q 10) 24 rn] rfl ?_
            refine g_iincN (pc := 179) X (a := b1) (b1 + 1) d_O_permute_179 rfl 1 rfl (by omega) (by decide) ?_
            refine g_lv [(0, .ref a), (1, .int (nI i)), (2, .int (nI a1)), (3, .int (nI (b1 + 1)))] rfl ?_
            refine g_goto (pc := 182) X (tgt := 133) d_O_permute_182 (by decide) ?_
            refine g_lv [(0, .ref a), (1, .int (nI i)), (2, .int (nI a1)), (3, .int (nI (b1 + 1)))] rfl ?_
            exact kk133 _ (by rfl)
          · show G B M 4 0 0 Q [co a 4 [.ref (q 0), .ref (q 1), .ref (q 2), .int (nI tp), .int cd, .ref (q 3), .ref (q 4), .ref (q 5), .ref (q 6), .ref (q 7), .ref (q 8), .ref (q 9), .ref (q 10), .ref (q 11), .ref (q 12), .ref (q 13), .ref (q 14), .ref (q 15), .int (nI kd), .int (nI rt), .int (nI fl), .long (lN tt), .ref (q 16), .ref (q 17)], cj B (q 11) 25 (rtheta (rcols s.1 s.2.2) s.1), cj B (q 12) 25 (it (rrI (rtheta (rcols s.1 s.2.2) s.1) T a1) 5 x), cj B (q 13) 5 (rcols s.1 s.2.2), cn B (q 9) 25 T, cj B (q 10) 24 rn] [(0, .ref a), (1, .int (nI i)), (2, .int (nI a1)), (3, .int (nI 5))] 133 []
            refine g_iload_n (pc := 133) X (i := 3) d_O_permute_133 rfl rfl ?_
            refine g_iconst (pc := 134) X (v := nI 5) d_O_permute_134 (by decide) ?_
            refine g_icmp_geN (pc := 135) X (tgt := 185) d_O_permute_135 (by decide) (by omega) (by omega) (fun h_135 => ?_) (fun h_135 => absurd h_135 (by omega))
            refine g_iincN (pc := 185) X (a := a1) (a1 + 1) d_O_permute_185 rfl 1 rfl (by omega) (by decide) ?_
            refine g_lv [(0, .ref a), (1, .int (nI i)), (2, .int (nI (a1 + 1))), (3, .int (nI 5))] rfl ?_
            refine g_goto (pc := 188) X (tgt := 126) d_O_permute_188 (by decide) ?_
            refine g_lv [(0, .ref a), (1, .int (nI i)), (2, .int (nI (a1 + 1)))] rfl ?_
            exact kk126 _ (by rfl)
        · rw [show it (rrF (rtheta (rcols s.1 s.2.2) s.1) T) 5 s.2.1 = rrho (rtheta (rcols s.1 s.2.2) s.1) T s.2.1 from rfl]
          show G B M 4 0 0 Q [co a 4 [.ref (q 0), .ref (q 1), .ref (q 2), .int (nI tp), .int cd, .ref (q 3), .ref (q 4), .ref (q 5), .ref (q 6), .ref (q 7), .ref (q 8), .ref (q 9), .ref (q 10), .ref (q 11), .ref (q 12), .ref (q 13), .ref (q 14), .ref (q 15), .int (nI kd), .int (nI rt), .int (nI fl), .long (lN tt), .ref (q 16), .ref (q 17)], cj B (q 11) 25 (rtheta (rcols s.1 s.2.2) s.1), cj B (q 12) 25 (rrho (rtheta (rcols s.1 s.2.2) s.1) T s.2.1), cj B (q 13) 5 (rcols s.1 s.2.2), cn B (q 9) 25 T, cj B (q 10) 24 rn] [(0, .ref a), (1, .int (nI i)), (2, .int (nI 5))] 126 []
          refine g_iload_n (pc := 126) X (i := 2) d_O_permute_126 rfl rfl ?_
          refine g_iconst (pc := 127) X (v := nI 5) d_O_permute_127 (by decide) ?_
          refine g_icmp_geN (pc := 128) X (tgt := 191) d_O_permute_128 (by decide) (by omega) (by omega) (fun h_128 => ?_) (fun h_128 => absurd h_128 (by omega))
          refine g_iconst (pc := 191) X (v := nI 0) d_O_permute_191 (by decide) ?_
          refine g_istore_n (pc := 192) X (i := 2) d_O_permute_192 rfl (by decide) ?_
          refine g_lv [(0, .ref a), (1, .int (nI i)), (2, .int (nI 0))] rfl ?_
          refine g_lv [(0, .ref a), (1, .int (nI i)), (2, .int (nI 0))] rfl ?_
          refine loopF (σ := Nat → Int64) (rxF (rrho (rtheta (rcols s.1 s.2.2) s.1) T s.2.1)) (fun a1 x => G B M 4 0 0 Q [co a 4 [.ref (q 0), .ref (q 1), .ref (q 2), .int (nI tp), .int cd, .ref (q 3), .ref (q 4), .ref (q 5), .ref (q 6), .ref (q 7), .ref (q 8), .ref (q 9), .ref (q 10), .ref (q 11), .ref (q 12), .ref (q 13), .ref (q 14), .ref (q 15), .int (nI kd), .int (nI rt), .int (nI fl), .long (lN tt), .ref (q 16), .ref (q 17)], cj B (q 11) 25 x, cj B (q 12) 25 (rrho (rtheta (rcols s.1 s.2.2) s.1) T s.2.1), cj B (q 13) 5 (rcols s.1 s.2.2), cn B (q 9) 25 T, cj B (q 10) 24 rn] [(0, .ref a), (1, .int (nI i)), (2, .int (nI a1))] 193 []) 5 (rtheta (rcols s.1 s.2.2) s.1) ?_ ?_
          · intro a1 x hk193 kk193
            show G B M 4 0 0 Q [co a 4 [.ref (q 0), .ref (q 1), .ref (q 2), .int (nI tp), .int cd, .ref (q 3), .ref (q 4), .ref (q 5), .ref (q 6), .ref (q 7), .ref (q 8), .ref (q 9), .ref (q 10), .ref (q 11), .ref (q 12), .ref (q 13), .ref (q 14), .ref (q 15), .int (nI kd), .int (nI rt), .int (nI fl), .long (lN tt), .ref (q 16), .ref (q 17)], cj B (q 11) 25 x, cj B (q 12) 25 (rrho (rtheta (rcols s.1 s.2.2) s.1) T s.2.1), cj B (q 13) 5 (rcols s.1 s.2.2), cn B (q 9) 25 T, cj B (q 10) 24 rn] [(0, .ref a), (1, .int (nI i)), (2, .int (nI a1))] 193 []
            refine g_iload_n (pc := 193) X (i := 2) d_O_permute_193 rfl rfl ?_
            refine g_iconst (pc := 194) X (v := nI 5) d_O_permute_194 (by decide) ?_
            refine g_icmp_geN (pc := 195) X (tgt := 271) d_O_permute_195 (by decide) (by omega) (by omega) (fun h_195 => absurd h_195 (by omega)) (fun h_195 => ?_)
            refine g_iconst (pc := 198) X (v := nI 0) d_O_permute_198 (by decide) ?_
            refine g_istore_n (pc := 199) X (i := 3) d_O_permute_199 rfl (by decide) ?_
            refine g_lv [(0, .ref a), (1, .int (nI i)), (2, .int (nI a1)), (3, .int (nI 0))] rfl ?_
            refine g_lv [(0, .ref a), (1, .int (nI i)), (2, .int (nI a1)), (3, .int (nI 0))] rfl ?_
            refine loopF (σ := Nat → Int64) (rxI (rrho (rtheta (rcols s.1 s.2.2) s.1) T s.2.1) a1) (fun b1 y => G B M 4 0 0 Q [co a 4 [.ref (q 0), .ref (q 1), .ref (q 2), .int (nI tp), .int cd, .ref (q 3), .ref (q 4), .ref (q 5), .ref (q 6), .ref (q 7), .ref (q 8), .ref (q 9), .ref (q 10), .ref (q 11), .ref (q 12), .ref (q 13), .ref (q 14), .ref (q 15), .int (nI kd), .int (nI rt), .int (nI fl), .long (lN tt), .ref (q 16), .ref (q 17)], cj B (q 11) 25 y, cj B (q 12) 25 (rrho (rtheta (rcols s.1 s.2.2) s.1) T s.2.1), cj B (q 13) 5 (rcols s.1 s.2.2), cn B (q 9) 25 T, cj B (q 10) 24 rn] [(0, .ref a), (1, .int (nI i)), (2, .int (nI a1)), (3, .int (nI b1))] 200 []) 5 x ?_ ?_
            · intro b1 y hk200 kk200
              show G B M 4 0 0 Q [co a 4 [.ref (q 0), .ref (q 1), .ref (q 2), .int (nI tp), .int cd, .ref (q 3), .ref (q 4), .ref (q 5), .ref (q 6), .ref (q 7), .ref (q 8), .ref (q 9), .ref (q 10), .ref (q 11), .ref (q 12), .ref (q 13), .ref (q 14), .ref (q 15), .int (nI kd), .int (nI rt), .int (nI fl), .long (lN tt), .ref (q 16), .ref (q 17)], cj B (q 11) 25 y, cj B (q 12) 25 (rrho (rtheta (rcols s.1 s.2.2) s.1) T s.2.1), cj B (q 13) 5 (rcols s.1 s.2.2), cn B (q 9) 25 T, cj B (q 10) 24 rn] [(0, .ref a), (1, .int (nI i)), (2, .int (nI a1)), (3, .int (nI b1))] 200 []
              refine g_iload_n (pc := 200) X (i := 3) d_O_permute_200 rfl rfl ?_
              refine g_iconst (pc := 201) X (v := nI 5) d_O_permute_201 (by decide) ?_
              refine g_icmp_geN (pc := 202) X (tgt := 265) d_O_permute_202 (by decide) (by omega) (by omega) (fun h_202 => absurd h_202 (by omega)) (fun h_202 => ?_)
              refine g_aload_n (pc := 205) X (i := 0) d_O_permute_205 rfl rfl ?_
              refine g_get (pc := 206) X in_O 0 rfl rfl 13 (by decide) wd_832 rfl d_O_permute_206 ?_
              refine g_iload_n (pc := 209) X (i := 2) d_O_permute_209 rfl rfl ?_
              refine g_iconst (pc := 210) X (v := nI 5) d_O_permute_210 (by decide) ?_
              refine g_iload_n (pc := 211) X (i := 3) d_O_permute_211 rfl rfl ?_
              refine g_imulN (pc := 212) X (5 * b1) rfl d_O_permute_212 ?_
              refine g_iaddN (pc := 213) X (a1 + (5 * b1)) (by omega) d_O_permute_213 ?_
              refine g_aload_n (pc := 214) X (i := 0) d_O_permute_214 rfl rfl ?_
              refine g_get (pc := 215) X in_O 0 rfl rfl 14 (by decide) wd_833 rfl d_O_permute_215 ?_
              refine g_iload_n (pc := 218) X (i := 2) d_O_permute_218 rfl rfl ?_
              refine g_iconst (pc := 219) X (v := nI 5) d_O_permute_219 (by decide) ?_
              refine g_iload_n (pc := 220) X (i := 3) d_O_permute_220 rfl rfl ?_
              refine g_imulN (pc := 221) X (5 * b1) rfl d_O_permute_221 ?_
              refine g_iaddN (pc := 222) X (a1 + (5 * b1)) (by omega) d_O_permute_222 ?_
              refine g_lald (pc := 223) X 2 rfl (a1 + (5 * b1)) rfl (by omega) (by omega) d_O_permute_223 ?_
              refine g_aload_n (pc := 224) X (i := 0) d_O_permute_224 rfl rfl ?_
              refine g_get (pc := 225) X in_O 0 rfl rfl 14 (by decide) wd_833 rfl d_O_permute_225 ?_
              refine g_iload_n (pc := 228) X (i := 2) d_O_permute_228 rfl rfl ?_
              refine g_iconst (pc := 229) X (v := nI 1) d_O_permute_229 (by decide) ?_
              refine g_iaddN (pc := 230) X (a1 + 1) (by omega) d_O_permute_230 ?_
              refine g_iconst (pc := 231) X (v := nI 5) d_O_permute_231 (by decide) ?_
              refine g_iremN (pc := 232) X ((a1 + 1) % 5) (by omega) (by omega) (by omega) rfl d_O_permute_232 ?_
              refine g_iconst (pc := 233) X (v := nI 5) d_O_permute_233 (by decide) ?_
              refine g_iload_n (pc := 234) X (i := 3) d_O_permute_234 rfl rfl ?_
              refine g_imulN (pc := 235) X (5 * b1) rfl d_O_permute_235 ?_
              refine g_iaddN (pc := 236) X ((a1 + 1) % 5 + (5 * b1)) (by omega) d_O_permute_236 ?_
              refine g_lald (pc := 237) X 2 rfl ((a1 + 1) % 5 + (5 * b1)) rfl (by omega) (by omega) d_O_permute_237 ?_
              refine g_ldc2 (pc := 238) X wd_799 d_O_permute_238 ?_
              refine g_lxor (pc := 241) X d_O_permute_241 ?_
              refine g_aload_n (pc := 242) X (i := 0) d_O_permute_242 rfl rfl ?_
              refine g_get (pc := 243) X in_O 0 rfl rfl 14 (by decide) wd_833 rfl d_O_permute_243 ?_
              refine g_iload_n (pc := 246) X (i := 2) d_O_permute_246 rfl rfl ?_
              refine g_iconst (pc := 247) X (v := nI 2) d_O_permute_247 (by decide) ?_
              refine g_iaddN (pc := 248) X (a1 + 2) (by omega) d_O_permute_248 ?_
              refine g_iconst (pc := 249) X (v := nI 5) d_O_permute_249 (by decide) ?_
              refine g_iremN (pc := 250) X ((a1 + 2) % 5) (by omega) (by omega) (by omega) rfl d_O_permute_250 ?_
              refine g_iconst (pc := 251) X (v := nI 5) d_O_permute_251 (by decide) ?_
              refine g_iload_n (pc := 252) X (i := 3) d_O_permute_252 rfl rfl ?_
              refine g_imulN (pc := 253) X (5 * b1) rfl d_O_permute_253 ?_
              refine g_iaddN (pc := 254) X ((a1 + 2) % 5 + (5 * b1)) (by omega) d_O_permute_254 ?_
              refine g_lald (pc := 255) X 2 rfl ((a1 + 2) % 5 + (5 * b1)) rfl (by omega) (by omega) d_O_permute_255 ?_
              refine g_land (pc := 256) X d_O_permute_256 ?_
              refine g_lxor (pc := 257) X d_O_permute_257 ?_
              refine g_last (pc := 258) X 1 rfl (a1 + (5 * b1)) rfl (by omega) (by omega) d_O_permute_258 ?_
              refine g_wsq [co a 4 [.ref (q 0), .ref (q 1), .ref (q 2), .int (nI tp), .int cd, .ref (q 3), .ref (q 4), .ref (q 5), .ref (q 6), .ref (q 7), .ref (q 8), .ref (q 9), .ref (q 10), .ref (q 11), .ref (q 12), .ref (q 13), .ref (q 14), .ref (q 15), .int (nI kd), .int (nI rt), .int (nI fl), .long (lN tt), .ref (q 16), .ref (q 17)], cj B (q 11) 25 (va_up y (a1 + (5 * b1)) (((rrho (rtheta (rcols s.1 s.2.2) s.1) T s.2.1) (a1 + (5 * b1))) ^^^ ((((rrho (rtheta (rcols s.1 s.2.2) s.1) T s.2.1) ((a1 + 1) % 5 + (5 * b1))) ^^^ (-1)) &&& ((rrho (rtheta (rcols s.1 s.2.2) s.1) T s.2.1) ((a1 + 2) % 5 + (5 * b1)))))), cj B (q 12) 25 (rrho (rtheta (rcols s.1 s.2.2) s.1) T s.2.1), cj B (q 13) 5 (rcols s.1 s.2.2), cn B (q 9) 25 T, cj B (q 10) 24 rn] rfl ?_
              refine g_iincN (pc := 259) X (a := b1) (b1 + 1) d_O_permute_259 rfl 1 rfl (by omega) (by decide) ?_
              refine g_lv [(0, .ref a), (1, .int (nI i)), (2, .int (nI a1)), (3, .int (nI (b1 + 1)))] rfl ?_
              refine g_goto (pc := 262) X (tgt := 200) d_O_permute_262 (by decide) ?_
              refine g_lv [(0, .ref a), (1, .int (nI i)), (2, .int (nI a1)), (3, .int (nI (b1 + 1)))] rfl ?_
              exact kk200 _ (by rfl)
            · show G B M 4 0 0 Q [co a 4 [.ref (q 0), .ref (q 1), .ref (q 2), .int (nI tp), .int cd, .ref (q 3), .ref (q 4), .ref (q 5), .ref (q 6), .ref (q 7), .ref (q 8), .ref (q 9), .ref (q 10), .ref (q 11), .ref (q 12), .ref (q 13), .ref (q 14), .ref (q 15), .int (nI kd), .int (nI rt), .int (nI fl), .long (lN tt), .ref (q 16), .ref (q 17)], cj B (q 11) 25 (it (rxI (rrho (rtheta (rcols s.1 s.2.2) s.1) T s.2.1) a1) 5 x), cj B (q 12) 25 (rrho (rtheta (rcols s.1 s.2.2) s.1) T s.2.1), cj B (q 13) 5 (rcols s.1 s.2.2), cn B (q 9) 25 T, cj B (q 10) 24 rn] [(0, .ref a), (1, .int (nI i)), (2, .int (nI a1)), (3, .int (nI 5))] 200 []
              refine g_iload_n (pc := 200) X (i := 3) d_O_permute_200 rfl rfl ?_
              refine g_iconst (pc := 201) X (v := nI 5) d_O_permute_201 (by decide) ?_
              refine g_icmp_geN (pc := 202) X (tgt := 265) d_O_permute_202 (by decide) (by omega) (by omega) (fun h_202 => ?_) (fun h_202 => absurd h_202 (by omega))
              refine g_iincN (pc := 265) X (a := a1) (a1 + 1) d_O_permute_265 rfl 1 rfl (by omega) (by decide) ?_
              refine g_lv [(0, .ref a), (1, .int (nI i)), (2, .int (nI (a1 + 1))), (3, .int (nI 5))] rfl ?_
              refine g_goto (pc := 268) X (tgt := 193) d_O_permute_268 (by decide) ?_
              refine g_lv [(0, .ref a), (1, .int (nI i)), (2, .int (nI (a1 + 1)))] rfl ?_
              exact kk193 _ (by rfl)
          · rw [show it (rxF (rrho (rtheta (rcols s.1 s.2.2) s.1) T s.2.1)) 5 (rtheta (rcols s.1 s.2.2) s.1) = rchi (rrho (rtheta (rcols s.1 s.2.2) s.1) T s.2.1) (rtheta (rcols s.1 s.2.2) s.1) from rfl]
            show G B M 4 0 0 Q [co a 4 [.ref (q 0), .ref (q 1), .ref (q 2), .int (nI tp), .int cd, .ref (q 3), .ref (q 4), .ref (q 5), .ref (q 6), .ref (q 7), .ref (q 8), .ref (q 9), .ref (q 10), .ref (q 11), .ref (q 12), .ref (q 13), .ref (q 14), .ref (q 15), .int (nI kd), .int (nI rt), .int (nI fl), .long (lN tt), .ref (q 16), .ref (q 17)], cj B (q 11) 25 (rchi (rrho (rtheta (rcols s.1 s.2.2) s.1) T s.2.1) (rtheta (rcols s.1 s.2.2) s.1)), cj B (q 12) 25 (rrho (rtheta (rcols s.1 s.2.2) s.1) T s.2.1), cj B (q 13) 5 (rcols s.1 s.2.2), cn B (q 9) 25 T, cj B (q 10) 24 rn] [(0, .ref a), (1, .int (nI i)), (2, .int (nI 5))] 193 []
            refine g_iload_n (pc := 193) X (i := 2) d_O_permute_193 rfl rfl ?_
            refine g_iconst (pc := 194) X (v := nI 5) d_O_permute_194 (by decide) ?_
            refine g_icmp_geN (pc := 195) X (tgt := 271) d_O_permute_195 (by decide) (by omega) (by omega) (fun h_195 => ?_) (fun h_195 => absurd h_195 (by omega))
            refine g_aload_n (pc := 271) X (i := 0) d_O_permute_271 rfl rfl ?_
            refine g_get (pc := 272) X in_O 0 rfl rfl 13 (by decide) wd_832 rfl d_O_permute_272 ?_
            refine g_iconst (pc := 275) X (v := nI 0) d_O_permute_275 (by decide) ?_
            refine g_dup2_11 (pc := 276) X d_O_permute_276 rfl rfl ?_
            refine g_lald (pc := 277) X 1 rfl 0 rfl (by omega) (by omega) d_O_permute_277 ?_
            refine g_aload_n (pc := 278) X (i := 0) d_O_permute_278 rfl rfl ?_
            refine g_get (pc := 279) X in_O 0 rfl rfl 12 (by decide) wd_831 rfl d_O_permute_279 ?_
            refine g_iload_n (pc := 282) X (i := 1) d_O_permute_282 rfl rfl ?_
            refine g_lald (pc := 283) X 5 rfl i rfl (by omega) (by omega) d_O_permute_283 ?_
            refine g_lxor (pc := 284) X d_O_permute_284 ?_
            refine g_last (pc := 285) X 1 rfl 0 rfl (by omega) (by omega) d_O_permute_285 ?_
            refine g_wsq [co a 4 [.ref (q 0), .ref (q 1), .ref (q 2), .int (nI tp), .int cd, .ref (q 3), .ref (q 4), .ref (q 5), .ref (q 6), .ref (q 7), .ref (q 8), .ref (q 9), .ref (q 10), .ref (q 11), .ref (q 12), .ref (q 13), .ref (q 14), .ref (q 15), .int (nI kd), .int (nI rt), .int (nI fl), .long (lN tt), .ref (q 16), .ref (q 17)], cj B (q 11) 25 (va_up (rchi (rrho (rtheta (rcols s.1 s.2.2) s.1) T s.2.1) (rtheta (rcols s.1 s.2.2) s.1)) 0 (((rchi (rrho (rtheta (rcols s.1 s.2.2) s.1) T s.2.1) (rtheta (rcols s.1 s.2.2) s.1)) 0) ^^^ (rn i))), cj B (q 12) 25 (rrho (rtheta (rcols s.1 s.2.2) s.1) T s.2.1), cj B (q 13) 5 (rcols s.1 s.2.2), cn B (q 9) 25 T, cj B (q 10) 24 rn] rfl ?_
            refine g_iincN (pc := 286) X (a := i) (i + 1) d_O_permute_286 rfl 1 rfl (by omega) (by decide) ?_
            refine g_lv [(0, .ref a), (1, .int (nI (i + 1))), (2, .int (nI 5))] rfl ?_
            refine g_goto (pc := 289) X (tgt := 2) d_O_permute_289 (by decide) ?_
            refine g_lv [(0, .ref a), (1, .int (nI (i + 1)))] rfl ?_
            exact kk2 (_, _, _) (by rfl)
  · rw [show it (rpF T rn) 24 (S, o, c) = rprm T rn (S, o, c) from rfl]
    show G B M 4 0 0 Q [co a 4 [.ref (q 0), .ref (q 1), .ref (q 2), .int (nI tp), .int cd, .ref (q 3), .ref (q 4), .ref (q 5), .ref (q 6), .ref (q 7), .ref (q 8), .ref (q 9), .ref (q 10), .ref (q 11), .ref (q 12), .ref (q 13), .ref (q 14), .ref (q 15), .int (nI kd), .int (nI rt), .int (nI fl), .long (lN tt), .ref (q 16), .ref (q 17)], cj B (q 11) 25 ((rprm T rn (S, o, c)).1), cj B (q 12) 25 ((rprm T rn (S, o, c)).2.1), cj B (q 13) 5 ((rprm T rn (S, o, c)).2.2), cn B (q 9) 25 T, cj B (q 10) 24 rn] [(0, .ref a), (1, .int (nI 24))] 2 []
    refine g_iload_n (pc := 2) X (i := 1) d_O_permute_2 rfl rfl ?_
    refine g_bipush (pc := 3) X (v := nI 24) d_O_permute_3 (by decide) ?_
    refine g_icmp_geN (pc := 5) X (tgt := 292) d_O_permute_5 (by decide) (by omega) (by omega) (fun h_5 => ?_) (fun h_5 => absurd h_5 (by omega))
    exact kret () _ 292 trivial d_O_permute_292
