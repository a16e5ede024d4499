theorem c_O_in (l : Launch) (B : Bx) (v : Int32) (lo : Int32) (hi : Int32)  : Ci (S := Unit) l B y_O_in b_O_in 3 .boolean (Rm 1 0 0) [.int v, .int lo, .int hi] [] (fun r _ => r = inR v lo hi) (fun _ => []) := by
  refine ctr_z (by decide) (Nat.le_of_ble_eq_true rfl) ?_
  intro M Q hl hR hin X kret
  subst hl
  refine g_lv [(0, .int v), (1, .int lo), (2, .int hi)] rfl ?_
  refine g_iload_n (pc := 0) X (i := 0) d_O_in_0 rfl rfl ?_
  refine g_iload_n (pc := 1) X (i := 1) d_O_in_1 rfl rfl ?_
  refine g_icmp_lt (pc := 2) X (tgt := 14) d_O_in_2 (by decide) (fun h_2 => ?_) (fun h_2 => ?_)
  · refine g_iconst (pc := 14) X (v := nI 0) d_O_in_14 (by decide) ?_
    exact kret _ () _ 15 ⟨by first | rfl | decide, by unfold inR; repeat (first | rw [if_pos (by assumption)] | rw [if_neg (by assumption)])⟩ d_O_in_15
  · refine g_iload_n (pc := 5) X (i := 0) d_O_in_5 rfl rfl ?_
    refine g_iload_n (pc := 6) X (i := 2) d_O_in_6 rfl rfl ?_
    refine g_icmp_gt (pc := 7) X (tgt := 14) d_O_in_7 (by decide) (fun h_7 => ?_) (fun h_7 => ?_)
    · refine g_iconst (pc := 14) X (v := nI 0) d_O_in_14 (by decide) ?_
      exact kret _ () _ 15 ⟨by first | rfl | decide, by unfold inR; repeat (first | rw [if_pos (by assumption)] | rw [if_neg (by assumption)])⟩ d_O_in_15
    · refine g_iconst (pc := 10) X (v := nI 1) d_O_in_10 (by decide) ?_
      refine g_goto (pc := 11) X (tgt := 15) d_O_in_11 (by decide) ?_
      exact kret _ () _ 15 ⟨by first | rfl | decide, by unfold inR; repeat (first | rw [if_pos (by assumption)] | rw [if_neg (by assumption)])⟩ d_O_in_15

theorem c_O_left (l : Launch) (B : Bx) (x : Int64) (n : Int32)  : Cl (S := Unit) l B y_O_left b_O_left 3 (Rm 1 0 0) [.long x, .int n] [] (fun r _ => r = leftR x n) (fun _ => []) := by
  refine ctr_l (by decide) (Nat.le_of_ble_eq_true rfl) ?_
  intro M Q hl hR hin X kret
  subst hl
  refine g_lv [(0, .long x), (2, .int n)] rfl ?_
  refine g_iload_n (pc := 0) X (i := 2) d_O_left_0 rfl rfl ?_
  refine g_if_ne (pc := 1) X (tgt := 8) d_O_left_1 (by decide) (fun h_1 => ?_) (fun h_1 => ?_)
  · refine g_lload_n (pc := 8) X (i := 0) d_O_left_8 rfl rfl ?_
    refine g_iload_n (pc := 9) X (i := 2) d_O_left_9 rfl rfl ?_
    refine g_lshl (pc := 10) X (v := lshl x n) d_O_left_10 rfl ?_
    refine g_lload_n (pc := 11) X (i := 0) d_O_left_11 rfl rfl ?_
    refine g_bipush (pc := 12) X (v := nI 64) d_O_left_12 (by decide) ?_
    refine g_iload_n (pc := 14) X (i := 2) d_O_left_14 rfl rfl ?_
    refine g_isub (pc := 15) X d_O_left_15 ?_
    refine g_lushr (pc := 16) X (v := lush x ((nI 64) - n)) d_O_left_16 rfl ?_
    refine g_lor (pc := 17) X d_O_left_17 ?_
    exact kret _ () _ 18 (by unfold leftR; first | exact (if_pos (by assumption)).symm | exact (if_neg (by assumption)).symm) d_O_left_18
  · refine g_lload_n (pc := 4) X (i := 0) d_O_left_4 rfl rfl ?_
    refine g_goto (pc := 5) X (tgt := 18) d_O_left_5 (by decide) ?_
    exact kret _ () _ 18 (by unfold leftR; first | exact (if_pos (by assumption)).symm | exact (if_neg (by assumption)).symm) d_O_left_18

theorem c_O_right (l : Launch) (B : Bx) (x : Int64) (n : Int32)  : Cl (S := Unit) l B y_O_right b_O_right 3 (Rm 1 0 0) [.long x, .int n] [] (fun r _ => r = rightR x n) (fun _ => []) := by
  refine ctr_l (by decide) (Nat.le_of_ble_eq_true rfl) ?_
  intro M Q hl hR hin X kret
  subst hl
  refine g_lv [(0, .long x), (2, .int n)] rfl ?_
  refine g_lload_n (pc := 0) X (i := 0) d_O_right_0 rfl rfl ?_
  refine g_iload_n (pc := 1) X (i := 2) d_O_right_1 rfl rfl ?_
  refine g_lushr (pc := 2) X (v := lush x n) d_O_right_2 rfl ?_
  refine g_lload_n (pc := 3) X (i := 0) d_O_right_3 rfl rfl ?_
  refine g_bipush (pc := 4) X (v := nI 64) d_O_right_4 (by decide) ?_
  refine g_iload_n (pc := 6) X (i := 2) d_O_right_6 rfl rfl ?_
  refine g_isub (pc := 7) X d_O_right_7 ?_
  refine g_lshl (pc := 8) X (v := lshl x ((nI 64) - n)) d_O_right_8 rfl ?_
  refine g_lor (pc := 9) X d_O_right_9 ?_
  exact kret _ () _ 10 rfl d_O_right_10

theorem c_O_turn (l : Launch) (B : Bx) (x : Int32) (n : Int32)  : Ci (S := Unit) l B y_O_turn b_O_turn 2 .int (Rm 1 0 0) [.int x, .int n] [] (fun r _ => r = turnR x n) (fun _ => []) := by
  refine ctr_i (by decide) (Nat.le_of_ble_eq_true rfl) ?_
  intro M Q hl hR hin X kret
  subst hl
  refine g_lv [(0, .int x), (1, .int n)] rfl ?_
  refine g_iload_n (pc := 0) X (i := 0) d_O_turn_0 rfl rfl ?_
  refine g_iload_n (pc := 1) X (i := 1) d_O_turn_1 rfl rfl ?_
  refine g_iushr (pc := 2) X (v := ush x n) d_O_turn_2 rfl ?_
  refine g_iload_n (pc := 3) X (i := 0) d_O_turn_3 rfl rfl ?_
  refine g_bipush (pc := 4) X (v := nI 32) d_O_turn_4 (by decide) ?_
  refine g_iload_n (pc := 6) X (i := 1) d_O_turn_6 rfl rfl ?_
  refine g_isub (pc := 7) X d_O_turn_7 ?_
  refine g_ishl (pc := 8) X d_O_turn_8 ?_
  refine g_ior (pc := 9) X d_O_turn_9 ?_
  exact kret _ () _ 10 rfl d_O_turn_10

theorem c_O_flip (l : Launch) (B : Bx) (a : Nat) (q : Nat → Nat) (tp : Nat) (kd : Nat) (rt : Nat) (fl : Nat) (tt : Nat) (cd : Int32) (p : Nat) (v : Int32) (S : Nat → Int64) (h1 : p < 200) : Cv (S := Unit) l B y_O_flip b_O_flip 3 (Rm 1 0 0) [.ref a, .int (nI p), .int v] [co a 4 [.ref (q 0), .ref (q 1), .ref (q 2), .int (nI tp), .int cd, .ref (q 3), .ref (q 4), .ref (q 5), .ref (q 6), .ref (q 7), .ref (q 8), .ref (q 9), .ref (q 10), .ref (q 11), .ref (q 12), .ref (q 13), .ref (q 14), .ref (q 15), .int (nI kd), .int (nI rt), .int (nI fl), .long (lN tt), .ref (q 16), .ref (q 17)], cj B (q 11) 25 S] (fun _ => True) (fun _ => [co a 4 [.ref (q 0), .ref (q 1), .ref (q 2), .int (nI tp), .int cd, .ref (q 3), .ref (q 4), .ref (q 5), .ref (q 6), .ref (q 7), .ref (q 8), .ref (q 9), .ref (q 10), .ref (q 11), .ref (q 12), .ref (q 13), .ref (q 14), .ref (q 15), .int (nI kd), .int (nI rt), .int (nI fl), .long (lN tt), .ref (q 16), .ref (q 17)], cj B (q 11) 25 (flipR S p v)]) := by
  refine ctr_v (by decide) (Nat.le_of_ble_eq_true rfl) ?_
  intro M Q hl hR hin X kret
  subst hl
  refine g_lv [(0, .ref a), (1, .int (nI p)), (2, .int v)] rfl ?_
  refine g_aload_n (pc := 0) X (i := 0) d_O_flip_0 rfl rfl ?_
  refine g_get (pc := 1) X in_O 0 rfl rfl 13 (by decide) wd_832 rfl d_O_flip_1 ?_
  refine g_iload_n (pc := 4) X (i := 1) d_O_flip_4 rfl rfl ?_
  refine g_bipush (pc := 5) X (v := nI 8) d_O_flip_5 (by decide) ?_
  refine g_idivN (pc := 7) X (p / 8) (by omega) (by omega) (by omega) rfl d_O_flip_7 ?_
  refine g_dup2_11 (pc := 8) X d_O_flip_8 rfl rfl ?_
  refine g_lald (pc := 9) X 1 rfl (p / 8) rfl (by omega) (by omega) d_O_flip_9 ?_
  refine g_iload_n (pc := 10) X (i := 2) d_O_flip_10 rfl rfl ?_
  refine g_i2l (pc := 11) X d_O_flip_11 rfl ?_
  refine g_ldc2 (pc := 12) X wd_791 d_O_flip_12 ?_
  refine g_land (pc := 15) X d_O_flip_15 ?_
  refine g_bipush (pc := 16) X (v := nI 8) d_O_flip_16 (by decide) ?_
  refine g_iload_n (pc := 18) X (i := 1) d_O_flip_18 rfl rfl ?_
  refine g_bipush (pc := 19) X (v := nI 8) d_O_flip_19 (by decide) ?_
  refine g_iremN (pc := 21) X (p % 8) (by omega) (by omega) (by omega) rfl d_O_flip_21 ?_
  refine g_imulN (pc := 22) X (8 * (p % 8)) rfl d_O_flip_22 ?_
  refine g_lshl (pc := 23) X (v := lshl (v.toInt64 &&& 255) (nI (8 * (p % 8)))) d_O_flip_23 rfl ?_
  refine g_lxor (pc := 24) X d_O_flip_24 ?_
  refine g_last (pc := 25) X 1 rfl (p / 8) rfl (by omega) (by omega) d_O_flip_25 ?_
  refine g_wsq [co a 4 [.ref (q 0), .ref (q 1), .ref (q 2), .int (nI tp), .int cd, .ref (q 3), .ref (q 4), .ref (q 5), .ref (q 6), .ref (q 7), .ref (q 8), .ref (q 9), .ref (q 10), .ref (q 11), .ref (q 12), .ref (q 13), .ref (q 14), .ref (q 15), .int (nI kd), .int (nI rt), .int (nI fl), .long (lN tt), .ref (q 16), .ref (q 17)], cj B (q 11) 25 (va_up S (p / 8) ((S (p / 8)) ^^^ (lshl (v.toInt64 &&& 255) (nI (8 * (p % 8))))))] rfl ?_
  exact kret () _ 26 trivial d_O_flip_26
