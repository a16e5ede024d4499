theorem c_Y_init (l : Launch) (B : Bx) (a : Nat)  : Cv (S := Nat → Nat) l B y_Y_init b_Y_init 1 (Rm 2 1 8192) [.ref a] [co a 1 [.null, .int 0]] (fun _ => True) (fun u => [co a 1 [.ref (u 0), .int 0]] ++ [cb B (u 0) 8192 (fun _ => (0 : Int8))]) := by
  refine ctr_v (by decide) (Nat.le_of_ble_eq_true rfl) ?_
  intro M Q hl hR hin X kret
  subst hl
  refine g_lv [(0, .ref a)] rfl ?_
  refine g_aload_n (pc := 0) X (i := 0) d_Y_init_0 rfl rfl ?_
  refine g_objinit (pc := 1) X wd_37 wd_29 wd_30 (by rw [hR]; decide) (by rw [hR]; decide) d_Y_init_1 ?_
  refine g_aload_n (pc := 4) X (i := 0) d_Y_init_4 rfl rfl ?_
  refine g_sipush (pc := 5) X (v := nI 8192) d_Y_init_5 (by decide) ?_
  refine g_newb (pc := 8) X wd_47 (n := 8192) (by decide) (by decide) (by rw [hR]; decide) (by rw [hR]; decide) d_Y_init_8 (fun a8 => ?_)
  refine g_wsq [co a 1 [.null, .int 0], cb B a8 8192 (fun _ => (0 : Int8))] rfl ?_
  refine g_putF (pc := 10) X hin in_Y ty_Y ok_Y nm_Y 0 rfl rfl 0 (by decide) wd_38 rfl rfl rfl rfl (Nat.le_of_ble_eq_true rfl) d_Y_init_10 ?_
  refine g_wsq [co a 1 [.ref a8, .int 0], cb B a8 8192 (fun _ => (0 : Int8))] rfl ?_
  exact kret (fun i => ([a8] : List Nat).getD i 0) _ 13 trivial d_Y_init_13

theorem c_P_init (l : Launch) (B : Bx) (a : Nat)  : Cv (S := Nat → Nat) l B y_P_init b_P_init 1 (Rm 2 3 55) [.ref a] [co a 2 [.null, .null, .null]] (fun _ => True) (fun u => [co a 2 [.ref (u 0), .ref (u 1), .ref (u 2)]] ++ [cj B (u 0) 25 (fun _ => (0 : Int64)), cj B (u 1) 25 (fun _ => (0 : Int64)), cj B (u 2) 5 (fun _ => (0 : Int64))]) := by
  refine ctr_v (by decide) (Nat.le_of_ble_eq_true rfl) ?_
  intro M Q hl hR hin X kret
  subst hl
  refine g_lv [(0, .ref a)] rfl ?_
  refine g_aload_n (pc := 0) X (i := 0) d_P_init_0 rfl rfl ?_
  refine g_objinit (pc := 1) X wd_53 wd_29 wd_30 (by rw [hR]; decide) (by rw [hR]; decide) d_P_init_1 ?_
  refine g_aload_n (pc := 4) X (i := 0) d_P_init_4 rfl rfl ?_
  refine g_bipush (pc := 5) X (v := nI 25) d_P_init_5 (by decide) ?_
  refine g_newj (pc := 7) X wd_64 (n := 25) (by decide) (by decide) (by rw [hR]; decide) (by rw [hR]; decide) d_P_init_7 (fun a7 => ?_)
  refine g_wsq [co a 2 [.null, .null, .null], cj B a7 25 (fun _ => (0 : Int64))] rfl ?_
  refine g_putF (pc := 9) X hin in_P ty_P ok_P nm_P 0 rfl rfl 0 (by decide) wd_54 rfl rfl rfl rfl (Nat.le_of_ble_eq_true rfl) d_P_init_9 ?_
  refine g_wsq [co a 2 [.ref a7, .null, .null], cj B a7 25 (fun _ => (0 : Int64))] rfl ?_
  refine g_aload_n (pc := 12) X (i := 0) d_P_init_12 rfl rfl ?_
  refine g_bipush (pc := 13) X (v := nI 25) d_P_init_13 (by decide) ?_
  refine g_newj (pc := 15) X wd_64 (n := 25) (by decide) (by decide) (by rw [hR]; decide) (by rw [hR]; decide) d_P_init_15 (fun a15 => ?_)
  refine g_wsq [co a 2 [.ref a7, .null, .null], cj B a7 25 (fun _ => (0 : Int64)), cj B a15 25 (fun _ => (0 : Int64))] rfl ?_
  refine g_putF (pc := 17) X hin in_P ty_P ok_P nm_P 0 rfl rfl 1 (by decide) wd_55 rfl rfl rfl rfl (Nat.le_of_ble_eq_true rfl) d_P_init_17 ?_
  refine g_wsq [co a 2 [.ref a7, .ref a15, .null], cj B a7 25 (fun _ => (0 : Int64)), cj B a15 25 (fun _ => (0 : Int64))] rfl ?_
  refine g_aload_n (pc := 20) X (i := 0) d_P_init_20 rfl rfl ?_
  refine g_iconst (pc := 21) X (v := nI 5) d_P_init_21 (by decide) ?_
  refine g_newj (pc := 22) X wd_64 (n := 5) (by decide) (by decide) (by rw [hR]; decide) (by rw [hR]; decide) d_P_init_22 (fun a22 => ?_)
  refine g_wsq [co a 2 [.ref a7, .ref a15, .null], cj B a7 25 (fun _ => (0 : Int64)), cj B a15 25 (fun _ => (0 : Int64)), cj B a22 5 (fun _ => (0 : Int64))] rfl ?_
  refine g_putF (pc := 24) X hin in_P ty_P ok_P nm_P 0 rfl rfl 2 (by decide) wd_56 rfl rfl rfl rfl (Nat.le_of_ble_eq_true rfl) d_P_init_24 ?_
  refine g_wsq [co a 2 [.ref a7, .ref a15, .ref a22], cj B a7 25 (fun _ => (0 : Int64)), cj B a15 25 (fun _ => (0 : Int64)), cj B a22 5 (fun _ => (0 : Int64))] rfl ?_
  exact kret (fun i => ([a7, a15, a22] : List Nat).getD i 0) _ 27 trivial d_P_init_27

theorem c_H_init_false (l : Launch) (B : Bx) (a : Nat)  : Cv (S := Nat → Nat) l B y_H_init b_H_init 4 (Rm 2 4 144) [.ref a, .int (nI 4), .int (nI 64), .ref (b_t B 0)] [co a 0 [.int 0, .int 0, .int 0, .null, .long 0, .int 0, .int 0, .null, .null, .null, .null, .int 0, .long 0, .long 0]] (fun _ => True) (fun u => [co a 0 [.int (nI 4), .int (nI 32), .int (nI 64), .ref (b_t B 0), .long (mk9 false), .int (nI 64), .int (nI 32), .ref (u 0), .ref (u 1), .ref (u 2), .ref (u 3), .int 0, .long 0, .long 0]] ++ [cb B (u 0) 64 (fun _ => (0 : Int8)), cj B (u 1) 8 (fun _ => (0 : Int64)), cj B (u 2) 64 (fun _ => (0 : Int64)), cj B (u 3) 8 (fun _ => (0 : Int64))]) := by
  refine ctr_v (by decide) (Nat.le_of_ble_eq_true rfl) ?_
  intro M Q hl hR hin X kret
  subst hl
  refine g_lv [(0, .ref a), (1, .int (nI 4)), (2, .int (nI 64)), (3, .ref (b_t B 0))] rfl ?_
  refine g_aload_n (pc := 0) X (i := 0) d_H_init_0 rfl rfl ?_
  refine g_objinit (pc := 1) X wd_72 wd_29 wd_30 (by rw [hR]; decide) (by rw [hR]; decide) d_H_init_1 ?_
  refine g_aload_n (pc := 4) X (i := 0) d_H_init_4 rfl rfl ?_
  refine g_iload_n (pc := 5) X (i := 1) d_H_init_5 rfl rfl ?_
  refine g_putF (pc := 6) X hin in_H ty_H ok_H nm_H 0 rfl rfl 0 (by decide) wd_74 rfl rfl rfl rfl (Nat.le_of_ble_eq_true rfl) d_H_init_6 ?_
  refine g_wsq [co a 0 [.int (nI 4), .int 0, .int 0, .null, .long 0, .int 0, .int 0, .null, .null, .null, .null, .int 0, .long 0, .long 0]] rfl ?_
  refine g_aload_n (pc := 9) X (i := 0) d_H_init_9 rfl rfl ?_
  refine g_iload_n (pc := 10) X (i := 2) d_H_init_10 rfl rfl ?_
  refine g_putF (pc := 11) X hin in_H ty_H ok_H nm_H 0 rfl rfl 2 (by decide) wd_76 rfl rfl rfl rfl (Nat.le_of_ble_eq_true rfl) d_H_init_11 ?_
  refine g_wsq [co a 0 [.int (nI 4), .int 0, .int (nI 64), .null, .long 0, .int 0, .int 0, .null, .null, .null, .null, .int 0, .long 0, .long 0]] rfl ?_
  refine g_aload_n (pc := 14) X (i := 0) d_H_init_14 rfl rfl ?_
  refine g_aload_n (pc := 15) X (i := 3) d_H_init_15 rfl rfl ?_
  refine g_putF (pc := 16) X hin in_H ty_H ok_H nm_H 0 rfl rfl 3 (by decide) wd_77 rfl rfl rfl rfl (Nat.le_of_ble_eq_true rfl) d_H_init_16 ?_
  refine g_wsq [co a 0 [.int (nI 4), .int 0, .int (nI 64), .ref (b_t B 0), .long 0, .int 0, .int 0, .null, .null, .null, .null, .int 0, .long 0, .long 0]] rfl ?_
  refine g_aload_n (pc := 19) X (i := 0) d_H_init_19 rfl rfl ?_
  refine g_bipush (pc := 20) X (v := nI 8) d_H_init_20 (by decide) ?_
  refine g_iload_n (pc := 22) X (i := 1) d_H_init_22 rfl rfl ?_
  refine g_imulN (pc := 23) X 32 rfl d_H_init_23 ?_
  refine g_putF (pc := 24) X hin in_H ty_H ok_H nm_H 0 rfl rfl 1 (by decide) wd_75 rfl rfl rfl rfl (Nat.le_of_ble_eq_true rfl) d_H_init_24 ?_
  refine g_wsq [co a 0 [.int (nI 4), .int (nI 32), .int (nI 64), .ref (b_t B 0), .long 0, .int 0, .int 0, .null, .null, .null, .null, .int 0, .long 0, .long 0]] rfl ?_
  refine g_aload_n (pc := 27) X (i := 0) d_H_init_27 rfl rfl ?_
  refine g_ldc2 (pc := 28) X wd_73 d_H_init_28 ?_
  refine g_bipush (pc := 31) X (v := nI 64) d_H_init_31 (by decide) ?_
  refine g_aload_n (pc := 33) X (i := 0) d_H_init_33 rfl rfl ?_
  refine g_get (pc := 34) X in_H 0 rfl rfl 1 (by decide) wd_75 rfl d_H_init_34 ?_
  refine g_isubN (pc := 37) X 32 (by omega) d_H_init_37 ?_
  refine g_lushr (pc := 38) X (v := lush (-1) (nI 32)) d_H_init_38 rfl ?_
  refine g_setl (mk9 false) rfl ?_
  refine g_putF (pc := 39) X hin in_H ty_H ok_H nm_H 0 rfl rfl 4 (by decide) wd_78 rfl rfl rfl rfl (Nat.le_of_ble_eq_true rfl) d_H_init_39 ?_
  refine g_wsq [co a 0 [.int (nI 4), .int (nI 32), .int (nI 64), .ref (b_t B 0), .long (mk9 false), .int 0, .int 0, .null, .null, .null, .null, .int 0, .long 0, .long 0]] rfl ?_
  refine g_aload_n (pc := 42) X (i := 0) d_H_init_42 rfl rfl ?_
  refine g_bipush (pc := 43) X (v := nI 16) d_H_init_43 (by decide) ?_
  refine g_iload_n (pc := 45) X (i := 1) d_H_init_45 rfl rfl ?_
  refine g_imulN (pc := 46) X 64 rfl d_H_init_46 ?_
  refine g_putF (pc := 47) X hin in_H ty_H ok_H nm_H 0 rfl rfl 5 (by decide) wd_79 rfl rfl rfl rfl (Nat.le_of_ble_eq_true rfl) d_H_init_47 ?_
  refine g_wsq [co a 0 [.int (nI 4), .int (nI 32), .int (nI 64), .ref (b_t B 0), .long (mk9 false), .int (nI 64), .int 0, .null, .null, .null, .null, .int 0, .long 0, .long 0]] rfl ?_
  refine g_aload_n (pc := 50) X (i := 0) d_H_init_50 rfl rfl ?_
  refine g_bipush (pc := 51) X (v := nI 8) d_H_init_51 (by decide) ?_
  refine g_iload_n (pc := 53) X (i := 1) d_H_init_53 rfl rfl ?_
  refine g_imulN (pc := 54) X 32 rfl d_H_init_54 ?_
  refine g_putF (pc := 55) X hin in_H ty_H ok_H nm_H 0 rfl rfl 6 (by decide) wd_81 rfl rfl rfl rfl (Nat.le_of_ble_eq_true rfl) d_H_init_55 ?_
  refine g_wsq [co a 0 [.int (nI 4), .int (nI 32), .int (nI 64), .ref (b_t B 0), .long (mk9 false), .int (nI 64), .int (nI 32), .null, .null, .null, .null, .int 0, .long 0, .long 0]] rfl ?_
  refine g_aload_n (pc := 58) X (i := 0) d_H_init_58 rfl rfl ?_
  refine g_aload_n (pc := 59) X (i := 0) d_H_init_59 rfl rfl ?_
  refine g_get (pc := 60) X in_H 0 rfl rfl 5 (by decide) wd_79 rfl d_H_init_60 ?_
  refine g_newb (pc := 63) X wd_47 (n := 64) (by decide) (by decide) (by rw [hR]; decide) (by rw [hR]; decide) d_H_init_63 (fun a63 => ?_)
  refine g_wsq [co a 0 [.int (nI 4), .int (nI 32), .int (nI 64), .ref (b_t B 0), .long (mk9 false), .int (nI 64), .int (nI 32), .null, .null, .null, .null, .int 0, .long 0, .long 0], cb B a63 64 (fun _ => (0 : Int8))] rfl ?_
  refine g_putF (pc := 65) X hin in_H ty_H ok_H nm_H 0 rfl rfl 7 (by decide) wd_83 rfl rfl rfl rfl (Nat.le_of_ble_eq_true rfl) d_H_init_65 ?_
  refine g_wsq [co a 0 [.int (nI 4), .int (nI 32), .int (nI 64), .ref (b_t B 0), .long (mk9 false), .int (nI 64), .int (nI 32), .ref a63, .null, .null, .null, .int 0, .long 0, .long 0], cb B a63 64 (fun _ => (0 : Int8))] rfl ?_
  refine g_aload_n (pc := 68) X (i := 0) d_H_init_68 rfl rfl ?_
  refine g_bipush (pc := 69) X (v := nI 8) d_H_init_69 (by decide) ?_
  refine g_newj (pc := 71) X wd_64 (n := 8) (by decide) (by decide) (by rw [hR]; decide) (by rw [hR]; decide) d_H_init_71 (fun a71 => ?_)
  refine g_wsq [co a 0 [.int (nI 4), .int (nI 32), .int (nI 64), .ref (b_t B 0), .long (mk9 false), .int (nI 64), .int (nI 32), .ref a63, .null, .null, .null, .int 0, .long 0, .long 0], cb B a63 64 (fun _ => (0 : Int8)), cj B a71 8 (fun _ => (0 : Int64))] rfl ?_
  refine g_putF (pc := 73) X hin in_H ty_H ok_H nm_H 0 rfl rfl 8 (by decide) wd_84 rfl rfl rfl rfl (Nat.le_of_ble_eq_true rfl) d_H_init_73 ?_
  refine g_wsq [co a 0 [.int (nI 4), .int (nI 32), .int (nI 64), .ref (b_t B 0), .long (mk9 false), .int (nI 64), .int (nI 32), .ref a63, .ref a71, .null, .null, .int 0, .long 0, .long 0], cb B a63 64 (fun _ => (0 : Int8)), cj B a71 8 (fun _ => (0 : Int64))] rfl ?_
  refine g_aload_n (pc := 76) X (i := 0) d_H_init_76 rfl rfl ?_
  refine g_iload_n (pc := 77) X (i := 2) d_H_init_77 rfl rfl ?_
  refine g_newj (pc := 78) X wd_64 (n := 64) (by decide) (by decide) (by rw [hR]; decide) (by rw [hR]; decide) d_H_init_78 (fun a78 => ?_)
  refine g_wsq [co a 0 [.int (nI 4), .int (nI 32), .int (nI 64), .ref (b_t B 0), .long (mk9 false), .int (nI 64), .int (nI 32), .ref a63, .ref a71, .null, .null, .int 0, .long 0, .long 0], cb B a63 64 (fun _ => (0 : Int8)), cj B a71 8 (fun _ => (0 : Int64)), cj B a78 64 (fun _ => (0 : Int64))] rfl ?_
  refine g_putF (pc := 80) X hin in_H ty_H ok_H nm_H 0 rfl rfl 9 (by decide) wd_85 rfl rfl rfl rfl (Nat.le_of_ble_eq_true rfl) d_H_init_80 ?_
  refine g_wsq [co a 0 [.int (nI 4), .int (nI 32), .int (nI 64), .ref (b_t B 0), .long (mk9 false), .int (nI 64), .int (nI 32), .ref a63, .ref a71, .ref a78, .null, .int 0, .long 0, .long 0], cb B a63 64 (fun _ => (0 : Int8)), cj B a71 8 (fun _ => (0 : Int64)), cj B a78 64 (fun _ => (0 : Int64))] rfl ?_
  refine g_aload_n (pc := 83) X (i := 0) d_H_init_83 rfl rfl ?_
  refine g_bipush (pc := 84) X (v := nI 8) d_H_init_84 (by decide) ?_
  refine g_newj (pc := 86) X wd_64 (n := 8) (by decide) (by decide) (by rw [hR]; decide) (by rw [hR]; decide) d_H_init_86 (fun a86 => ?_)
  refine g_wsq [co a 0 [.int (nI 4), .int (nI 32), .int (nI 64), .ref (b_t B 0), .long (mk9 false), .int (nI 64), .int (nI 32), .ref a63, .ref a71, .ref a78, .null, .int 0, .long 0, .long 0], cb B a63 64 (fun _ => (0 : Int8)), cj B a71 8 (fun _ => (0 : Int64)), cj B a78 64 (fun _ => (0 : Int64)), cj B a86 8 (fun _ => (0 : Int64))] rfl ?_
  refine g_putF (pc := 88) X hin in_H ty_H ok_H nm_H 0 rfl rfl 10 (by decide) wd_86 rfl rfl rfl rfl (Nat.le_of_ble_eq_true rfl) d_H_init_88 ?_
  refine g_wsq [co a 0 [.int (nI 4), .int (nI 32), .int (nI 64), .ref (b_t B 0), .long (mk9 false), .int (nI 64), .int (nI 32), .ref a63, .ref a71, .ref a78, .ref a86, .int 0, .long 0, .long 0], cb B a63 64 (fun _ => (0 : Int8)), cj B a71 8 (fun _ => (0 : Int64)), cj B a78 64 (fun _ => (0 : Int64)), cj B a86 8 (fun _ => (0 : Int64))] rfl ?_
  exact kret (fun i => ([a63, a71, a78, a86] : List Nat).getD i 0) _ 91 trivial d_H_init_91

theorem c_H_init_true (l : Launch) (B : Bx) (a : Nat)  : Cv (S := Nat → Nat) l B y_H_init b_H_init 4 (Rm 2 4 224) [.ref a, .int (nI 8), .int (nI 80), .ref (b_t B 1)] [co a 0 [.int 0, .int 0, .int 0, .null, .long 0, .int 0, .int 0, .null, .null, .null, .null, .int 0, .long 0, .long 0]] (fun _ => True) (fun u => [co a 0 [.int (nI 8), .int (nI 64), .int (nI 80), .ref (b_t B 1), .long (mk9 true), .int (nI 128), .int (nI 64), .ref (u 0), .ref (u 1), .ref (u 2), .ref (u 3), .int 0, .long 0, .long 0]] ++ [cb B (u 0) 128 (fun _ => (0 : Int8)), cj B (u 1) 8 (fun _ => (0 : Int64)), cj B (u 2) 80 (fun _ => (0 : Int64)), cj B (u 3) 8 (fun _ => (0 : Int64))]) := by
  refine ctr_v (by decide) (Nat.le_of_ble_eq_true rfl) ?_
  intro M Q hl hR hin X kret
  subst hl
  refine g_lv [(0, .ref a), (1, .int (nI 8)), (2, .int (nI 80)), (3, .ref (b_t B 1))] rfl ?_
  refine g_aload_n (pc := 0) X (i := 0) d_H_init_0 rfl rfl ?_
  refine g_objinit (pc := 1) X wd_72 wd_29 wd_30 (by rw [hR]; decide) (by rw [hR]; decide) d_H_init_1 ?_
  refine g_aload_n (pc := 4) X (i := 0) d_H_init_4 rfl rfl ?_
  refine g_iload_n (pc := 5) X (i := 1) d_H_init_5 rfl rfl ?_
  refine g_putF (pc := 6) X hin in_H ty_H ok_H nm_H 0 rfl rfl 0 (by decide) wd_74 rfl rfl rfl rfl (Nat.le_of_ble_eq_true rfl) d_H_init_6 ?_
  refine g_wsq [co a 0 [.int (nI 8), .int 0, .int 0, .null, .long 0, .int 0, .int 0, .null, .null, .null, .null, .int 0, .long 0, .long 0]] rfl ?_
  refine g_aload_n (pc := 9) X (i := 0) d_H_init_9 rfl rfl ?_
  refine g_iload_n (pc := 10) X (i := 2) d_H_init_10 rfl rfl ?_
  refine g_putF (pc := 11) X hin in_H ty_H ok_H nm_H 0 rfl rfl 2 (by decide) wd_76 rfl rfl rfl rfl (Nat.le_of_ble_eq_true rfl) d_H_init_11 ?_
  refine g_wsq [co a 0 [.int (nI 8), .int 0, .int (nI 80), .null, .long 0, .int 0, .int 0, .null, .null, .null, .null, .int 0, .long 0, .long 0]] rfl ?_
  refine g_aload_n (pc := 14) X (i := 0) d_H_init_14 rfl rfl ?_
  refine g_aload_n (pc := 15) X (i := 3) d_H_init_15 rfl rfl ?_
  refine g_putF (pc := 16) X hin in_H ty_H ok_H nm_H 0 rfl rfl 3 (by decide) wd_77 rfl rfl rfl rfl (Nat.le_of_ble_eq_true rfl) d_H_init_16 ?_
  refine g_wsq [co a 0 [.int (nI 8), .int 0, .int (nI 80), .ref (b_t B 1), .long 0, .int 0, .int 0, .null, .null, .null, .null, .int 0, .long 0, .long 0]] rfl ?_
  refine g_aload_n (pc := 19) X (i := 0) d_H_init_19 rfl rfl ?_
  refine g_bipush (pc := 20) X (v := nI 8) d_H_init_20 (by decide) ?_
  refine g_iload_n (pc := 22) X (i := 1) d_H_init_22 rfl rfl ?_
  refine g_imulN (pc := 23) X 64 rfl d_H_init_23 ?_
  refine g_putF (pc := 24) X hin in_H ty_H ok_H nm_H 0 rfl rfl 1 (by decide) wd_75 rfl rfl rfl rfl (Nat.le_of_ble_eq_true rfl) d_H_init_24 ?_
  refine g_wsq [co a 0 [.int (nI 8), .int (nI 64), .int (nI 80), .ref (b_t B 1), .long 0, .int 0, .int 0, .null, .null, .null, .null, .int 0, .long 0, .long 0]] rfl ?_
  refine g_aload_n (pc := 27) X (i := 0) d_H_init_27 rfl rfl ?_
  refine g_ldc2 (pc := 28) X wd_73 d_H_init_28 ?_
  refine g_bipush (pc := 31) X (v := nI 64) d_H_init_31 (by decide) ?_
  refine g_aload_n (pc := 33) X (i := 0) d_H_init_33 rfl rfl ?_
  refine g_get (pc := 34) X in_H 0 rfl rfl 1 (by decide) wd_75 rfl d_H_init_34 ?_
  refine g_isubN (pc := 37) X 0 (by omega) d_H_init_37 ?_
  refine g_lushr (pc := 38) X (v := lush (-1) (nI 0)) d_H_init_38 rfl ?_
  refine g_setl (mk9 true) rfl ?_
  refine g_putF (pc := 39) X hin in_H ty_H ok_H nm_H 0 rfl rfl 4 (by decide) wd_78 rfl rfl rfl rfl (Nat.le_of_ble_eq_true rfl) d_H_init_39 ?_
  refine g_wsq [co a 0 [.int (nI 8), .int (nI 64), .int (nI 80), .ref (b_t B 1), .long (mk9 true), .int 0, .int 0, .null, .null, .null, .null, .int 0, .long 0, .long 0]] rfl ?_
  refine g_aload_n (pc := 42) X (i := 0) d_H_init_42 rfl rfl ?_
  refine g_bipush (pc := 43) X (v := nI 16) d_H_init_43 (by decide) ?_
  refine g_iload_n (pc := 45) X (i := 1) d_H_init_45 rfl rfl ?_
  refine g_imulN (pc := 46) X 128 rfl d_H_init_46 ?_
  refine g_putF (pc := 47) X hin in_H ty_H ok_H nm_H 0 rfl rfl 5 (by decide) wd_79 rfl rfl rfl rfl (Nat.le_of_ble_eq_true rfl) d_H_init_47 ?_
  refine g_wsq [co a 0 [.int (nI 8), .int (nI 64), .int (nI 80), .ref (b_t B 1), .long (mk9 true), .int (nI 128), .int 0, .null, .null, .null, .null, .int 0, .long 0, .long 0]] rfl ?_
  refine g_aload_n (pc := 50) X (i := 0) d_H_init_50 rfl rfl ?_
  refine g_bipush (pc := 51) X (v := nI 8) d_H_init_51 (by decide) ?_
  refine g_iload_n (pc := 53) X (i := 1) d_H_init_53 rfl rfl ?_
  refine g_imulN (pc := 54) X 64 rfl d_H_init_54 ?_
  refine g_putF (pc := 55) X hin in_H ty_H ok_H nm_H 0 rfl rfl 6 (by decide) wd_81 rfl rfl rfl rfl (Nat.le_of_ble_eq_true rfl) d_H_init_55 ?_
  refine g_wsq [co a 0 [.int (nI 8), .int (nI 64), .int (nI 80), .ref (b_t B 1), .long (mk9 true), .int (nI 128), .int (nI 64), .null, .null, .null, .null, .int 0, .long 0, .long 0]] rfl ?_
  refine g_aload_n (pc := 58) X (i := 0) d_H_init_58 rfl rfl ?_
  refine g_aload_n (pc := 59) X (i := 0) d_H_init_59 rfl rfl ?_
  refine g_get (pc := 60) X in_H 0 rfl rfl 5 (by decide) wd_79 rfl d_H_init_60 ?_
  refine g_newb (pc := 63) X wd_47 (n := 128) (by decide) (by decide) (by rw [hR]; decide) (by rw [hR]; decide) d_H_init_63 (fun a63 => ?_)
  refine g_wsq [co a 0 [.int (nI 8), .int (nI 64), .int (nI 80), .ref (b_t B 1), .long (mk9 true), .int (nI 128), .int (nI 64), .null, .null, .null, .null, .int 0, .long 0, .long 0], cb B a63 128 (fun _ => (0 : Int8))] rfl ?_
  refine g_putF (pc := 65) X hin in_H ty_H ok_H nm_H 0 rfl rfl 7 (by decide) wd_83 rfl rfl rfl rfl (Nat.le_of_ble_eq_true rfl) d_H_init_65 ?_
  refine g_wsq [co a 0 [.int (nI 8), .int (nI 64), .int (nI 80), .ref (b_t B 1), .long (mk9 true), .int (nI 128), .int (nI 64), .ref a63, .null, .null, .null, .int 0, .long 0, .long 0], cb B a63 128 (fun _ => (0 : Int8))] rfl ?_
  refine g_aload_n (pc := 68) X (i := 0) d_H_init_68 rfl rfl ?_
  refine g_bipush (pc := 69) X (v := nI 8) d_H_init_69 (by decide) ?_
  refine g_newj (pc := 71) X wd_64 (n := 8) (by decide) (by decide) (by rw [hR]; decide) (by rw [hR]; decide) d_H_init_71 (fun a71 => ?_)
  refine g_wsq [co a 0 [.int (nI 8), .int (nI 64), .int (nI 80), .ref (b_t B 1), .long (mk9 true), .int (nI 128), .int (nI 64), .ref a63, .null, .null, .null, .int 0, .long 0, .long 0], cb B a63 128 (fun _ => (0 : Int8)), cj B a71 8 (fun _ => (0 : Int64))] rfl ?_
  refine g_putF (pc := 73) X hin in_H ty_H ok_H nm_H 0 rfl rfl 8 (by decide) wd_84 rfl rfl rfl rfl (Nat.le_of_ble_eq_true rfl) d_H_init_73 ?_
  refine g_wsq [co a 0 [.int (nI 8), .int (nI 64), .int (nI 80), .ref (b_t B 1), .long (mk9 true), .int (nI 128), .int (nI 64), .ref a63, .ref a71, .null, .null, .int 0, .long 0, .long 0], cb B a63 128 (fun _ => (0 : Int8)), cj B a71 8 (fun _ => (0 : Int64))] rfl ?_
  refine g_aload_n (pc := 76) X (i := 0) d_H_init_76 rfl rfl ?_
  refine g_iload_n (pc := 77) X (i := 2) d_H_init_77 rfl rfl ?_
  refine g_newj (pc := 78) X wd_64 (n := 80) (by decide) (by decide) (by rw [hR]; decide) (by rw [hR]; decide) d_H_init_78 (fun a78 => ?_)
  refine g_wsq [co a 0 [.int (nI 8), .int (nI 64), .int (nI 80), .ref (b_t B 1), .long (mk9 true), .int (nI 128), .int (nI 64), .ref a63, .ref a71, .null, .null, .int 0, .long 0, .long 0], cb B a63 128 (fun _ => (0 : Int8)), cj B a71 8 (fun _ => (0 : Int64)), cj B a78 80 (fun _ => (0 : Int64))] rfl ?_
  refine g_putF (pc := 80) X hin in_H ty_H ok_H nm_H 0 rfl rfl 9 (by decide) wd_85 rfl rfl rfl rfl (Nat.le_of_ble_eq_true rfl) d_H_init_80 ?_
  refine g_wsq [co a 0 [.int (nI 8), .int (nI 64), .int (nI 80), .ref (b_t B 1), .long (mk9 true), .int (nI 128), .int (nI 64), .ref a63, .ref a71, .ref a78, .null, .int 0, .long 0, .long 0], cb B a63 128 (fun _ => (0 : Int8)), cj B a71 8 (fun _ => (0 : Int64)), cj B a78 80 (fun _ => (0 : Int64))] rfl ?_
  refine g_aload_n (pc := 83) X (i := 0) d_H_init_83 rfl rfl ?_
  refine g_bipush (pc := 84) X (v := nI 8) d_H_init_84 (by decide) ?_
  refine g_newj (pc := 86) X wd_64 (n := 8) (by decide) (by decide) (by rw [hR]; decide) (by rw [hR]; decide) d_H_init_86 (fun a86 => ?_)
  refine g_wsq [co a 0 [.int (nI 8), .int (nI 64), .int (nI 80), .ref (b_t B 1), .long (mk9 true), .int (nI 128), .int (nI 64), .ref a63, .ref a71, .ref a78, .null, .int 0, .long 0, .long 0], cb B a63 128 (fun _ => (0 : Int8)), cj B a71 8 (fun _ => (0 : Int64)), cj B a78 80 (fun _ => (0 : Int64)), cj B a86 8 (fun _ => (0 : Int64))] rfl ?_
  refine g_putF (pc := 88) X hin in_H ty_H ok_H nm_H 0 rfl rfl 10 (by decide) wd_86 rfl rfl rfl rfl (Nat.le_of_ble_eq_true rfl) d_H_init_88 ?_
  refine g_wsq [co a 0 [.int (nI 8), .int (nI 64), .int (nI 80), .ref (b_t B 1), .long (mk9 true), .int (nI 128), .int (nI 64), .ref a63, .ref a71, .ref a78, .ref a86, .int 0, .long 0, .long 0], cb B a63 128 (fun _ => (0 : Int8)), cj B a71 8 (fun _ => (0 : Int64)), cj B a78 80 (fun _ => (0 : Int64)), cj B a86 8 (fun _ => (0 : Int64))] rfl ?_
  exact kret (fun i => ([a63, a71, a78, a86] : List Nat).getD i 0) _ 91 trivial d_H_init_91
