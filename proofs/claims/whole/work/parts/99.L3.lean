theorem kC_digest_1 {B : Bx} {M : Mx} {Q : State → Prop} (X : CX B M code 8 "SpongeDigestsLaw") (hR : m_R M = room_1) (da a oa : Nat) (q r : Nat → Nat) (C : CS) (R : RS) (ot : Nat → Int64) (n9 k : Nat) (g3 : C.n 3 ≤ 8192) (h9 : n9 ≤ 8192) (hkd : k = 1) : CallS B M Q 692 [.ref oa, .int (nI n9), .int (nI k), .ref da] (LW B da a oa q r C R ot) (LW B da a oa q r ((va_up C.n 6 32, va_up C.f 6 (wrS false (hsh false 2 (C.f 3) (C.n 3) C.h1).2.2.1 (C.f 6) 0 32), C.tp, C.ft, C.sp, hsh false 2 (C.f 3) (C.n 3) C.h1, 0 + (C.n 3), C.m1, C.s1, C.h2, C.t2, C.m2, C.s2, C.kf, C.pf, C.nf, C.cf) : CS) R (va_up ot 0 (lN 32))) (.int (nI 0)) 0 0 := by
  intro n1 n2 lv hn1 hn2 kk
  subst hkd
  refine g_callSh (pc := 692) X (w_c_D_digest_1 (m_l M) B da q false C.t1 C.m1 C.h1 (C.n 3) (C.n 6) n9 (C.f 3) (C.f 6) oa ot (by omega) (by decide) (by omega)) wd_590 wd_591 wd_0 wd_592 hd_L_digest [0, 1, 28, 29, 34, 35, 8, 9, 10, 11, 65] rfl rfl [da, q 0, q 27, q 28, q 33, q 34, q 7, q 8, q 9, q 10, oa] (fun _ => rfl) rfl (by rw [hR]; decide) ⟨hn1, hn2⟩ rfl (Nat.le_of_ble_eq_true rfl) d_law_692 (fun r9 _ hr9 => ?_)
  subst hr9
  generalize hsh false 2 (C.f 3) (C.n 3) C.h1 = Z0 at kk ⊢
  dsimp only [wput, LW, List.set]
  exact kk

theorem kC_digest_2 {B : Bx} {M : Mx} {Q : State → Prop} (X : CX B M code 8 "SpongeDigestsLaw") (hR : m_R M = room_1) (da a oa : Nat) (q r : Nat → Nat) (C : CS) (R : RS) (ot : Nat → Int64) (n9 k : Nat) (g3 : C.n 3 ≤ 8192) (h9 : n9 ≤ 8192) (hkd : k = 2) : CallS B M Q 692 [.ref oa, .int (nI n9), .int (nI k), .ref da] (LW B da a oa q r C R ot) (LW B da a oa q r ((va_up C.n 6 48, va_up C.f 6 (wrS true (hsh true 5 (C.f 3) (C.n 3) C.h2).2.2.1 (C.f 6) 0 48), C.tp, C.ft, C.sp, C.h1, C.t1, C.m1, C.s1, hsh true 5 (C.f 3) (C.n 3) C.h2, 0 + (C.n 3), C.m2, C.s2, C.kf, C.pf, C.nf, C.cf) : CS) R (va_up ot 0 (lN 48))) (.int (nI 0)) 0 0 := by
  intro n1 n2 lv hn1 hn2 kk
  subst hkd
  refine g_callSh (pc := 692) X (w_c_D_digest_2 (m_l M) B da q true C.t2 C.m2 C.h2 (C.n 3) (C.n 6) n9 (C.f 3) (C.f 6) oa ot (by omega) (by decide) (by omega)) wd_590 wd_591 wd_0 wd_592 hd_L_digest [0, 1, 28, 29, 34, 35, 13, 14, 15, 16, 65] rfl rfl [da, q 0, q 27, q 28, q 33, q 34, q 12, q 13, q 14, q 15, oa] (fun _ => rfl) rfl (by rw [hR]; decide) ⟨hn1, hn2⟩ rfl (Nat.le_of_ble_eq_true rfl) d_law_692 (fun r9 _ hr9 => ?_)
  subst hr9
  generalize hsh true 5 (C.f 3) (C.n 3) C.h2 = Z0 at kk ⊢
  dsimp only [wput, LW, List.set]
  exact kk

theorem kC_digest_3 {B : Bx} {M : Mx} {Q : State → Prop} (X : CX B M code 8 "SpongeDigestsLaw") (hR : m_R M = room_1) (da a oa : Nat) (q r : Nat → Nat) (C : CS) (R : RS) (ot : Nat → Int64) (n9 k : Nat) (g3 : C.n 3 ≤ 8192) (h9 : n9 ≤ 8192) (hkd : k = 3) : CallS B M Q 692 [.ref oa, .int (nI n9), .int (nI k), .ref da] (LW B da a oa q r C R ot) (LW B da a oa q r ((va_up C.n 6 64, va_up C.f 6 (wrS true (hsh true 4 (C.f 3) (C.n 3) C.h2).2.2.1 (C.f 6) 0 64), C.tp, C.ft, C.sp, C.h1, C.t1, C.m1, C.s1, hsh true 4 (C.f 3) (C.n 3) C.h2, 0 + (C.n 3), C.m2, C.s2, C.kf, C.pf, C.nf, C.cf) : CS) R (va_up ot 0 (lN 64))) (.int (nI 0)) 0 0 := by
  intro n1 n2 lv hn1 hn2 kk
  subst hkd
  refine g_callSh (pc := 692) X (w_c_D_digest_3 (m_l M) B da q true C.t2 C.m2 C.h2 (C.n 3) (C.n 6) n9 (C.f 3) (C.f 6) oa ot (by omega) (by decide) (by omega)) wd_590 wd_591 wd_0 wd_592 hd_L_digest [0, 1, 28, 29, 34, 35, 13, 14, 15, 16, 65] rfl rfl [da, q 0, q 27, q 28, q 33, q 34, q 12, q 13, q 14, q 15, oa] (fun _ => rfl) rfl (by rw [hR]; decide) ⟨hn1, hn2⟩ rfl (Nat.le_of_ble_eq_true rfl) d_law_692 (fun r9 _ hr9 => ?_)
  subst hr9
  generalize hsh true 4 (C.f 3) (C.n 3) C.h2 = Z0 at kk ⊢
  dsimp only [wput, LW, List.set]
  exact kk

theorem kC_digest_4 {B : Bx} {M : Mx} {Q : State → Prop} (X : CX B M code 8 "SpongeDigestsLaw") (hR : m_R M = room_1) (da a oa : Nat) (q r : Nat → Nat) (C : CS) (R : RS) (ot : Nat → Int64) (n9 k : Nat) (g3 : C.n 3 ≤ 8192) (h9 : n9 ≤ 8192) (hkd : k = 4) : CallS B M Q 692 [.ref oa, .int (nI n9), .int (nI k), .ref da] (LW B da a oa q r C R ot) (LW B da a oa q r ((va_up C.n 6 28, va_up C.f 6 (wrS false (hsh false 3 (C.f 3) (C.n 3) C.h1).2.2.1 (C.f 6) 0 28), C.tp, C.ft, C.sp, hsh false 3 (C.f 3) (C.n 3) C.h1, 0 + (C.n 3), C.m1, C.s1, C.h2, C.t2, C.m2, C.s2, C.kf, C.pf, C.nf, C.cf) : CS) R (va_up ot 0 (lN 28))) (.int (nI 0)) 0 0 := by
  intro n1 n2 lv hn1 hn2 kk
  subst hkd
  refine g_callSh (pc := 692) X (w_c_D_digest_4 (m_l M) B da q false C.t1 C.m1 C.h1 (C.n 3) (C.n 6) n9 (C.f 3) (C.f 6) oa ot (by omega) (by decide) (by omega)) wd_590 wd_591 wd_0 wd_592 hd_L_digest [0, 1, 28, 29, 34, 35, 8, 9, 10, 11, 65] rfl rfl [da, q 0, q 27, q 28, q 33, q 34, q 7, q 8, q 9, q 10, oa] (fun _ => rfl) rfl (by rw [hR]; decide) ⟨hn1, hn2⟩ rfl (Nat.le_of_ble_eq_true rfl) d_law_692 (fun r9 _ hr9 => ?_)
  subst hr9
  generalize hsh false 3 (C.f 3) (C.n 3) C.h1 = Z0 at kk ⊢
  dsimp only [wput, LW, List.set]
  exact kk

theorem kC_digest_5 {B : Bx} {M : Mx} {Q : State → Prop} (X : CX B M code 8 "SpongeDigestsLaw") (hR : m_R M = room_1) (da a oa : Nat) (q r : Nat → Nat) (C : CS) (R : RS) (ot : Nat → Int64) (n9 k : Nat) (g3 : C.n 3 ≤ 8192) (h9 : n9 ≤ 8192) (hkd : k = 5) : CallS B M Q 692 [.ref oa, .int (nI n9), .int (nI k), .ref da] (LW B da a oa q r C R ot) (LW B da a oa q r ((va_up C.n 6 28, va_up C.f 6 (wrS true (hsh true 6 (C.f 3) (C.n 3) C.h2).2.2.1 (C.f 6) 0 28), C.tp, C.ft, C.sp, C.h1, C.t1, C.m1, C.s1, hsh true 6 (C.f 3) (C.n 3) C.h2, 0 + (C.n 3), C.m2, C.s2, C.kf, C.pf, C.nf, C.cf) : CS) R (va_up ot 0 (lN 28))) (.int (nI 0)) 0 0 := by
  intro n1 n2 lv hn1 hn2 kk
  subst hkd
  refine g_callSh (pc := 692) X (w_c_D_digest_5 (m_l M) B da q true C.t2 C.m2 C.h2 (C.n 3) (C.n 6) n9 (C.f 3) (C.f 6) oa ot (by omega) (by decide) (by omega)) wd_590 wd_591 wd_0 wd_592 hd_L_digest [0, 1, 28, 29, 34, 35, 13, 14, 15, 16, 65] rfl rfl [da, q 0, q 27, q 28, q 33, q 34, q 12, q 13, q 14, q 15, oa] (fun _ => rfl) rfl (by rw [hR]; decide) ⟨hn1, hn2⟩ rfl (Nat.le_of_ble_eq_true rfl) d_law_692 (fun r9 _ hr9 => ?_)
  subst hr9
  generalize hsh true 6 (C.f 3) (C.n 3) C.h2 = Z0 at kk ⊢
  dsimp only [wput, LW, List.set]
  exact kk

theorem kC_digest_6 {B : Bx} {M : Mx} {Q : State → Prop} (X : CX B M code 8 "SpongeDigestsLaw") (hR : m_R M = room_1) (da a oa : Nat) (q r : Nat → Nat) (C : CS) (R : RS) (ot : Nat → Int64) (n9 k : Nat) (g3 : C.n 3 ≤ 8192) (h9 : n9 ≤ 8192) (hkd : k = 6) : CallS B M Q 692 [.ref oa, .int (nI n9), .int (nI k), .ref da] (LW B da a oa q r C R ot) (LW B da a oa q r ((va_up C.n 6 32, va_up C.f 6 (wrS true (hsh true 7 (C.f 3) (C.n 3) C.h2).2.2.1 (C.f 6) 0 32), C.tp, C.ft, C.sp, C.h1, C.t1, C.m1, C.s1, hsh true 7 (C.f 3) (C.n 3) C.h2, 0 + (C.n 3), C.m2, C.s2, C.kf, C.pf, C.nf, C.cf) : CS) R (va_up ot 0 (lN 32))) (.int (nI 0)) 0 0 := by
  intro n1 n2 lv hn1 hn2 kk
  subst hkd
  refine g_callSh (pc := 692) X (w_c_D_digest_6 (m_l M) B da q true C.t2 C.m2 C.h2 (C.n 3) (C.n 6) n9 (C.f 3) (C.f 6) oa ot (by omega) (by decide) (by omega)) wd_590 wd_591 wd_0 wd_592 hd_L_digest [0, 1, 28, 29, 34, 35, 13, 14, 15, 16, 65] rfl rfl [da, q 0, q 27, q 28, q 33, q 34, q 12, q 13, q 14, q 15, oa] (fun _ => rfl) rfl (by rw [hR]; decide) ⟨hn1, hn2⟩ rfl (Nat.le_of_ble_eq_true rfl) d_law_692 (fun r9 _ hr9 => ?_)
  subst hr9
  generalize hsh true 7 (C.f 3) (C.n 3) C.h2 = Z0 at kk ⊢
  dsimp only [wput, LW, List.set]
  exact kk

theorem kC_digest_7 {B : Bx} {M : Mx} {Q : State → Prop} (X : CX B M code 8 "SpongeDigestsLaw") (hR : m_R M = room_1) (da a oa : Nat) (q r : Nat → Nat) (C : CS) (R : RS) (ot : Nat → Int64) (n9 k : Nat) (g3 : C.n 3 ≤ 8192) (h9 : n9 ≤ 8192) (hkd : k = 7) : CallS B M Q 692 [.ref oa, .int (nI n9), .int (nI k), .ref da] (LW B da a oa q r C R ot) (LW B da a oa q r ((va_up C.n 6 28, va_up C.f 6 ((sqS 144 28 (abE 144 (nI 6) (C.f 3) (C.n 3) C.sp) (C.f 6)).2.2.2.2), C.tp, C.ft, ((sqS 144 28 (abE 144 (nI 6) (C.f 3) (C.n 3) C.sp) (C.f 6)).1, (sqS 144 28 (abE 144 (nI 6) (C.f 3) (C.n 3) C.sp) (C.f 6)).2.1, (sqS 144 28 (abE 144 (nI 6) (C.f 3) (C.n 3) C.sp) (C.f 6)).2.2.1), C.h1, C.t1, C.m1, C.s1, C.h2, C.t2, C.m2, C.s2, C.kf, C.pf, C.nf, C.cf) : CS) R (va_up ot 0 (lN 28))) (.int (nI 0)) 0 0 := by
  intro n1 n2 lv hn1 hn2 kk
  subst hkd
  refine g_callSh (pc := 692) X (w_c_D_digest_7 (m_l M) B da q (C.n 3) (C.n 6) n9 C.sp (C.f 3) (C.f 6) oa ot (by omega) (by omega)) wd_590 wd_591 wd_0 wd_592 hd_L_digest [0, 1, 28, 29, 34, 35, 4, 5, 6, 7, 65] rfl rfl [da, q 0, q 27, q 28, q 33, q 34, q 3, q 4, q 5, q 6, oa] (fun _ => rfl) rfl (by rw [hR]; decide) ⟨hn1, hn2⟩ rfl (Nat.le_of_ble_eq_true rfl) d_law_692 (fun r9 _ hr9 => ?_)
  subst hr9
  generalize sqS 144 28 (abE 144 (nI 6) (C.f 3) (C.n 3) C.sp) (C.f 6) = Z0 at kk ⊢
  dsimp only [wput, LW, List.set]
  exact kk

theorem kC_digest_8 {B : Bx} {M : Mx} {Q : State → Prop} (X : CX B M code 8 "SpongeDigestsLaw") (hR : m_R M = room_1) (da a oa : Nat) (q r : Nat → Nat) (C : CS) (R : RS) (ot : Nat → Int64) (n9 k : Nat) (g3 : C.n 3 ≤ 8192) (h9 : n9 ≤ 8192) (hkd : k = 8) : CallS B M Q 692 [.ref oa, .int (nI n9), .int (nI k), .ref da] (LW B da a oa q r C R ot) (LW B da a oa q r ((va_up C.n 6 32, va_up C.f 6 ((sqS 136 32 (abE 136 (nI 6) (C.f 3) (C.n 3) C.sp) (C.f 6)).2.2.2.2), C.tp, C.ft, ((sqS 136 32 (abE 136 (nI 6) (C.f 3) (C.n 3) C.sp) (C.f 6)).1, (sqS 136 32 (abE 136 (nI 6) (C.f 3) (C.n 3) C.sp) (C.f 6)).2.1, (sqS 136 32 (abE 136 (nI 6) (C.f 3) (C.n 3) C.sp) (C.f 6)).2.2.1), C.h1, C.t1, C.m1, C.s1, C.h2, C.t2, C.m2, C.s2, C.kf, C.pf, C.nf, C.cf) : CS) R (va_up ot 0 (lN 32))) (.int (nI 0)) 0 0 := by
  intro n1 n2 lv hn1 hn2 kk
  subst hkd
  refine g_callSh (pc := 692) X (w_c_D_digest_8 (m_l M) B da q (C.n 3) (C.n 6) n9 C.sp (C.f 3) (C.f 6) oa ot (by omega) (by omega)) wd_590 wd_591 wd_0 wd_592 hd_L_digest [0, 1, 28, 29, 34, 35, 4, 5, 6, 7, 65] rfl rfl [da, q 0, q 27, q 28, q 33, q 34, q 3, q 4, q 5, q 6, oa] (fun _ => rfl) rfl (by rw [hR]; decide) ⟨hn1, hn2⟩ rfl (Nat.le_of_ble_eq_true rfl) d_law_692 (fun r9 _ hr9 => ?_)
  subst hr9
  generalize sqS 136 32 (abE 136 (nI 6) (C.f 3) (C.n 3) C.sp) (C.f 6) = Z0 at kk ⊢
  dsimp only [wput, LW, List.set]
  exact kk

theorem kC_digest_9 {B : Bx} {M : Mx} {Q : State → Prop} (X : CX B M code 8 "SpongeDigestsLaw") (hR : m_R M = room_1) (da a oa : Nat) (q r : Nat → Nat) (C : CS) (R : RS) (ot : Nat → Int64) (n9 k : Nat) (g3 : C.n 3 ≤ 8192) (h9 : n9 ≤ 8192) (hkd : k = 9) : CallS B M Q 692 [.ref oa, .int (nI n9), .int (nI k), .ref da] (LW B da a oa q r C R ot) (LW B da a oa q r ((va_up C.n 6 48, va_up C.f 6 ((sqS 104 48 (abE 104 (nI 6) (C.f 3) (C.n 3) C.sp) (C.f 6)).2.2.2.2), C.tp, C.ft, ((sqS 104 48 (abE 104 (nI 6) (C.f 3) (C.n 3) C.sp) (C.f 6)).1, (sqS 104 48 (abE 104 (nI 6) (C.f 3) (C.n 3) C.sp) (C.f 6)).2.1, (sqS 104 48 (abE 104 (nI 6) (C.f 3) (C.n 3) C.sp) (C.f 6)).2.2.1), C.h1, C.t1, C.m1, C.s1, C.h2, C.t2, C.m2, C.s2, C.kf, C.pf, C.nf, C.cf) : CS) R (va_up ot 0 (lN 48))) (.int (nI 0)) 0 0 := by
  intro n1 n2 lv hn1 hn2 kk
  subst hkd
  refine g_callSh (pc := 692) X (w_c_D_digest_9 (m_l M) B da q (C.n 3) (C.n 6) n9 C.sp (C.f 3) (C.f 6) oa ot (by omega) (by omega)) wd_590 wd_591 wd_0 wd_592 hd_L_digest [0, 1, 28, 29, 34, 35, 4, 5, 6, 7, 65] rfl rfl [da, q 0, q 27, q 28, q 33, q 34, q 3, q 4, q 5, q 6, oa] (fun _ => rfl) rfl (by rw [hR]; decide) ⟨hn1, hn2⟩ rfl (Nat.le_of_ble_eq_true rfl) d_law_692 (fun r9 _ hr9 => ?_)
  subst hr9
  generalize sqS 104 48 (abE 104 (nI 6) (C.f 3) (C.n 3) C.sp) (C.f 6) = Z0 at kk ⊢
  dsimp only [wput, LW, List.set]
  exact kk

theorem kC_digest_10 {B : Bx} {M : Mx} {Q : State → Prop} (X : CX B M code 8 "SpongeDigestsLaw") (hR : m_R M = room_1) (da a oa : Nat) (q r : Nat → Nat) (C : CS) (R : RS) (ot : Nat → Int64) (n9 k : Nat) (g3 : C.n 3 ≤ 8192) (h9 : n9 ≤ 8192) (hkd : k = 10) : CallS B M Q 692 [.ref oa, .int (nI n9), .int (nI k), .ref da] (LW B da a oa q r C R ot) (LW B da a oa q r ((va_up C.n 6 64, va_up C.f 6 ((sqS 72 64 (abE 72 (nI 6) (C.f 3) (C.n 3) C.sp) (C.f 6)).2.2.2.2), C.tp, C.ft, ((sqS 72 64 (abE 72 (nI 6) (C.f 3) (C.n 3) C.sp) (C.f 6)).1, (sqS 72 64 (abE 72 (nI 6) (C.f 3) (C.n 3) C.sp) (C.f 6)).2.1, (sqS 72 64 (abE 72 (nI 6) (C.f 3) (C.n 3) C.sp) (C.f 6)).2.2.1), C.h1, C.t1, C.m1, C.s1, C.h2, C.t2, C.m2, C.s2, C.kf, C.pf, C.nf, C.cf) : CS) R (va_up ot 0 (lN 64))) (.int (nI 0)) 0 0 := by
  intro n1 n2 lv hn1 hn2 kk
  subst hkd
  refine g_callSh (pc := 692) X (w_c_D_digest_10 (m_l M) B da q (C.n 3) (C.n 6) n9 C.sp (C.f 3) (C.f 6) oa ot (by omega) (by omega)) wd_590 wd_591 wd_0 wd_592 hd_L_digest [0, 1, 28, 29, 34, 35, 4, 5, 6, 7, 65] rfl rfl [da, q 0, q 27, q 28, q 33, q 34, q 3, q 4, q 5, q 6, oa] (fun _ => rfl) rfl (by rw [hR]; decide) ⟨hn1, hn2⟩ rfl (Nat.le_of_ble_eq_true rfl) d_law_692 (fun r9 _ hr9 => ?_)
  subst hr9
  generalize sqS 72 64 (abE 72 (nI 6) (C.f 3) (C.n 3) C.sp) (C.f 6) = Z0 at kk ⊢
  dsimp only [wput, LW, List.set]
  exact kk

theorem kC_digest_11 {B : Bx} {M : Mx} {Q : State → Prop} (X : CX B M code 8 "SpongeDigestsLaw") (hR : m_R M = room_1) (da a oa : Nat) (q r : Nat → Nat) (C : CS) (R : RS) (ot : Nat → Int64) (n9 k : Nat) (g3 : C.n 3 ≤ 8192) (h9 : n9 ≤ 8192) (hkd : k = 11) : CallS B M Q 692 [.ref oa, .int (nI n9), .int (nI k), .ref da] (LW B da a oa q r C R ot) (LW B da a oa q r ((va_up C.n 6 n9, va_up C.f 6 ((sqS 168 n9 (abE 168 (nI 31) (C.f 3) (C.n 3) C.sp) (C.f 6)).2.2.2.2), C.tp, C.ft, ((sqS 168 n9 (abE 168 (nI 31) (C.f 3) (C.n 3) C.sp) (C.f 6)).1, (sqS 168 n9 (abE 168 (nI 31) (C.f 3) (C.n 3) C.sp) (C.f 6)).2.1, (sqS 168 n9 (abE 168 (nI 31) (C.f 3) (C.n 3) C.sp) (C.f 6)).2.2.1), C.h1, C.t1, C.m1, C.s1, C.h2, C.t2, C.m2, C.s2, C.kf, C.pf, C.nf, C.cf) : CS) R (va_up ot 0 (lN n9))) (.int (nI 0)) 0 0 := by
  intro n1 n2 lv hn1 hn2 kk
  subst hkd
  refine g_callSh (pc := 692) X (w_c_D_digest_11 (m_l M) B da q (C.n 3) (C.n 6) n9 C.sp (C.f 3) (C.f 6) oa ot (by omega) (by omega)) wd_590 wd_591 wd_0 wd_592 hd_L_digest [0, 1, 28, 29, 34, 35, 4, 5, 6, 7, 65] rfl rfl [da, q 0, q 27, q 28, q 33, q 34, q 3, q 4, q 5, q 6, oa] (fun _ => rfl) rfl (by rw [hR]; decide) ⟨hn1, hn2⟩ rfl (Nat.le_of_ble_eq_true rfl) d_law_692 (fun r9 _ hr9 => ?_)
  subst hr9
  generalize sqS 168 n9 (abE 168 (nI 31) (C.f 3) (C.n 3) C.sp) (C.f 6) = Z0 at kk ⊢
  dsimp only [wput, LW, List.set]
  exact kk

theorem kC_digest_12 {B : Bx} {M : Mx} {Q : State → Prop} (X : CX B M code 8 "SpongeDigestsLaw") (hR : m_R M = room_1) (da a oa : Nat) (q r : Nat → Nat) (C : CS) (R : RS) (ot : Nat → Int64) (n9 k : Nat) (g3 : C.n 3 ≤ 8192) (h9 : n9 ≤ 8192) (hkd : k = 12) : CallS B M Q 692 [.ref oa, .int (nI n9), .int (nI k), .ref da] (LW B da a oa q r C R ot) (LW B da a oa q r ((va_up C.n 6 n9, va_up C.f 6 ((sqS 136 n9 (abE 136 (nI 31) (C.f 3) (C.n 3) C.sp) (C.f 6)).2.2.2.2), C.tp, C.ft, ((sqS 136 n9 (abE 136 (nI 31) (C.f 3) (C.n 3) C.sp) (C.f 6)).1, (sqS 136 n9 (abE 136 (nI 31) (C.f 3) (C.n 3) C.sp) (C.f 6)).2.1, (sqS 136 n9 (abE 136 (nI 31) (C.f 3) (C.n 3) C.sp) (C.f 6)).2.2.1), C.h1, C.t1, C.m1, C.s1, C.h2, C.t2, C.m2, C.s2, C.kf, C.pf, C.nf, C.cf) : CS) R (va_up ot 0 (lN n9))) (.int (nI 0)) 0 0 := by
  intro n1 n2 lv hn1 hn2 kk
  subst hkd
  refine g_callSh (pc := 692) X (w_c_D_digest_12 (m_l M) B da q (C.n 3) (C.n 6) n9 C.sp (C.f 3) (C.f 6) oa ot (by omega) (by omega)) wd_590 wd_591 wd_0 wd_592 hd_L_digest [0, 1, 28, 29, 34, 35, 4, 5, 6, 7, 65] rfl rfl [da, q 0, q 27, q 28, q 33, q 34, q 3, q 4, q 5, q 6, oa] (fun _ => rfl) rfl (by rw [hR]; decide) ⟨hn1, hn2⟩ rfl (Nat.le_of_ble_eq_true rfl) d_law_692 (fun r9 _ hr9 => ?_)
  subst hr9
  generalize sqS 136 n9 (abE 136 (nI 31) (C.f 3) (C.n 3) C.sp) (C.f 6) = Z0 at kk ⊢
  dsimp only [wput, LW, List.set]
  exact kk

theorem kC_digest_13 {B : Bx} {M : Mx} {Q : State → Prop} (X : CX B M code 8 "SpongeDigestsLaw") (hR : m_R M = room_1) (da a oa : Nat) (q r : Nat → Nat) (C : CS) (R : RS) (ot : Nat → Int64) (n9 k : Nat) (g0 : C.n 0 ≤ 8192) (g3 : C.n 3 ≤ 8192) (h9 : n9 ≤ 8192) (hkd : k = 13) : CallS B M Q 692 [.ref oa, .int (nI n9), .int (nI k), .ref da] (LW B da a oa q r C R ot) (LW B da a oa q r ((va_up C.n 6 (8 * wbN false), va_up C.f 6 (wrS false (hk4 false 2 (C.f 0) (C.n 0) (C.f 3) (C.n 3) C.h1 C.kf C.pf C.nf).2.2.1 (C.f 6) 0 (8 * wbN false)), C.tp, C.ft, C.sp, hk4 false 2 (C.f 0) (C.n 0) (C.f 3) (C.n 3) C.h1 C.kf C.pf C.nf, 0 + 16 * wbN false + 8 * wbN false, C.m1, C.s1, C.h2, C.t2, C.m2, C.s2, keyB false 2 (C.f 0) (C.n 0) C.h1 C.kf, hkP false 2 (C.f 0) (C.n 0) C.h1 C.kf C.pf, hkI false 2 (C.f 0) (C.n 0) (C.f 3) (C.n 3) C.h1 C.kf C.pf C.nf, C.cf) : CS) R (va_up ot 0 (lN (8 * wbN false)))) (.int (nI 0)) 0 0 := by
  intro n1 n2 lv hn1 hn2 kk
  subst hkd
  refine g_callSh (pc := 692) X (w_c_D_digest_13 (m_l M) B da q false C.t1 C.m1 C.h1 (C.n 3) (C.n 6) (C.n 0) n9 (C.f 3) (C.f 6) (C.f 0) C.kf C.pf C.nf oa ot (by omega) (by omega) (by omega)) wd_590 wd_591 wd_0 wd_592 hd_L_digest [0, 1, 22, 23, 28, 29, 34, 35, 18, 19, 20, 8, 9, 10, 11, 65] rfl rfl [da, q 0, q 21, q 22, q 27, q 28, q 33, q 34, q 17, q 18, q 19, q 7, q 8, q 9, q 10, oa] (fun _ => rfl) rfl (by rw [hR]; decide) ⟨hn1, hn2⟩ rfl (Nat.le_of_ble_eq_true rfl) d_law_692 (fun r9 _ hr9 => ?_)
  subst hr9
  generalize hk4 false 2 (C.f 0) (C.n 0) (C.f 3) (C.n 3) C.h1 C.kf C.pf C.nf = Z0 at kk ⊢
  generalize hkI false 2 (C.f 0) (C.n 0) (C.f 3) (C.n 3) C.h1 C.kf C.pf C.nf = Z1 at kk ⊢
  generalize hkP false 2 (C.f 0) (C.n 0) C.h1 C.kf C.pf = Z2 at kk ⊢
  generalize keyB false 2 (C.f 0) (C.n 0) C.h1 C.kf = Z3 at kk ⊢
  dsimp only [wput, LW, List.set]
  exact kk

theorem kC_digest_14 {B : Bx} {M : Mx} {Q : State → Prop} (X : CX B M code 8 "SpongeDigestsLaw") (hR : m_R M = room_1) (da a oa : Nat) (q r : Nat → Nat) (C : CS) (R : RS) (ot : Nat → Int64) (n9 k : Nat) (g0 : C.n 0 ≤ 8192) (g3 : C.n 3 ≤ 8192) (h9 : n9 ≤ 8192) (hkd : k = 14) : CallS B M Q 692 [.ref oa, .int (nI n9), .int (nI k), .ref da] (LW B da a oa q r C R ot) (LW B da a oa q r ((va_up C.n 6 (8 * wbN true), va_up C.f 6 (wrS true (hk4 true 4 (C.f 0) (C.n 0) (C.f 3) (C.n 3) C.h2 C.kf C.pf C.nf).2.2.1 (C.f 6) 0 (8 * wbN true)), C.tp, C.ft, C.sp, C.h1, C.t1, C.m1, C.s1, hk4 true 4 (C.f 0) (C.n 0) (C.f 3) (C.n 3) C.h2 C.kf C.pf C.nf, 0 + 16 * wbN true + 8 * wbN true, C.m2, C.s2, keyB true 4 (C.f 0) (C.n 0) C.h2 C.kf, hkP true 4 (C.f 0) (C.n 0) C.h2 C.kf C.pf, hkI true 4 (C.f 0) (C.n 0) (C.f 3) (C.n 3) C.h2 C.kf C.pf C.nf, C.cf) : CS) R (va_up ot 0 (lN (8 * wbN true)))) (.int (nI 0)) 0 0 := by
  intro n1 n2 lv hn1 hn2 kk
  subst hkd
  refine g_callSh (pc := 692) X (w_c_D_digest_14 (m_l M) B da q true C.t2 C.m2 C.h2 (C.n 3) (C.n 6) (C.n 0) n9 (C.f 3) (C.f 6) (C.f 0) C.kf C.pf C.nf oa ot (by omega) (by omega) (by omega)) wd_590 wd_591 wd_0 wd_592 hd_L_digest [0, 1, 22, 23, 28, 29, 34, 35, 18, 19, 20, 13, 14, 15, 16, 65] rfl rfl [da, q 0, q 21, q 22, q 27, q 28, q 33, q 34, q 17, q 18, q 19, q 12, q 13, q 14, q 15, oa] (fun _ => rfl) rfl (by rw [hR]; decide) ⟨hn1, hn2⟩ rfl (Nat.le_of_ble_eq_true rfl) d_law_692 (fun r9 _ hr9 => ?_)
  subst hr9
  generalize hk4 true 4 (C.f 0) (C.n 0) (C.f 3) (C.n 3) C.h2 C.kf C.pf C.nf = Z0 at kk ⊢
  generalize hkI true 4 (C.f 0) (C.n 0) (C.f 3) (C.n 3) C.h2 C.kf C.pf C.nf = Z1 at kk ⊢
  generalize hkP true 4 (C.f 0) (C.n 0) C.h2 C.kf C.pf = Z2 at kk ⊢
  generalize keyB true 4 (C.f 0) (C.n 0) C.h2 C.kf = Z3 at kk ⊢
  dsimp only [wput, LW, List.set]
  exact kk

theorem kC_digest_15 {B : Bx} {M : Mx} {Q : State → Prop} (X : CX B M code 8 "SpongeDigestsLaw") (hR : m_R M = room_1) (da a oa : Nat) (q r : Nat → Nat) (C : CS) (R : RS) (ot : Nat → Int64) (n9 k : Nat) (g3 : C.n 3 ≤ 8192) (h9 : n9 ≤ 8192) (hkd : k = 15) : CallS B M Q 692 [.ref oa, .int (nI n9), .int (nI k), .ref da] (LW B da a oa q r C R ot) (LW B da a oa q r ((va_up C.n 6 n9, va_up C.f 6 ((hcU false 2 (C.f 3) (C.n 3) n9 C.h1 C.s1 C.cf (C.f 6)).2.2.1), C.tp, C.ft, C.sp, (hcU false 2 (C.f 3) (C.n 3) n9 C.h1 C.s1 C.cf (C.f 6)).1, (hcU false 2 (C.f 3) (C.n 3) n9 C.h1 C.s1 C.cf (C.f 6)).2.2.2, 0 + ((C.n 3) - (C.n 3) % (16 * wbN false)), hcM false 2 (C.f 3) (C.n 3) C.h1 C.s1, C.h2, C.t2, C.m2, C.s2, C.kf, C.pf, C.nf, (hcU false 2 (C.f 3) (C.n 3) n9 C.h1 C.s1 C.cf (C.f 6)).2.1) : CS) R (va_up ot 0 (lN n9))) (.int (nI 0)) 0 0 := by
  intro n1 n2 lv hn1 hn2 kk
  subst hkd
  refine g_callSh (pc := 692) X (w_c_D_digest_15 (m_l M) B da q false C.t1 C.m1 C.h1 (C.n 3) (C.n 6) n9 C.s1 (C.f 3) (C.f 6) C.cf oa ot (by omega) (by omega)) wd_590 wd_591 wd_0 wd_592 hd_L_digest [0, 1, 28, 29, 34, 35, 8, 9, 10, 11, 12, 21, 65] rfl rfl [da, q 0, q 27, q 28, q 33, q 34, q 7, q 8, q 9, q 10, q 11, q 20, oa] (fun _ => rfl) rfl (by rw [hR]; decide) ⟨hn1, hn2⟩ rfl (Nat.le_of_ble_eq_true rfl) d_law_692 (fun r9 _ hr9 => ?_)
  subst hr9
  generalize hcU false 2 (C.f 3) (C.n 3) n9 C.h1 C.s1 C.cf (C.f 6) = Z0 at kk ⊢
  generalize hcM false 2 (C.f 3) (C.n 3) C.h1 C.s1 = Z1 at kk ⊢
  dsimp only [wput, LW, List.set]
  exact kk

theorem kC_digest_16 {B : Bx} {M : Mx} {Q : State → Prop} (X : CX B M code 8 "SpongeDigestsLaw") (hR : m_R M = room_1) (da a oa : Nat) (q r : Nat → Nat) (C : CS) (R : RS) (ot : Nat → Int64) (n9 k : Nat) (g3 : C.n 3 ≤ 8192) (h9 : n9 ≤ 8192) (hkd : k = 16) : CallS B M Q 692 [.ref oa, .int (nI n9), .int (nI k), .ref da] (LW B da a oa q r C R ot) (LW B da a oa q r ((va_up C.n 6 n9, va_up C.f 6 ((hcU true 4 (C.f 3) (C.n 3) n9 C.h2 C.s2 C.cf (C.f 6)).2.2.1), C.tp, C.ft, C.sp, C.h1, C.t1, C.m1, C.s1, (hcU true 4 (C.f 3) (C.n 3) n9 C.h2 C.s2 C.cf (C.f 6)).1, (hcU true 4 (C.f 3) (C.n 3) n9 C.h2 C.s2 C.cf (C.f 6)).2.2.2, 0 + ((C.n 3) - (C.n 3) % (16 * wbN true)), hcM true 4 (C.f 3) (C.n 3) C.h2 C.s2, C.kf, C.pf, C.nf, (hcU true 4 (C.f 3) (C.n 3) n9 C.h2 C.s2 C.cf (C.f 6)).2.1) : CS) R (va_up ot 0 (lN n9))) (.int (nI 0)) 0 0 := by
  intro n1 n2 lv hn1 hn2 kk
  subst hkd
  refine g_callSh (pc := 692) X (w_c_D_digest_16 (m_l M) B da q true C.t2 C.m2 C.h2 (C.n 3) (C.n 6) n9 C.s2 (C.f 3) (C.f 6) C.cf oa ot (by omega) (by omega)) wd_590 wd_591 wd_0 wd_592 hd_L_digest [0, 1, 28, 29, 34, 35, 13, 14, 15, 16, 17, 21, 65] rfl rfl [da, q 0, q 27, q 28, q 33, q 34, q 12, q 13, q 14, q 15, q 16, q 20, oa] (fun _ => rfl) rfl (by rw [hR]; decide) ⟨hn1, hn2⟩ rfl (Nat.le_of_ble_eq_true rfl) d_law_692 (fun r9 _ hr9 => ?_)
  subst hr9
  generalize hcU true 4 (C.f 3) (C.n 3) n9 C.h2 C.s2 C.cf (C.f 6) = Z0 at kk ⊢
  generalize hcM true 4 (C.f 3) (C.n 3) C.h2 C.s2 = Z1 at kk ⊢
  dsimp only [wput, LW, List.set]
  exact kk

theorem kC_digest1 {B : Bx} {M : Mx} {Q : State → Prop} (X : CX B M code 8 "SpongeDigestsLaw") (hR : m_R M = room_1) (da a oa : Nat) (q r : Nat → Nat) (C : CS) (R : RS) (ot : Nat → Int64) (x y : Int32) (hst : (m_l M).stackTraces = false) (h : inR x (nI 1) (nI 16) = nI 0) : CallS B M Q 692 [.ref oa, .int y, .int x, .ref da] (LW B da a oa q r C R ot) (LW B da a oa q r C R ot) (.int (nI 1)) 1 6 := by
  intro n1 n2 lv hn1 hn2 kk
  refine g_callSh (pc := 692) X (w_x_D_digest_1 (m_l M) B da q x y oa ot hst h) wd_590 wd_591 wd_0 wd_592 hd_L_digest [0, 1, 65] rfl rfl [da, q 0, oa] (fun _ => rfl) rfl (by rw [hR]; decide) ⟨hn1, hn2⟩ rfl (Nat.le_of_ble_eq_true rfl) d_law_692 (fun r9 _ hr9 => ?_)
  subst hr9
  dsimp only [wput, LW, List.set]
  exact kk

theorem kC_digest2 {B : Bx} {M : Mx} {Q : State → Prop} (X : CX B M code 8 "SpongeDigestsLaw") (hR : m_R M = room_1) (da a oa : Nat) (q r : Nat → Nat) (C : CS) (R : RS) (ot : Nat → Int64) (k : Nat) (y : Int32) (hst : (m_l M).stackTraces = false) (h1 : 1 ≤ k) (h2 : k ≤ 16) (h : inR y (nI 0) (nI 8192) = nI 0) : CallS B M Q 692 [.ref oa, .int y, .int (nI k), .ref da] (LW B da a oa q r C R ot) (LW B da a oa q r C R ot) (.int (nI 1)) 1 6 := by
  intro n1 n2 lv hn1 hn2 kk
  refine g_callSh (pc := 692) X (w_x_D_digest_2 (m_l M) B da q k y oa ot hst (by omega) (by omega) h) wd_590 wd_591 wd_0 wd_592 hd_L_digest [0, 1, 65] rfl rfl [da, q 0, oa] (fun _ => rfl) rfl (by rw [hR]; decide) ⟨hn1, hn2⟩ rfl (Nat.le_of_ble_eq_true rfl) d_law_692 (fun r9 _ hr9 => ?_)
  subst hr9
  dsimp only [wput, LW, List.set]
  exact kk
