theorem kC_feed {B : Bx} {M : Mx} {Q : State → Prop} (X : CX B M code 8 "SpongeDigestsLaw") (hR : m_R M = room_1) (da a oa : Nat) (q r : Nat → Nat) (C : CS) (R : RS) (ot : Nat → Int64) (x0 x1 x2 x3 x4 : Int32) (h1 : C.tp + 20 ≤ 8192) : CallS B M Q 124 [.ref oa, .int x4, .int x3, .int x2, .int x1, .int x0, .ref da] (LW B da a oa q r C R ot) (LW B da a oa q r ((C.n, C.f, C.tp + 20, app4 (app4 (app4 (app4 (app4 C.ft C.tp x0) (C.tp + 4) x1) (C.tp + 8) x2) (C.tp + 12) x3) (C.tp + 16) x4, C.sp, C.h1, C.t1, C.m1, C.s1, C.h2, C.t2, C.m2, C.s2, C.kf, C.pf, C.nf, C.cf) : CS) R (va_up ot 0 (lN (C.tp + 20)))) (.int (nI 0)) 0 0 := by
  intro n1 n2 lv hn1 hn2 kk
  refine g_callSh (pc := 124) X (w_c_D_feed (m_l M) B da q C.tp C.ft x0 x1 x2 x3 x4 oa ot (by omega)) wd_149 wd_150 wd_0 wd_151 hd_L_feed [0, 2, 3, 65] rfl rfl [da, q 1, q 2, oa] (fun _ => rfl) rfl (by rw [hR]; decide) ⟨hn1, hn2⟩ rfl (Nat.le_of_ble_eq_true rfl) d_law_124 (fun r9 _ hr9 => ?_)
  subst hr9
  dsimp only [wput, LW, List.set]
  exact kk

theorem kC_feedx {B : Bx} {M : Mx} {Q : State → Prop} (X : CX B M code 8 "SpongeDigestsLaw") (hR : m_R M = room_1) (da a oa : Nat) (q r : Nat → Nat) (C : CS) (R : RS) (ot : Nat → Int64) (x0 x1 x2 x3 x4 : Int32) (hst : (m_l M).stackTraces = false) (h1 : 8192 < C.tp + 20) (h2 : C.tp ≤ 8192) : CallS B M Q 124 [.ref oa, .int x4, .int x3, .int x2, .int x1, .int x0, .ref da] (LW B da a oa q r C R ot) (LW B da a oa q r C R ot) (.int (nI 1)) 1 6 := by
  intro n1 n2 lv hn1 hn2 kk
  refine g_callSh (pc := 124) X (w_x_D_feed (m_l M) B da q C.tp C.ft x0 x1 x2 x3 x4 oa ot hst (by omega) (by omega)) wd_149 wd_150 wd_0 wd_151 hd_L_feed [0, 2, 3, 65] rfl rfl [da, q 1, q 2, oa] (fun _ => rfl) rfl (by rw [hR]; decide) ⟨hn1, hn2⟩ rfl (Nat.le_of_ble_eq_true rfl) d_law_124 (fun r9 _ hr9 => ?_)
  subst hr9
  dsimp only [wput, LW, List.set]
  exact kk

theorem kC_end {B : Bx} {M : Mx} {Q : State → Prop} (X : CX B M code 8 "SpongeDigestsLaw") (hR : m_R M = room_1) (da a oa : Nat) (q r : Nat → Nat) (C : CS) (R : RS) (ot : Nat → Int64) (i n : Nat) (h1 : i < 8) (h2 : n ≤ 8192) (h3 : n ≤ C.tp) (h4 : C.tp ≤ 8192) : CallS B M Q 210 [.ref oa, .int (nI n), .int (nI i), .ref da] (LW B da a oa q r C R ot) (LW B da a oa q r ((va_up C.n i n, va_up C.f i (va_cpy C.ft (C.f i) 0 0 n), 0, C.ft, C.sp, C.h1, C.t1, C.m1, C.s1, C.h2, C.t2, C.m2, C.s2, C.kf, C.pf, C.nf, C.cf) : CS) R (va_up ot 0 (lN n))) (.int (nI 0)) 0 0 := by
  intro n1 n2 lv hn1 hn2 kk
  rcases (show i = 0 ∨ i = 1 ∨ i = 2 ∨ i = 3 ∨ i = 4 ∨ i = 5 ∨ i = 6 ∨ i = 7 from by omega) with e9 | e9 | e9 | e9 | e9 | e9 | e9 | e9 <;> subst e9
  · refine g_callSh (pc := 210) X (w_c_D_end (m_l M) B da q 0 (C.n 0) n C.tp (C.f 0) C.ft oa ot (by omega) (by omega) (by omega) (by omega)) wd_228 wd_229 wd_0 wd_230 hd_L_end [0, 1, 22, 23, 2, 3, 65] rfl rfl [da, q 0, q (21 + 2 * 0), q (22 + 2 * 0), q 1, q 2, oa] (fun _ => rfl) rfl (by rw [hR]; decide) ⟨hn1, hn2⟩ rfl (Nat.le_of_ble_eq_true rfl) d_law_210 (fun r9 _ hr9 => ?_)
    subst hr9
    dsimp only [wput, LW, List.set]
    exact kk
  · refine g_callSh (pc := 210) X (w_c_D_end (m_l M) B da q 1 (C.n 1) n C.tp (C.f 1) C.ft oa ot (by omega) (by omega) (by omega) (by omega)) wd_228 wd_229 wd_0 wd_230 hd_L_end [0, 1, 24, 25, 2, 3, 65] rfl rfl [da, q 0, q (21 + 2 * 1), q (22 + 2 * 1), q 1, q 2, oa] (fun _ => rfl) rfl (by rw [hR]; decide) ⟨hn1, hn2⟩ rfl (Nat.le_of_ble_eq_true rfl) d_law_210 (fun r9 _ hr9 => ?_)
    subst hr9
    dsimp only [wput, LW, List.set]
    exact kk
  · refine g_callSh (pc := 210) X (w_c_D_end (m_l M) B da q 2 (C.n 2) n C.tp (C.f 2) C.ft oa ot (by omega) (by omega) (by omega) (by omega)) wd_228 wd_229 wd_0 wd_230 hd_L_end [0, 1, 26, 27, 2, 3, 65] rfl rfl [da, q 0, q (21 + 2 * 2), q (22 + 2 * 2), q 1, q 2, oa] (fun _ => rfl) rfl (by rw [hR]; decide) ⟨hn1, hn2⟩ rfl (Nat.le_of_ble_eq_true rfl) d_law_210 (fun r9 _ hr9 => ?_)
    subst hr9
    dsimp only [wput, LW, List.set]
    exact kk
  · refine g_callSh (pc := 210) X (w_c_D_end (m_l M) B da q 3 (C.n 3) n C.tp (C.f 3) C.ft oa ot (by omega) (by omega) (by omega) (by omega)) wd_228 wd_229 wd_0 wd_230 hd_L_end [0, 1, 28, 29, 2, 3, 65] rfl rfl [da, q 0, q (21 + 2 * 3), q (22 + 2 * 3), q 1, q 2, oa] (fun _ => rfl) rfl (by rw [hR]; decide) ⟨hn1, hn2⟩ rfl (Nat.le_of_ble_eq_true rfl) d_law_210 (fun r9 _ hr9 => ?_)
    subst hr9
    dsimp only [wput, LW, List.set]
    exact kk
  · refine g_callSh (pc := 210) X (w_c_D_end (m_l M) B da q 4 (C.n 4) n C.tp (C.f 4) C.ft oa ot (by omega) (by omega) (by omega) (by omega)) wd_228 wd_229 wd_0 wd_230 hd_L_end [0, 1, 30, 31, 2, 3, 65] rfl rfl [da, q 0, q (21 + 2 * 4), q (22 + 2 * 4), q 1, q 2, oa] (fun _ => rfl) rfl (by rw [hR]; decide) ⟨hn1, hn2⟩ rfl (Nat.le_of_ble_eq_true rfl) d_law_210 (fun r9 _ hr9 => ?_)
    subst hr9
    dsimp only [wput, LW, List.set]
    exact kk
  · refine g_callSh (pc := 210) X (w_c_D_end (m_l M) B da q 5 (C.n 5) n C.tp (C.f 5) C.ft oa ot (by omega) (by omega) (by omega) (by omega)) wd_228 wd_229 wd_0 wd_230 hd_L_end [0, 1, 32, 33, 2, 3, 65] rfl rfl [da, q 0, q (21 + 2 * 5), q (22 + 2 * 5), q 1, q 2, oa] (fun _ => rfl) rfl (by rw [hR]; decide) ⟨hn1, hn2⟩ rfl (Nat.le_of_ble_eq_true rfl) d_law_210 (fun r9 _ hr9 => ?_)
    subst hr9
    dsimp only [wput, LW, List.set]
    exact kk
  · refine g_callSh (pc := 210) X (w_c_D_end (m_l M) B da q 6 (C.n 6) n C.tp (C.f 6) C.ft oa ot (by omega) (by omega) (by omega) (by omega)) wd_228 wd_229 wd_0 wd_230 hd_L_end [0, 1, 34, 35, 2, 3, 65] rfl rfl [da, q 0, q (21 + 2 * 6), q (22 + 2 * 6), q 1, q 2, oa] (fun _ => rfl) rfl (by rw [hR]; decide) ⟨hn1, hn2⟩ rfl (Nat.le_of_ble_eq_true rfl) d_law_210 (fun r9 _ hr9 => ?_)
    subst hr9
    dsimp only [wput, LW, List.set]
    exact kk
  · refine g_callSh (pc := 210) X (w_c_D_end (m_l M) B da q 7 (C.n 7) n C.tp (C.f 7) C.ft oa ot (by omega) (by omega) (by omega) (by omega)) wd_228 wd_229 wd_0 wd_230 hd_L_end [0, 1, 36, 37, 2, 3, 65] rfl rfl [da, q 0, q (21 + 2 * 7), q (22 + 2 * 7), q 1, q 2, oa] (fun _ => rfl) rfl (by rw [hR]; decide) ⟨hn1, hn2⟩ rfl (Nat.le_of_ble_eq_true rfl) d_law_210 (fun r9 _ hr9 => ?_)
    subst hr9
    dsimp only [wput, LW, List.set]
    exact kk

theorem kC_end1 {B : Bx} {M : Mx} {Q : State → Prop} (X : CX B M code 8 "SpongeDigestsLaw") (hR : m_R M = room_1) (da a oa : Nat) (q r : Nat → Nat) (C : CS) (R : RS) (ot : Nat → Int64) (x y : Int32) (hst : (m_l M).stackTraces = false) (h : inR x (nI 0) (nI 7) = nI 0) : CallS B M Q 210 [.ref oa, .int y, .int x, .ref da] (LW B da a oa q r C R ot) (LW B da a oa q r C R ot) (.int (nI 1)) 1 6 := by
  intro n1 n2 lv hn1 hn2 kk
  refine g_callSh (pc := 210) X (w_x_D_end_1 (m_l M) B da q x y oa ot hst h) wd_228 wd_229 wd_0 wd_230 hd_L_end [0, 1, 65] rfl rfl [da, q 0, oa] (fun _ => rfl) rfl (by rw [hR]; decide) ⟨hn1, hn2⟩ rfl (Nat.le_of_ble_eq_true rfl) d_law_210 (fun r9 _ hr9 => ?_)
  subst hr9
  dsimp only [wput, LW, List.set]
  exact kk

theorem kC_end2 {B : Bx} {M : Mx} {Q : State → Prop} (X : CX B M code 8 "SpongeDigestsLaw") (hR : m_R M = room_1) (da a oa : Nat) (q r : Nat → Nat) (C : CS) (R : RS) (ot : Nat → Int64) (i : Nat) (y : Int32) (hst : (m_l M).stackTraces = false) (h1 : i < 8) (h : inR y (nI 0) (nI 8192) = nI 0) : CallS B M Q 210 [.ref oa, .int y, .int (nI i), .ref da] (LW B da a oa q r C R ot) (LW B da a oa q r C R ot) (.int (nI 1)) 1 6 := by
  intro n1 n2 lv hn1 hn2 kk
  refine g_callSh (pc := 210) X (w_x_D_end_2 (m_l M) B da q i y oa ot hst (by omega) h) wd_228 wd_229 wd_0 wd_230 hd_L_end [0, 1, 65] rfl rfl [da, q 0, oa] (fun _ => rfl) rfl (by rw [hR]; decide) ⟨hn1, hn2⟩ rfl (Nat.le_of_ble_eq_true rfl) d_law_210 (fun r9 _ hr9 => ?_)
  subst hr9
  dsimp only [wput, LW, List.set]
  exact kk

theorem kC_end3 {B : Bx} {M : Mx} {Q : State → Prop} (X : CX B M code 8 "SpongeDigestsLaw") (hR : m_R M = room_1) (da a oa : Nat) (q r : Nat → Nat) (C : CS) (R : RS) (ot : Nat → Int64) (i n : Nat) (hst : (m_l M).stackTraces = false) (h1 : i < 8) (h2 : n ≤ 8192) (h3 : C.tp < n) : CallS B M Q 210 [.ref oa, .int (nI n), .int (nI i), .ref da] (LW B da a oa q r C R ot) (LW B da a oa q r C R ot) (.int (nI 2)) 1 6 := by
  intro n1 n2 lv hn1 hn2 kk
  refine g_callSh (pc := 210) X (w_x_D_end_3 (m_l M) B da q i n C.tp C.ft oa ot hst (by omega) (by omega) (by omega)) wd_228 wd_229 wd_0 wd_230 hd_L_end [0, 1, 2, 3, 65] rfl rfl [da, q 0, q 1, q 2, oa] (fun _ => rfl) rfl (by rw [hR]; decide) ⟨hn1, hn2⟩ rfl (Nat.le_of_ble_eq_true rfl) d_law_210 (fun r9 _ hr9 => ?_)
  subst hr9
  dsimp only [wput, LW, List.set]
  exact kk

theorem kC_copy {B : Bx} {M : Mx} {Q : State → Prop} (X : CX B M code 8 "SpongeDigestsLaw") (hR : m_R M = room_1) (da a oa : Nat) (q r : Nat → Nat) (C : CS) (R : RS) (ot : Nat → Int64) (i j : Nat) (h1 : i < 8) (h2 : j < 8) (hne : i ≠ j) (h3 : C.n i ≤ 8192) : CallS B M Q 278 [.ref oa, .int (nI j), .int (nI i), .ref da] (LW B da a oa q r C R ot) (LW B da a oa q r ((va_up C.n j (C.n i), va_up C.f j (va_cpy (C.f i) (C.f j) 0 0 (C.n i)), C.tp, C.ft, C.sp, C.h1, C.t1, C.m1, C.s1, C.h2, C.t2, C.m2, C.s2, C.kf, C.pf, C.nf, C.cf) : CS) R (va_up ot 0 (lN (C.n i)))) (.int (nI 0)) 0 0 := by
  intro n1 n2 lv hn1 hn2 kk
  rcases (show i = 0 ∨ i = 1 ∨ i = 2 ∨ i = 3 ∨ i = 4 ∨ i = 5 ∨ i = 6 ∨ i = 7 from by omega) with e9 | e9 | e9 | e9 | e9 | e9 | e9 | e9 <;> subst e9
  · rcases (show j = 1 ∨ j = 2 ∨ j = 3 ∨ j = 4 ∨ j = 5 ∨ j = 6 ∨ j = 7 from by omega) with e9 | e9 | e9 | e9 | e9 | e9 | e9 <;> subst e9
    · refine g_callSh (pc := 278) X (w_c_D_copy (m_l M) B da q 0 1 (C.n 0) (C.n 1) (C.f 0) (C.f 1) oa ot (by omega) (by omega) (by omega)) wd_267 wd_268 wd_0 wd_269 hd_L_copy [0, 1, 22, 23, 24, 25, 65] rfl rfl [da, q 0, q (21 + 2 * 0), q (22 + 2 * 0), q (21 + 2 * 1), q (22 + 2 * 1), oa] (fun _ => rfl) rfl (by rw [hR]; decide) ⟨hn1, hn2⟩ rfl (Nat.le_of_ble_eq_true rfl) d_law_278 (fun r9 _ hr9 => ?_)
      subst hr9
      dsimp only [wput, LW, List.set]
      exact kk
    · refine g_callSh (pc := 278) X (w_c_D_copy (m_l M) B da q 0 2 (C.n 0) (C.n 2) (C.f 0) (C.f 2) oa ot (by omega) (by omega) (by omega)) wd_267 wd_268 wd_0 wd_269 hd_L_copy [0, 1, 22, 23, 26, 27, 65] rfl rfl [da, q 0, q (21 + 2 * 0), q (22 + 2 * 0), q (21 + 2 * 2), q (22 + 2 * 2), oa] (fun _ => rfl) rfl (by rw [hR]; decide) ⟨hn1, hn2⟩ rfl (Nat.le_of_ble_eq_true rfl) d_law_278 (fun r9 _ hr9 => ?_)
      subst hr9
      dsimp only [wput, LW, List.set]
      exact kk
    · refine g_callSh (pc := 278) X (w_c_D_copy (m_l M) B da q 0 3 (C.n 0) (C.n 3) (C.f 0) (C.f 3) oa ot (by omega) (by omega) (by omega)) wd_267 wd_268 wd_0 wd_269 hd_L_copy [0, 1, 22, 23, 28, 29, 65] rfl rfl [da, q 0, q (21 + 2 * 0), q (22 + 2 * 0), q (21 + 2 * 3), q (22 + 2 * 3), oa] (fun _ => rfl) rfl (by rw [hR]; decide) ⟨hn1, hn2⟩ rfl (Nat.le_of_ble_eq_true rfl) d_law_278 (fun r9 _ hr9 => ?_)
      subst hr9
      dsimp only [wput, LW, List.set]
      exact kk
    · refine g_callSh (pc := 278) X (w_c_D_copy (m_l M) B da q 0 4 (C.n 0) (C.n 4) (C.f 0) (C.f 4) oa ot (by omega) (by omega) (by omega)) wd_267 wd_268 wd_0 wd_269 hd_L_copy [0, 1, 22, 23, 30, 31, 65] rfl rfl [da, q 0, q (21 + 2 * 0), q (22 + 2 * 0), q (21 + 2 * 4), q (22 + 2 * 4), oa] (fun _ => rfl) rfl (by rw [hR]; decide) ⟨hn1, hn2⟩ rfl (Nat.le_of_ble_eq_true rfl) d_law_278 (fun r9 _ hr9 => ?_)
      subst hr9
      dsimp only [wput, LW, List.set]
      exact kk
    · refine g_callSh (pc := 278) X (w_c_D_copy (m_l M) B da q 0 5 (C.n 0) (C.n 5) (C.f 0) (C.f 5) oa ot (by omega) (by omega) (by omega)) wd_267 wd_268 wd_0 wd_269 hd_L_copy [0, 1, 22, 23, 32, 33, 65] rfl rfl [da, q 0, q (21 + 2 * 0), q (22 + 2 * 0), q (21 + 2 * 5), q (22 + 2 * 5), oa] (fun _ => rfl) rfl (by rw [hR]; decide) ⟨hn1, hn2⟩ rfl (Nat.le_of_ble_eq_true rfl) d_law_278 (fun r9 _ hr9 => ?_)
      subst hr9
      dsimp only [wput, LW, List.set]
      exact kk
    · refine g_callSh (pc := 278) X (w_c_D_copy (m_l M) B da q 0 6 (C.n 0) (C.n 6) (C.f 0) (C.f 6) oa ot (by omega) (by omega) (by omega)) wd_267 wd_268 wd_0 wd_269 hd_L_copy [0, 1, 22, 23, 34, 35, 65] rfl rfl [da, q 0, q (21 + 2 * 0), q (22 + 2 * 0), q (21 + 2 * 6), q (22 + 2 * 6), oa] (fun _ => rfl) rfl (by rw [hR]; decide) ⟨hn1, hn2⟩ rfl (Nat.le_of_ble_eq_true rfl) d_law_278 (fun r9 _ hr9 => ?_)
      subst hr9
      dsimp only [wput, LW, List.set]
      exact kk
    · refine g_callSh (pc := 278) X (w_c_D_copy (m_l M) B da q 0 7 (C.n 0) (C.n 7) (C.f 0) (C.f 7) oa ot (by omega) (by omega) (by omega)) wd_267 wd_268 wd_0 wd_269 hd_L_copy [0, 1, 22, 23, 36, 37, 65] rfl rfl [da, q 0, q (21 + 2 * 0), q (22 + 2 * 0), q (21 + 2 * 7), q (22 + 2 * 7), oa] (fun _ => rfl) rfl (by rw [hR]; decide) ⟨hn1, hn2⟩ rfl (Nat.le_of_ble_eq_true rfl) d_law_278 (fun r9 _ hr9 => ?_)
      subst hr9
      dsimp only [wput, LW, List.set]
      exact kk
  · rcases (show j = 0 ∨ j = 2 ∨ j = 3 ∨ j = 4 ∨ j = 5 ∨ j = 6 ∨ j = 7 from by omega) with e9 | e9 | e9 | e9 | e9 | e9 | e9 <;> subst e9
    · refine g_callSh (pc := 278) X (w_c_D_copy (m_l M) B da q 1 0 (C.n 1) (C.n 0) (C.f 1) (C.f 0) oa ot (by omega) (by omega) (by omega)) wd_267 wd_268 wd_0 wd_269 hd_L_copy [0, 1, 24, 25, 22, 23, 65] rfl rfl [da, q 0, q (21 + 2 * 1), q (22 + 2 * 1), q (21 + 2 * 0), q (22 + 2 * 0), oa] (fun _ => rfl) rfl (by rw [hR]; decide) ⟨hn1, hn2⟩ rfl (Nat.le_of_ble_eq_true rfl) d_law_278 (fun r9 _ hr9 => ?_)
      subst hr9
      dsimp only [wput, LW, List.set]
      exact kk
    · refine g_callSh (pc := 278) X (w_c_D_copy (m_l M) B da q 1 2 (C.n 1) (C.n 2) (C.f 1) (C.f 2) oa ot (by omega) (by omega) (by omega)) wd_267 wd_268 wd_0 wd_269 hd_L_copy [0, 1, 24, 25, 26, 27, 65] rfl rfl [da, q 0, q (21 + 2 * 1), q (22 + 2 * 1), q (21 + 2 * 2), q (22 + 2 * 2), oa] (fun _ => rfl) rfl (by rw [hR]; decide) ⟨hn1, hn2⟩ rfl (Nat.le_of_ble_eq_true rfl) d_law_278 (fun r9 _ hr9 => ?_)
      subst hr9
      dsimp only [wput, LW, List.set]
      exact kk
    · refine g_callSh (pc := 278) X (w_c_D_copy (m_l M) B da q 1 3 (C.n 1) (C.n 3) (C.f 1) (C.f 3) oa ot (by omega) (by omega) (by omega)) wd_267 wd_268 wd_0 wd_269 hd_L_copy [0, 1, 24, 25, 28, 29, 65] rfl rfl [da, q 0, q (21 + 2 * 1), q (22 + 2 * 1), q (21 + 2 * 3), q (22 + 2 * 3), oa] (fun _ => rfl) rfl (by rw [hR]; decide) ⟨hn1, hn2⟩ rfl (Nat.le_of_ble_eq_true rfl) d_law_278 (fun r9 _ hr9 => ?_)
      subst hr9
      dsimp only [wput, LW, List.set]
      exact kk
    · refine g_callSh (pc := 278) X (w_c_D_copy (m_l M) B da q 1 4 (C.n 1) (C.n 4) (C.f 1) (C.f 4) oa ot (by omega) (by omega) (by omega)) wd_267 wd_268 wd_0 wd_269 hd_L_copy [0, 1, 24, 25, 30, 31, 65] rfl rfl [da, q 0, q (21 + 2 * 1), q (22 + 2 * 1), q (21 + 2 * 4), q (22 + 2 * 4), oa] (fun _ => rfl) rfl (by rw [hR]; decide) ⟨hn1, hn2⟩ rfl (Nat.le_of_ble_eq_true rfl) d_law_278 (fun r9 _ hr9 => ?_)
      subst hr9
      dsimp only [wput, LW, List.set]
      exact kk
    · refine g_callSh (pc := 278) X (w_c_D_copy (m_l M) B da q 1 5 (C.n 1) (C.n 5) (C.f 1) (C.f 5) oa ot (by omega) (by omega) (by omega)) wd_267 wd_268 wd_0 wd_269 hd_L_copy [0, 1, 24, 25, 32, 33, 65] rfl rfl [da, q 0, q (21 + 2 * 1), q (22 + 2 * 1), q (21 + 2 * 5), q (22 + 2 * 5), oa] (fun _ => rfl) rfl (by rw [hR]; decide) ⟨hn1, hn2⟩ rfl (Nat.le_of_ble_eq_true rfl) d_law_278 (fun r9 _ hr9 => ?_)
      subst hr9
      dsimp only [wput, LW, List.set]
      exact kk
    · refine g_callSh (pc := 278) X (w_c_D_copy (m_l M) B da q 1 6 (C.n 1) (C.n 6) (C.f 1) (C.f 6) oa ot (by omega) (by omega) (by omega)) wd_267 wd_268 wd_0 wd_269 hd_L_copy [0, 1, 24, 25, 34, 35, 65] rfl rfl [da, q 0, q (21 + 2 * 1), q (22 + 2 * 1), q (21 + 2 * 6), q (22 + 2 * 6), oa] (fun _ => rfl) rfl (by rw [hR]; decide) ⟨hn1, hn2⟩ rfl (Nat.le_of_ble_eq_true rfl) d_law_278 (fun r9 _ hr9 => ?_)
      subst hr9
      dsimp only [wput, LW, List.set]
      exact kk
    · refine g_callSh (pc := 278) X (w_c_D_copy (m_l M) B da q 1 7 (C.n 1) (C.n 7) (C.f 1) (C.f 7) oa ot (by omega) (by omega) (by omega)) wd_267 wd_268 wd_0 wd_269 hd_L_copy [0, 1, 24, 25, 36, 37, 65] rfl rfl [da, q 0, q (21 + 2 * 1), q (22 + 2 * 1), q (21 + 2 * 7), q (22 + 2 * 7), oa] (fun _ => rfl) rfl (by rw [hR]; decide) ⟨hn1, hn2⟩ rfl (Nat.le_of_ble_eq_true rfl) d_law_278 (fun r9 _ hr9 => ?_)
      subst hr9
      dsimp only [wput, LW, List.set]
      exact kk
  · rcases (show j = 0 ∨ j = 1 ∨ j = 3 ∨ j = 4 ∨ j = 5 ∨ j = 6 ∨ j = 7 from by omega) with e9 | e9 | e9 | e9 | e9 | e9 | e9 <;> subst e9
    · refine g_callSh (pc := 278) X (w_c_D_copy (m_l M) B da q 2 0 (C.n 2) (C.n 0) (C.f 2) (C.f 0) oa ot (by omega) (by omega) (by omega)) wd_267 wd_268 wd_0 wd_269 hd_L_copy [0, 1, 26, 27, 22, 23, 65] rfl rfl [da, q 0, q (21 + 2 * 2), q (22 + 2 * 2), q (21 + 2 * 0), q (22 + 2 * 0), oa] (fun _ => rfl) rfl (by rw [hR]; decide) ⟨hn1, hn2⟩ rfl (Nat.le_of_ble_eq_true rfl) d_law_278 (fun r9 _ hr9 => ?_)
      subst hr9
      dsimp only [wput, LW, List.set]
      exact kk
    · refine g_callSh (pc := 278) X (w_c_D_copy (m_l M) B da q 2 1 (C.n 2) (C.n 1) (C.f 2) (C.f 1) oa ot (by omega) (by omega) (by omega)) wd_267 wd_268 wd_0 wd_269 hd_L_copy [0, 1, 26, 27, 24, 25, 65] rfl rfl [da, q 0, q (21 + 2 * 2), q (22 + 2 * 2), q (21 + 2 * 1), q (22 + 2 * 1), oa] (fun _ => rfl) rfl (by rw [hR]; decide) ⟨hn1, hn2⟩ rfl (Nat.le_of_ble_eq_true rfl) d_law_278 (fun r9 _ hr9 => ?_)
      subst hr9
      dsimp only [wput, LW, List.set]
      exact kk
    · refine g_callSh (pc := 278) X (w_c_D_copy (m_l M) B da q 2 3 (C.n 2) (C.n 3) (C.f 2) (C.f 3) oa ot (by omega) (by omega) (by omega)) wd_267 wd_268 wd_0 wd_269 hd_L_copy [0, 1, 26, 27, 28, 29, 65] rfl rfl [da, q 0, q (21 + 2 * 2), q (22 + 2 * 2), q (21 + 2 * 3), q (22 + 2 * 3), oa] (fun _ => rfl) rfl (by rw [hR]; decide) ⟨hn1, hn2⟩ rfl (Nat.le_of_ble_eq_true rfl) d_law_278 (fun r9 _ hr9 => ?_)
      subst hr9
      dsimp only [wput, LW, List.set]
      exact kk
    · refine g_callSh (pc := 278) X (w_c_D_copy (m_l M) B da q 2 4 (C.n 2) (C.n 4) (C.f 2) (C.f 4) oa ot (by omega) (by omega) (by omega)) wd_267 wd_268 wd_0 wd_269 hd_L_copy [0, 1, 26, 27, 30, 31, 65] rfl rfl [da, q 0, q (21 + 2 * 2), q (22 + 2 * 2), q (21 + 2 * 4), q (22 + 2 * 4), oa] (fun _ => rfl) rfl (by rw [hR]; decide) ⟨hn1, hn2⟩ rfl (Nat.le_of_ble_eq_true rfl) d_law_278 (fun r9 _ hr9 => ?_)
      subst hr9
      dsimp only [wput, LW, List.set]
      exact kk
    · refine g_callSh (pc := 278) X (w_c_D_copy (m_l M) B da q 2 5 (C.n 2) (C.n 5) (C.f 2) (C.f 5) oa ot (by omega) (by omega) (by omega)) wd_267 wd_268 wd_0 wd_269 hd_L_copy [0, 1, 26, 27, 32, 33, 65] rfl rfl [da, q 0, q (21 + 2 * 2), q (22 + 2 * 2), q (21 + 2 * 5), q (22 + 2 * 5), oa] (fun _ => rfl) rfl (by rw [hR]; decide) ⟨hn1, hn2⟩ rfl (Nat.le_of_ble_eq_true rfl) d_law_278 (fun r9 _ hr9 => ?_)
      subst hr9
      dsimp only [wput, LW, List.set]
      exact kk
    · refine g_callSh (pc := 278) X (w_c_D_copy (m_l M) B da q 2 6 (C.n 2) (C.n 6) (C.f 2) (C.f 6) oa ot (by omega) (by omega) (by omega)) wd_267 wd_268 wd_0 wd_269 hd_L_copy [0, 1, 26, 27, 34, 35, 65] rfl rfl [da, q 0, q (21 + 2 * 2), q (22 + 2 * 2), q (21 + 2 * 6), q (22 + 2 * 6), oa] (fun _ => rfl) rfl (by rw [hR]; decide) ⟨hn1, hn2⟩ rfl (Nat.le_of_ble_eq_true rfl) d_law_278 (fun r9 _ hr9 => ?_)
      subst hr9
      dsimp only [wput, LW, List.set]
      exact kk
    · refine g_callSh (pc := 278) X (w_c_D_copy (m_l M) B da q 2 7 (C.n 2) (C.n 7) (C.f 2) (C.f 7) oa ot (by omega) (by omega) (by omega)) wd_267 wd_268 wd_0 wd_269 hd_L_copy [0, 1, 26, 27, 36, 37, 65] rfl rfl [da, q 0, q (21 + 2 * 2), q (22 + 2 * 2), q (21 + 2 * 7), q (22 + 2 * 7), oa] (fun _ => rfl) rfl (by rw [hR]; decide) ⟨hn1, hn2⟩ rfl (Nat.le_of_ble_eq_true rfl) d_law_278 (fun r9 _ hr9 => ?_)
      subst hr9
      dsimp only [wput, LW, List.set]
      exact kk
  · rcases (show j = 0 ∨ j = 1 ∨ j = 2 ∨ j = 4 ∨ j = 5 ∨ j = 6 ∨ j = 7 from by omega) with e9 | e9 | e9 | e9 | e9 | e9 | e9 <;> subst e9
    · refine g_callSh (pc := 278) X (w_c_D_copy (m_l M) B da q 3 0 (C.n 3) (C.n 0) (C.f 3) (C.f 0) oa ot (by omega) (by omega) (by omega)) wd_267 wd_268 wd_0 wd_269 hd_L_copy [0, 1, 28, 29, 22, 23, 65] rfl rfl [da, q 0, q (21 + 2 * 3), q (22 + 2 * 3), q (21 + 2 * 0), q (22 + 2 * 0), oa] (fun _ => rfl) rfl (by rw [hR]; decide) ⟨hn1, hn2⟩ rfl (Nat.le_of_ble_eq_true rfl) d_law_278 (fun r9 _ hr9 => ?_)
      subst hr9
      dsimp only [wput, LW, List.set]
      exact kk
    · refine g_callSh (pc := 278) X (w_c_D_copy (m_l M) B da q 3 1 (C.n 3) (C.n 1) (C.f 3) (C.f 1) oa ot (by omega) (by omega) (by omega)) wd_267 wd_268 wd_0 wd_269 hd_L_copy [0, 1, 28, 29, 24, 25, 65] rfl rfl [da, q 0, q (21 + 2 * 3), q (22 + 2 * 3), q (21 + 2 * 1), q (22 + 2 * 1), oa] (fun _ => rfl) rfl (by rw [hR]; decide) ⟨hn1, hn2⟩ rfl (Nat.le_of_ble_eq_true rfl) d_law_278 (fun r9 _ hr9 => ?_)
      subst hr9
      dsimp only [wput, LW, List.set]
      exact kk
    · refine g_callSh (pc := 278) X (w_c_D_copy (m_l M) B da q 3 2 (C.n 3) (C.n 2) (C.f 3) (C.f 2) oa ot (by omega) (by omega) (by omega)) wd_267 wd_268 wd_0 wd_269 hd_L_copy [0, 1, 28, 29, 26, 27, 65] rfl rfl [da, q 0, q (21 + 2 * 3), q (22 + 2 * 3), q (21 + 2 * 2), q (22 + 2 * 2), oa] (fun _ => rfl) rfl (by rw [hR]; decide) ⟨hn1, hn2⟩ rfl (Nat.le_of_ble_eq_true rfl) d_law_278 (fun r9 _ hr9 => ?_)
      subst hr9
      dsimp only [wput, LW, List.set]
      exact kk
    · refine g_callSh (pc := 278) X (w_c_D_copy (m_l M) B da q 3 4 (C.n 3) (C.n 4) (C.f 3) (C.f 4) oa ot (by omega) (by omega) (by omega)) wd_267 wd_268 wd_0 wd_269 hd_L_copy [0, 1, 28, 29, 30, 31, 65] rfl rfl [da, q 0, q (21 + 2 * 3), q (22 + 2 * 3), q (21 + 2 * 4), q (22 + 2 * 4), oa] (fun _ => rfl) rfl (by rw [hR]; decide) ⟨hn1, hn2⟩ rfl (Nat.le_of_ble_eq_true rfl) d_law_278 (fun r9 _ hr9 => ?_)
      subst hr9
      dsimp only [wput, LW, List.set]
      exact kk
    · refine g_callSh (pc := 278) X (w_c_D_copy (m_l M) B da q 3 5 (C.n 3) (C.n 5) (C.f 3) (C.f 5) oa ot (by omega) (by omega) (by omega)) wd_267 wd_268 wd_0 wd_269 hd_L_copy [0, 1, 28, 29, 32, 33, 65] rfl rfl [da, q 0, q (21 + 2 * 3), q (22 + 2 * 3), q (21 + 2 * 5), q (22 + 2 * 5), oa] (fun _ => rfl) rfl (by rw [hR]; decide) ⟨hn1, hn2⟩ rfl (Nat.le_of_ble_eq_true rfl) d_law_278 (fun r9 _ hr9 => ?_)
      subst hr9
      dsimp only [wput, LW, List.set]
      exact kk
    · refine g_callSh (pc := 278) X (w_c_D_copy (m_l M) B da q 3 6 (C.n 3) (C.n 6) (C.f 3) (C.f 6) oa ot (by omega) (by omega) (by omega)) wd_267 wd_268 wd_0 wd_269 hd_L_copy [0, 1, 28, 29, 34, 35, 65] rfl rfl [da, q 0, q (21 + 2 * 3), q (22 + 2 * 3), q (21 + 2 * 6), q (22 + 2 * 6), oa] (fun _ => rfl) rfl (by rw [hR]; decide) ⟨hn1, hn2⟩ rfl (Nat.le_of_ble_eq_true rfl) d_law_278 (fun r9 _ hr9 => ?_)
      subst hr9
      dsimp only [wput, LW, List.set]
      exact kk
    · refine g_callSh (pc := 278) X (w_c_D_copy (m_l M) B da q 3 7 (C.n 3) (C.n 7) (C.f 3) (C.f 7) oa ot (by omega) (by omega) (by omega)) wd_267 wd_268 wd_0 wd_269 hd_L_copy [0, 1, 28, 29, 36, 37, 65] rfl rfl [da, q 0, q (21 + 2 * 3), q (22 + 2 * 3), q (21 + 2 * 7), q (22 + 2 * 7), oa] (fun _ => rfl) rfl (by rw [hR]; decide) ⟨hn1, hn2⟩ rfl (Nat.le_of_ble_eq_true rfl) d_law_278 (fun r9 _ hr9 => ?_)
      subst hr9
      dsimp only [wput, LW, List.set]
      exact kk
  · rcases (show j = 0 ∨ j = 1 ∨ j = 2 ∨ j = 3 ∨ j = 5 ∨ j = 6 ∨ j = 7 from by omega) with e9 | e9 | e9 | e9 | e9 | e9 | e9 <;> subst e9
    · refine g_callSh (pc := 278) X (w_c_D_copy (m_l M) B da q 4 0 (C.n 4) (C.n 0) (C.f 4) (C.f 0) oa ot (by omega) (by omega) (by omega)) wd_267 wd_268 wd_0 wd_269 hd_L_copy [0, 1, 30, 31, 22, 23, 65] rfl rfl [da, q 0, q (21 + 2 * 4), q (22 + 2 * 4), q (21 + 2 * 0), q (22 + 2 * 0), oa] (fun _ => rfl) rfl (by rw [hR]; decide) ⟨hn1, hn2⟩ rfl (Nat.le_of_ble_eq_true rfl) d_law_278 (fun r9 _ hr9 => ?_)
      subst hr9
      dsimp only [wput, LW, List.set]
      exact kk
    · refine g_callSh (pc := 278) X (w_c_D_copy (m_l M) B da q 4 1 (C.n 4) (C.n 1) (C.f 4) (C.f 1) oa ot (by omega) (by omega) (by omega)) wd_267 wd_268 wd_0 wd_269 hd_L_copy [0, 1, 30, 31, 24, 25, 65] rfl rfl [da, q 0, q (21 + 2 * 4), q (22 + 2 * 4), q (21 + 2 * 1), q (22 + 2 * 1), oa] (fun _ => rfl) rfl (by rw [hR]; decide) ⟨hn1, hn2⟩ rfl (Nat.le_of_ble_eq_true rfl) d_law_278 (fun r9 _ hr9 => ?_)
      subst hr9
      dsimp only [wput, LW, List.set]
      exact kk
    · refine g_callSh (pc := 278) X (w_c_D_copy (m_l M) B da q 4 2 (C.n 4) (C.n 2) (C.f 4) (C.f 2) oa ot (by omega) (by omega) (by omega)) wd_267 wd_268 wd_0 wd_269 hd_L_copy [0, 1, 30, 31, 26, 27, 65] rfl rfl [da, q 0, q (21 + 2 * 4), q (22 + 2 * 4), q (21 + 2 * 2), q (22 + 2 * 2), oa] (fun _ => rfl) rfl (by rw [hR]; decide) ⟨hn1, hn2⟩ rfl (Nat.le_of_ble_eq_true rfl) d_law_278 (fun r9 _ hr9 => ?_)
      subst hr9
      dsimp only [wput, LW, List.set]
      exact kk
    · refine g_callSh (pc := 278) X (w_c_D_copy (m_l M) B da q 4 3 (C.n 4) (C.n 3) (C.f 4) (C.f 3) oa ot (by omega) (by omega) (by omega)) wd_267 wd_268 wd_0 wd_269 hd_L_copy [0, 1, 30, 31, 28, 29, 65] rfl rfl [da, q 0, q (21 + 2 * 4), q (22 + 2 * 4), q (21 + 2 * 3), q (22 + 2 * 3), oa] (fun _ => rfl) rfl (by rw [hR]; decide) ⟨hn1, hn2⟩ rfl (Nat.le_of_ble_eq_true rfl) d_law_278 (fun r9 _ hr9 => ?_)
      subst hr9
      dsimp only [wput, LW, List.set]
      exact kk
    · refine g_callSh (pc := 278) X (w_c_D_copy (m_l M) B da q 4 5 (C.n 4) (C.n 5) (C.f 4) (C.f 5) oa ot (by omega) (by omega) (by omega)) wd_267 wd_268 wd_0 wd_269 hd_L_copy [0, 1, 30, 31, 32, 33, 65] rfl rfl [da, q 0, q (21 + 2 * 4), q (22 + 2 * 4), q (21 + 2 * 5), q (22 + 2 * 5), oa] (fun _ => rfl) rfl (by rw [hR]; decide) ⟨hn1, hn2⟩ rfl (Nat.le_of_ble_eq_true rfl) d_law_278 (fun r9 _ hr9 => ?_)
      subst hr9
      dsimp only [wput, LW, List.set]
      exact kk
    · refine g_callSh (pc := 278) X (w_c_D_copy (m_l M) B da q 4 6 (C.n 4) (C.n 6) (C.f 4) (C.f 6) oa ot (by omega) (by omega) (by omega)) wd_267 wd_268 wd_0 wd_269 hd_L_copy [0, 1, 30, 31, 34, 35, 65] rfl rfl [da, q 0, q (21 + 2 * 4), q (22 + 2 * 4), q (21 + 2 * 6), q (22 + 2 * 6), oa] (fun _ => rfl) rfl (by rw [hR]; decide) ⟨hn1, hn2⟩ rfl (Nat.le_of_ble_eq_true rfl) d_law_278 (fun r9 _ hr9 => ?_)
      subst hr9
      dsimp only [wput, LW, List.set]
      exact kk
    · refine g_callSh (pc := 278) X (w_c_D_copy (m_l M) B da q 4 7 (C.n 4) (C.n 7) (C.f 4) (C.f 7) oa ot (by omega) (by omega) (by omega)) wd_267 wd_268 wd_0 wd_269 hd_L_copy [0, 1, 30, 31, 36, 37, 65] rfl rfl [da, q 0, q (21 + 2 * 4), q (22 + 2 * 4), q (21 + 2 * 7), q (22 + 2 * 7), oa] (fun _ => rfl) rfl (by rw [hR]; decide) ⟨hn1, hn2⟩ rfl (Nat.le_of_ble_eq_true rfl) d_law_278 (fun r9 _ hr9 => ?_)
      subst hr9
      dsimp only [wput, LW, List.set]
      exact kk
  · rcases (show j = 0 ∨ j = 1 ∨ j = 2 ∨ j = 3 ∨ j = 4 ∨ j = 6 ∨ j = 7 from by omega) with e9 | e9 | e9 | e9 | e9 | e9 | e9 <;> subst e9
    · refine g_callSh (pc := 278) X (w_c_D_copy (m_l M) B da q 5 0 (C.n 5) (C.n 0) (C.f 5) (C.f 0) oa ot (by omega) (by omega) (by omega)) wd_267 wd_268 wd_0 wd_269 hd_L_copy [0, 1, 32, 33, 22, 23, 65] rfl rfl [da, q 0, q (21 + 2 * 5), q (22 + 2 * 5), q (21 + 2 * 0), q (22 + 2 * 0), oa] (fun _ => rfl) rfl (by rw [hR]; decide) ⟨hn1, hn2⟩ rfl (Nat.le_of_ble_eq_true rfl) d_law_278 (fun r9 _ hr9 => ?_)
      subst hr9
      dsimp only [wput, LW, List.set]
      exact kk
    · refine g_callSh (pc := 278) X (w_c_D_copy (m_l M) B da q 5 1 (C.n 5) (C.n 1) (C.f 5) (C.f 1) oa ot (by omega) (by omega) (by omega)) wd_267 wd_268 wd_0 wd_269 hd_L_copy [0, 1, 32, 33, 24, 25, 65] rfl rfl [da, q 0, q (21 + 2 * 5), q (22 + 2 * 5), q (21 + 2 * 1), q (22 + 2 * 1), oa] (fun _ => rfl) rfl (by rw [hR]; decide) ⟨hn1, hn2⟩ rfl (Nat.le_of_ble_eq_true rfl) d_law_278 (fun r9 _ hr9 => ?_)
      subst hr9
      dsimp only [wput, LW, List.set]
      exact kk
    · refine g_callSh (pc := 278) X (w_c_D_copy (m_l M) B da q 5 2 (C.n 5) (C.n 2) (C.f 5) (C.f 2) oa ot (by omega) (by omega) (by omega)) wd_267 wd_268 wd_0 wd_269 hd_L_copy [0, 1, 32, 33, 26, 27, 65] rfl rfl [da, q 0, q (21 + 2 * 5), q (22 + 2 * 5), q (21 + 2 * 2), q (22 + 2 * 2), oa] (fun _ => rfl) rfl (by rw [hR]; decide) ⟨hn1, hn2⟩ rfl (Nat.le_of_ble_eq_true rfl) d_law_278 (fun r9 _ hr9 => ?_)
      subst hr9
      dsimp only [wput, LW, List.set]
      exact kk
    · refine g_callSh (pc := 278) X (w_c_D_copy (m_l M) B da q 5 3 (C.n 5) (C.n 3) (C.f 5) (C.f 3) oa ot (by omega) (by omega) (by omega)) wd_267 wd_268 wd_0 wd_269 hd_L_copy [0, 1, 32, 33, 28, 29, 65] rfl rfl [da, q 0, q (21 + 2 * 5), q (22 + 2 * 5), q (21 + 2 * 3), q (22 + 2 * 3), oa] (fun _ => rfl) rfl (by rw [hR]; decide) ⟨hn1, hn2⟩ rfl (Nat.le_of_ble_eq_true rfl) d_law_278 (fun r9 _ hr9 => ?_)
      subst hr9
      dsimp only [wput, LW, List.set]
      exact kk
    · refine g_callSh (pc := 278) X (w_c_D_copy (m_l M) B da q 5 4 (C.n 5) (C.n 4) (C.f 5) (C.f 4) oa ot (by omega) (by omega) (by omega)) wd_267 wd_268 wd_0 wd_269 hd_L_copy [0, 1, 32, 33, 30, 31, 65] rfl rfl [da, q 0, q (21 + 2 * 5), q (22 + 2 * 5), q (21 + 2 * 4), q (22 + 2 * 4), oa] (fun _ => rfl) rfl (by rw [hR]; decide) ⟨hn1, hn2⟩ rfl (Nat.le_of_ble_eq_true rfl) d_law_278 (fun r9 _ hr9 => ?_)
      subst hr9
      dsimp only [wput, LW, List.set]
      exact kk
    · refine g_callSh (pc := 278) X (w_c_D_copy (m_l M) B da q 5 6 (C.n 5) (C.n 6) (C.f 5) (C.f 6) oa ot (by omega) (by omega) (by omega)) wd_267 wd_268 wd_0 wd_269 hd_L_copy [0, 1, 32, 33, 34, 35, 65] rfl rfl [da, q 0, q (21 + 2 * 5), q (22 + 2 * 5), q (21 + 2 * 6), q (22 + 2 * 6), oa] (fun _ => rfl) rfl (by rw [hR]; decide) ⟨hn1, hn2⟩ rfl (Nat.le_of_ble_eq_true rfl) d_law_278 (fun r9 _ hr9 => ?_)
      subst hr9
      dsimp only [wput, LW, List.set]
      exact kk
    · refine g_callSh (pc := 278) X (w_c_D_copy (m_l M) B da q 5 7 (C.n 5) (C.n 7) (C.f 5) (C.f 7) oa ot (by omega) (by omega) (by omega)) wd_267 wd_268 wd_0 wd_269 hd_L_copy [0, 1, 32, 33, 36, 37, 65] rfl rfl [da, q 0, q (21 + 2 * 5), q (22 + 2 * 5), q (21 + 2 * 7), q (22 + 2 * 7), oa] (fun _ => rfl) rfl (by rw [hR]; decide) ⟨hn1, hn2⟩ rfl (Nat.le_of_ble_eq_true rfl) d_law_278 (fun r9 _ hr9 => ?_)
      subst hr9
      dsimp only [wput, LW, List.set]
      exact kk
  · rcases (show j = 0 ∨ j = 1 ∨ j = 2 ∨ j = 3 ∨ j = 4 ∨ j = 5 ∨ j = 7 from by omega) with e9 | e9 | e9 | e9 | e9 | e9 | e9 <;> subst e9
    · refine g_callSh (pc := 278) X (w_c_D_copy (m_l M) B da q 6 0 (C.n 6) (C.n 0) (C.f 6) (C.f 0) oa ot (by omega) (by omega) (by omega)) wd_267 wd_268 wd_0 wd_269 hd_L_copy [0, 1, 34, 35, 22, 23, 65] rfl rfl [da, q 0, q (21 + 2 * 6), q (22 + 2 * 6), q (21 + 2 * 0), q (22 + 2 * 0), oa] (fun _ => rfl) rfl (by rw [hR]; decide) ⟨hn1, hn2⟩ rfl (Nat.le_of_ble_eq_true rfl) d_law_278 (fun r9 _ hr9 => ?_)
      subst hr9
      dsimp only [wput, LW, List.set]
      exact kk
    · refine g_callSh (pc := 278) X (w_c_D_copy (m_l M) B da q 6 1 (C.n 6) (C.n 1) (C.f 6) (C.f 1) oa ot (by omega) (by omega) (by omega)) wd_267 wd_268 wd_0 wd_269 hd_L_copy [0, 1, 34, 35, 24, 25, 65] rfl rfl [da, q 0, q (21 + 2 * 6), q (22 + 2 * 6), q (21 + 2 * 1), q (22 + 2 * 1), oa] (fun _ => rfl) rfl (by rw [hR]; decide) ⟨hn1, hn2⟩ rfl (Nat.le_of_ble_eq_true rfl) d_law_278 (fun r9 _ hr9 => ?_)
      subst hr9
      dsimp only [wput, LW, List.set]
      exact kk
    · refine g_callSh (pc := 278) X (w_c_D_copy (m_l M) B da q 6 2 (C.n 6) (C.n 2) (C.f 6) (C.f 2) oa ot (by omega) (by omega) (by omega)) wd_267 wd_268 wd_0 wd_269 hd_L_copy [0, 1, 34, 35, 26, 27, 65] rfl rfl [da, q 0, q (21 + 2 * 6), q (22 + 2 * 6), q (21 + 2 * 2), q (22 + 2 * 2), oa] (fun _ => rfl) rfl (by rw [hR]; decide) ⟨hn1, hn2⟩ rfl (Nat.le_of_ble_eq_true rfl) d_law_278 (fun r9 _ hr9 => ?_)
      subst hr9
      dsimp only [wput, LW, List.set]
      exact kk
    · refine g_callSh (pc := 278) X (w_c_D_copy (m_l M) B da q 6 3 (C.n 6) (C.n 3) (C.f 6) (C.f 3) oa ot (by omega) (by omega) (by omega)) wd_267 wd_268 wd_0 wd_269 hd_L_copy [0, 1, 34, 35, 28, 29, 65] rfl rfl [da, q 0, q (21 + 2 * 6), q (22 + 2 * 6), q (21 + 2 * 3), q (22 + 2 * 3), oa] (fun _ => rfl) rfl (by rw [hR]; decide) ⟨hn1, hn2⟩ rfl (Nat.le_of_ble_eq_true rfl) d_law_278 (fun r9 _ hr9 => ?_)
      subst hr9
      dsimp only [wput, LW, List.set]
      exact kk
    · refine g_callSh (pc := 278) X (w_c_D_copy (m_l M) B da q 6 4 (C.n 6) (C.n 4) (C.f 6) (C.f 4) oa ot (by omega) (by omega) (by omega)) wd_267 wd_268 wd_0 wd_269 hd_L_copy [0, 1, 34, 35, 30, 31, 65] rfl rfl [da, q 0, q (21 + 2 * 6), q (22 + 2 * 6), q (21 + 2 * 4), q (22 + 2 * 4), oa] (fun _ => rfl) rfl (by rw [hR]; decide) ⟨hn1, hn2⟩ rfl (Nat.le_of_ble_eq_true rfl) d_law_278 (fun r9 _ hr9 => ?_)
      subst hr9
      dsimp only [wput, LW, List.set]
      exact kk
    · refine g_callSh (pc := 278) X (w_c_D_copy (m_l M) B da q 6 5 (C.n 6) (C.n 5) (C.f 6) (C.f 5) oa ot (by omega) (by omega) (by omega)) wd_267 wd_268 wd_0 wd_269 hd_L_copy [0, 1, 34, 35, 32, 33, 65] rfl rfl [da, q 0, q (21 + 2 * 6), q (22 + 2 * 6), q (21 + 2 * 5), q (22 + 2 * 5), oa] (fun _ => rfl) rfl (by rw [hR]; decide) ⟨hn1, hn2⟩ rfl (Nat.le_of_ble_eq_true rfl) d_law_278 (fun r9 _ hr9 => ?_)
      subst hr9
      dsimp only [wput, LW, List.set]
      exact kk
    · refine g_callSh (pc := 278) X (w_c_D_copy (m_l M) B da q 6 7 (C.n 6) (C.n 7) (C.f 6) (C.f 7) oa ot (by omega) (by omega) (by omega)) wd_267 wd_268 wd_0 wd_269 hd_L_copy [0, 1, 34, 35, 36, 37, 65] rfl rfl [da, q 0, q (21 + 2 * 6), q (22 + 2 * 6), q (21 + 2 * 7), q (22 + 2 * 7), oa] (fun _ => rfl) rfl (by rw [hR]; decide) ⟨hn1, hn2⟩ rfl (Nat.le_of_ble_eq_true rfl) d_law_278 (fun r9 _ hr9 => ?_)
      subst hr9
      dsimp only [wput, LW, List.set]
      exact kk
  · rcases (show j = 0 ∨ j = 1 ∨ j = 2 ∨ j = 3 ∨ j = 4 ∨ j = 5 ∨ j = 6 from by omega) with e9 | e9 | e9 | e9 | e9 | e9 | e9 <;> subst e9
    · refine g_callSh (pc := 278) X (w_c_D_copy (m_l M) B da q 7 0 (C.n 7) (C.n 0) (C.f 7) (C.f 0) oa ot (by omega) (by omega) (by omega)) wd_267 wd_268 wd_0 wd_269 hd_L_copy [0, 1, 36, 37, 22, 23, 65] rfl rfl [da, q 0, q (21 + 2 * 7), q (22 + 2 * 7), q (21 + 2 * 0), q (22 + 2 * 0), oa] (fun _ => rfl) rfl (by rw [hR]; decide) ⟨hn1, hn2⟩ rfl (Nat.le_of_ble_eq_true rfl) d_law_278 (fun r9 _ hr9 => ?_)
      subst hr9
      dsimp only [wput, LW, List.set]
      exact kk
    · refine g_callSh (pc := 278) X (w_c_D_copy (m_l M) B da q 7 1 (C.n 7) (C.n 1) (C.f 7) (C.f 1) oa ot (by omega) (by omega) (by omega)) wd_267 wd_268 wd_0 wd_269 hd_L_copy [0, 1, 36, 37, 24, 25, 65] rfl rfl [da, q 0, q (21 + 2 * 7), q (22 + 2 * 7), q (21 + 2 * 1), q (22 + 2 * 1), oa] (fun _ => rfl) rfl (by rw [hR]; decide) ⟨hn1, hn2⟩ rfl (Nat.le_of_ble_eq_true rfl) d_law_278 (fun r9 _ hr9 => ?_)
      subst hr9
      dsimp only [wput, LW, List.set]
      exact kk
    · refine g_callSh (pc := 278) X (w_c_D_copy (m_l M) B da q 7 2 (C.n 7) (C.n 2) (C.f 7) (C.f 2) oa ot (by omega) (by omega) (by omega)) wd_267 wd_268 wd_0 wd_269 hd_L_copy [0, 1, 36, 37, 26, 27, 65] rfl rfl [da, q 0, q (21 + 2 * 7), q (22 + 2 * 7), q (21 + 2 * 2), q (22 + 2 * 2), oa] (fun _ => rfl) rfl (by rw [hR]; decide) ⟨hn1, hn2⟩ rfl (Nat.le_of_ble_eq_true rfl) d_law_278 (fun r9 _ hr9 => ?_)
      subst hr9
      dsimp only [wput, LW, List.set]
      exact kk
    · refine g_callSh (pc := 278) X (w_c_D_copy (m_l M) B da q 7 3 (C.n 7) (C.n 3) (C.f 7) (C.f 3) oa ot (by omega) (by omega) (by omega)) wd_267 wd_268 wd_0 wd_269 hd_L_copy [0, 1, 36, 37, 28, 29, 65] rfl rfl [da, q 0, q (21 + 2 * 7), q (22 + 2 * 7), q (21 + 2 * 3), q (22 + 2 * 3), oa] (fun _ => rfl) rfl (by rw [hR]; decide) ⟨hn1, hn2⟩ rfl (Nat.le_of_ble_eq_true rfl) d_law_278 (fun r9 _ hr9 => ?_)
      subst hr9
      dsimp only [wput, LW, List.set]
      exact kk
    · refine g_callSh (pc := 278) X (w_c_D_copy (m_l M) B da q 7 4 (C.n 7) (C.n 4) (C.f 7) (C.f 4) oa ot (by omega) (by omega) (by omega)) wd_267 wd_268 wd_0 wd_269 hd_L_copy [0, 1, 36, 37, 30, 31, 65] rfl rfl [da, q 0, q (21 + 2 * 7), q (22 + 2 * 7), q (21 + 2 * 4), q (22 + 2 * 4), oa] (fun _ => rfl) rfl (by rw [hR]; decide) ⟨hn1, hn2⟩ rfl (Nat.le_of_ble_eq_true rfl) d_law_278 (fun r9 _ hr9 => ?_)
      subst hr9
      dsimp only [wput, LW, List.set]
      exact kk
    · refine g_callSh (pc := 278) X (w_c_D_copy (m_l M) B da q 7 5 (C.n 7) (C.n 5) (C.f 7) (C.f 5) oa ot (by omega) (by omega) (by omega)) wd_267 wd_268 wd_0 wd_269 hd_L_copy [0, 1, 36, 37, 32, 33, 65] rfl rfl [da, q 0, q (21 + 2 * 7), q (22 + 2 * 7), q (21 + 2 * 5), q (22 + 2 * 5), oa] (fun _ => rfl) rfl (by rw [hR]; decide) ⟨hn1, hn2⟩ rfl (Nat.le_of_ble_eq_true rfl) d_law_278 (fun r9 _ hr9 => ?_)
      subst hr9
      dsimp only [wput, LW, List.set]
      exact kk
    · refine g_callSh (pc := 278) X (w_c_D_copy (m_l M) B da q 7 6 (C.n 7) (C.n 6) (C.f 7) (C.f 6) oa ot (by omega) (by omega) (by omega)) wd_267 wd_268 wd_0 wd_269 hd_L_copy [0, 1, 36, 37, 34, 35, 65] rfl rfl [da, q 0, q (21 + 2 * 7), q (22 + 2 * 7), q (21 + 2 * 6), q (22 + 2 * 6), oa] (fun _ => rfl) rfl (by rw [hR]; decide) ⟨hn1, hn2⟩ rfl (Nat.le_of_ble_eq_true rfl) d_law_278 (fun r9 _ hr9 => ?_)
      subst hr9
      dsimp only [wput, LW, List.set]
      exact kk

theorem kC_copys {B : Bx} {M : Mx} {Q : State → Prop} (X : CX B M code 8 "SpongeDigestsLaw") (hR : m_R M = room_1) (da a oa : Nat) (q r : Nat → Nat) (C : CS) (R : RS) (ot : Nat → Int64) (i : Nat) (h1 : i < 8) (h3 : C.n i ≤ 8192) : CallS B M Q 278 [.ref oa, .int (nI i), .int (nI i), .ref da] (LW B da a oa q r C R ot) (LW B da a oa q r ((C.n, va_up C.f i (va_cpy (C.f i) (C.f i) 0 0 (C.n i)), C.tp, C.ft, C.sp, C.h1, C.t1, C.m1, C.s1, C.h2, C.t2, C.m2, C.s2, C.kf, C.pf, C.nf, C.cf) : CS) R (va_up ot 0 (lN (C.n i)))) (.int (nI 0)) 0 0 := by
  intro n1 n2 lv hn1 hn2 kk
  rcases (show i = 0 ∨ i = 1 ∨ i = 2 ∨ i = 3 ∨ i = 4 ∨ i = 5 ∨ i = 6 ∨ i = 7 from by omega) with e9 | e9 | e9 | e9 | e9 | e9 | e9 | e9 <;> subst e9
  · refine g_callSh (pc := 278) X (w_c_D_copy_self (m_l M) B da q 0 (C.n 0) (C.f 0) oa ot (by omega) (by omega)) wd_267 wd_268 wd_0 wd_269 hd_L_copy [0, 1, 22, 23, 65] rfl rfl [da, q 0, q (21 + 2 * 0), q (22 + 2 * 0), oa] (fun _ => rfl) rfl (by rw [hR]; decide) ⟨hn1, hn2⟩ rfl (Nat.le_of_ble_eq_true rfl) d_law_278 (fun r9 _ hr9 => ?_)
    subst hr9
    dsimp only [wput, LW, List.set]
    exact kk
  · refine g_callSh (pc := 278) X (w_c_D_copy_self (m_l M) B da q 1 (C.n 1) (C.f 1) oa ot (by omega) (by omega)) wd_267 wd_268 wd_0 wd_269 hd_L_copy [0, 1, 24, 25, 65] rfl rfl [da, q 0, q (21 + 2 * 1), q (22 + 2 * 1), oa] (fun _ => rfl) rfl (by rw [hR]; decide) ⟨hn1, hn2⟩ rfl (Nat.le_of_ble_eq_true rfl) d_law_278 (fun r9 _ hr9 => ?_)
    subst hr9
    dsimp only [wput, LW, List.set]
    exact kk
  · refine g_callSh (pc := 278) X (w_c_D_copy_self (m_l M) B da q 2 (C.n 2) (C.f 2) oa ot (by omega) (by omega)) wd_267 wd_268 wd_0 wd_269 hd_L_copy [0, 1, 26, 27, 65] rfl rfl [da, q 0, q (21 + 2 * 2), q (22 + 2 * 2), oa] (fun _ => rfl) rfl (by rw [hR]; decide) ⟨hn1, hn2⟩ rfl (Nat.le_of_ble_eq_true rfl) d_law_278 (fun r9 _ hr9 => ?_)
    subst hr9
    dsimp only [wput, LW, List.set]
    exact kk
  · refine g_callSh (pc := 278) X (w_c_D_copy_self (m_l M) B da q 3 (C.n 3) (C.f 3) oa ot (by omega) (by omega)) wd_267 wd_268 wd_0 wd_269 hd_L_copy [0, 1, 28, 29, 65] rfl rfl [da, q 0, q (21 + 2 * 3), q (22 + 2 * 3), oa] (fun _ => rfl) rfl (by rw [hR]; decide) ⟨hn1, hn2⟩ rfl (Nat.le_of_ble_eq_true rfl) d_law_278 (fun r9 _ hr9 => ?_)
    subst hr9
    dsimp only [wput, LW, List.set]
    exact kk
  · refine g_callSh (pc := 278) X (w_c_D_copy_self (m_l M) B da q 4 (C.n 4) (C.f 4) oa ot (by omega) (by omega)) wd_267 wd_268 wd_0 wd_269 hd_L_copy [0, 1, 30, 31, 65] rfl rfl [da, q 0, q (21 + 2 * 4), q (22 + 2 * 4), oa] (fun _ => rfl) rfl (by rw [hR]; decide) ⟨hn1, hn2⟩ rfl (Nat.le_of_ble_eq_true rfl) d_law_278 (fun r9 _ hr9 => ?_)
    subst hr9
    dsimp only [wput, LW, List.set]
    exact kk
  · refine g_callSh (pc := 278) X (w_c_D_copy_self (m_l M) B da q 5 (C.n 5) (C.f 5) oa ot (by omega) (by omega)) wd_267 wd_268 wd_0 wd_269 hd_L_copy [0, 1, 32, 33, 65] rfl rfl [da, q 0, q (21 + 2 * 5), q (22 + 2 * 5), oa] (fun _ => rfl) rfl (by rw [hR]; decide) ⟨hn1, hn2⟩ rfl (Nat.le_of_ble_eq_true rfl) d_law_278 (fun r9 _ hr9 => ?_)
    subst hr9
    dsimp only [wput, LW, List.set]
    exact kk
  · refine g_callSh (pc := 278) X (w_c_D_copy_self (m_l M) B da q 6 (C.n 6) (C.f 6) oa ot (by omega) (by omega)) wd_267 wd_268 wd_0 wd_269 hd_L_copy [0, 1, 34, 35, 65] rfl rfl [da, q 0, q (21 + 2 * 6), q (22 + 2 * 6), oa] (fun _ => rfl) rfl (by rw [hR]; decide) ⟨hn1, hn2⟩ rfl (Nat.le_of_ble_eq_true rfl) d_law_278 (fun r9 _ hr9 => ?_)
    subst hr9
    dsimp only [wput, LW, List.set]
    exact kk
  · refine g_callSh (pc := 278) X (w_c_D_copy_self (m_l M) B da q 7 (C.n 7) (C.f 7) oa ot (by omega) (by omega)) wd_267 wd_268 wd_0 wd_269 hd_L_copy [0, 1, 36, 37, 65] rfl rfl [da, q 0, q (21 + 2 * 7), q (22 + 2 * 7), oa] (fun _ => rfl) rfl (by rw [hR]; decide) ⟨hn1, hn2⟩ rfl (Nat.le_of_ble_eq_true rfl) d_law_278 (fun r9 _ hr9 => ?_)
    subst hr9
    dsimp only [wput, LW, List.set]
    exact kk

theorem kC_copy1 {B : Bx} {M : Mx} {Q : State → Prop} (X : CX B M code 8 "SpongeDigestsLaw") (hR : m_R M = room_1) (da a oa : Nat) (q r : Nat → Nat) (C : CS) (R : RS) (ot : Nat → Int64) (x y : Int32) (hst : (m_l M).stackTraces = false) (h : inR x (nI 0) (nI 7) = nI 0) : CallS B M Q 278 [.ref oa, .int y, .int x, .ref da] (LW B da a oa q r C R ot) (LW B da a oa q r C R ot) (.int (nI 1)) 1 6 := by
  intro n1 n2 lv hn1 hn2 kk
  refine g_callSh (pc := 278) X (w_x_D_copy_1 (m_l M) B da q x y oa ot hst h) wd_267 wd_268 wd_0 wd_269 hd_L_copy [0, 1, 65] rfl rfl [da, q 0, oa] (fun _ => rfl) rfl (by rw [hR]; decide) ⟨hn1, hn2⟩ rfl (Nat.le_of_ble_eq_true rfl) d_law_278 (fun r9 _ hr9 => ?_)
  subst hr9
  dsimp only [wput, LW, List.set]
  exact kk

theorem kC_copy2 {B : Bx} {M : Mx} {Q : State → Prop} (X : CX B M code 8 "SpongeDigestsLaw") (hR : m_R M = room_1) (da a oa : Nat) (q r : Nat → Nat) (C : CS) (R : RS) (ot : Nat → Int64) (i : Nat) (x : Int32) (hst : (m_l M).stackTraces = false) (h1 : i < 8) (h : inR x (nI 0) (nI 7) = nI 0) : CallS B M Q 278 [.ref oa, .int x, .int (nI i), .ref da] (LW B da a oa q r C R ot) (LW B da a oa q r C R ot) (.int (nI 1)) 1 6 := by
  intro n1 n2 lv hn1 hn2 kk
  refine g_callSh (pc := 278) X (w_x_D_copy_2 (m_l M) B da q i x oa ot hst (by omega) h) wd_267 wd_268 wd_0 wd_269 hd_L_copy [0, 1, 65] rfl rfl [da, q 0, oa] (fun _ => rfl) rfl (by rw [hR]; decide) ⟨hn1, hn2⟩ rfl (Nat.le_of_ble_eq_true rfl) d_law_278 (fun r9 _ hr9 => ?_)
  subst hr9
  dsimp only [wput, LW, List.set]
  exact kk

theorem kC_resize {B : Bx} {M : Mx} {Q : State → Prop} (X : CX B M code 8 "SpongeDigestsLaw") (hR : m_R M = room_1) (da a oa : Nat) (q r : Nat → Nat) (C : CS) (R : RS) (ot : Nat → Int64) (i n : Nat) (h1 : i < 8) (h2 : n ≤ 8192) (h3 : C.n i ≤ 8192) : CallS B M Q 346 [.ref oa, .int (nI n), .int (nI i), .ref da] (LW B da a oa q r C R ot) (LW B da a oa q r ((va_up C.n i n, va_up C.f i (if (C.n i) < n then fil (C.f i) (C.n i) n (nI 0).toInt8 else (C.f i)), C.tp, C.ft, C.sp, C.h1, C.t1, C.m1, C.s1, C.h2, C.t2, C.m2, C.s2, C.kf, C.pf, C.nf, C.cf) : CS) R (va_up ot 0 (lN (C.n i)))) (.int (nI 0)) 0 0 := by
  intro n1 n2 lv hn1 hn2 kk
  rcases (show i = 0 ∨ i = 1 ∨ i = 2 ∨ i = 3 ∨ i = 4 ∨ i = 5 ∨ i = 6 ∨ i = 7 from by omega) with e9 | e9 | e9 | e9 | e9 | e9 | e9 | e9 <;> subst e9
  · refine g_callSh (pc := 346) X (w_c_D_resize (m_l M) B da q 0 (C.n 0) n (C.f 0) oa ot (by omega) (by omega) (by omega)) wd_274 wd_275 wd_0 wd_276 hd_L_resize [0, 1, 22, 23, 65] rfl rfl [da, q 0, q (21 + 2 * 0), q (22 + 2 * 0), oa] (fun _ => rfl) rfl (by rw [hR]; decide) ⟨hn1, hn2⟩ rfl (Nat.le_of_ble_eq_true rfl) d_law_346 (fun r9 _ hr9 => ?_)
    subst hr9
    dsimp only [wput, LW, List.set]
    exact kk
  · refine g_callSh (pc := 346) X (w_c_D_resize (m_l M) B da q 1 (C.n 1) n (C.f 1) oa ot (by omega) (by omega) (by omega)) wd_274 wd_275 wd_0 wd_276 hd_L_resize [0, 1, 24, 25, 65] rfl rfl [da, q 0, q (21 + 2 * 1), q (22 + 2 * 1), oa] (fun _ => rfl) rfl (by rw [hR]; decide) ⟨hn1, hn2⟩ rfl (Nat.le_of_ble_eq_true rfl) d_law_346 (fun r9 _ hr9 => ?_)
    subst hr9
    dsimp only [wput, LW, List.set]
    exact kk
  · refine g_callSh (pc := 346) X (w_c_D_resize (m_l M) B da q 2 (C.n 2) n (C.f 2) oa ot (by omega) (by omega) (by omega)) wd_274 wd_275 wd_0 wd_276 hd_L_resize [0, 1, 26, 27, 65] rfl rfl [da, q 0, q (21 + 2 * 2), q (22 + 2 * 2), oa] (fun _ => rfl) rfl (by rw [hR]; decide) ⟨hn1, hn2⟩ rfl (Nat.le_of_ble_eq_true rfl) d_law_346 (fun r9 _ hr9 => ?_)
    subst hr9
    dsimp only [wput, LW, List.set]
    exact kk
  · refine g_callSh (pc := 346) X (w_c_D_resize (m_l M) B da q 3 (C.n 3) n (C.f 3) oa ot (by omega) (by omega) (by omega)) wd_274 wd_275 wd_0 wd_276 hd_L_resize [0, 1, 28, 29, 65] rfl rfl [da, q 0, q (21 + 2 * 3), q (22 + 2 * 3), oa] (fun _ => rfl) rfl (by rw [hR]; decide) ⟨hn1, hn2⟩ rfl (Nat.le_of_ble_eq_true rfl) d_law_346 (fun r9 _ hr9 => ?_)
    subst hr9
    dsimp only [wput, LW, List.set]
    exact kk
  · refine g_callSh (pc := 346) X (w_c_D_resize (m_l M) B da q 4 (C.n 4) n (C.f 4) oa ot (by omega) (by omega) (by omega)) wd_274 wd_275 wd_0 wd_276 hd_L_resize [0, 1, 30, 31, 65] rfl rfl [da, q 0, q (21 + 2 * 4), q (22 + 2 * 4), oa] (fun _ => rfl) rfl (by rw [hR]; decide) ⟨hn1, hn2⟩ rfl (Nat.le_of_ble_eq_true rfl) d_law_346 (fun r9 _ hr9 => ?_)
    subst hr9
    dsimp only [wput, LW, List.set]
    exact kk
  · refine g_callSh (pc := 346) X (w_c_D_resize (m_l M) B da q 5 (C.n 5) n (C.f 5) oa ot (by omega) (by omega) (by omega)) wd_274 wd_275 wd_0 wd_276 hd_L_resize [0, 1, 32, 33, 65] rfl rfl [da, q 0, q (21 + 2 * 5), q (22 + 2 * 5), oa] (fun _ => rfl) rfl (by rw [hR]; decide) ⟨hn1, hn2⟩ rfl (Nat.le_of_ble_eq_true rfl) d_law_346 (fun r9 _ hr9 => ?_)
    subst hr9
    dsimp only [wput, LW, List.set]
    exact kk
  · refine g_callSh (pc := 346) X (w_c_D_resize (m_l M) B da q 6 (C.n 6) n (C.f 6) oa ot (by omega) (by omega) (by omega)) wd_274 wd_275 wd_0 wd_276 hd_L_resize [0, 1, 34, 35, 65] rfl rfl [da, q 0, q (21 + 2 * 6), q (22 + 2 * 6), oa] (fun _ => rfl) rfl (by rw [hR]; decide) ⟨hn1, hn2⟩ rfl (Nat.le_of_ble_eq_true rfl) d_law_346 (fun r9 _ hr9 => ?_)
    subst hr9
    dsimp only [wput, LW, List.set]
    exact kk
  · refine g_callSh (pc := 346) X (w_c_D_resize (m_l M) B da q 7 (C.n 7) n (C.f 7) oa ot (by omega) (by omega) (by omega)) wd_274 wd_275 wd_0 wd_276 hd_L_resize [0, 1, 36, 37, 65] rfl rfl [da, q 0, q (21 + 2 * 7), q (22 + 2 * 7), oa] (fun _ => rfl) rfl (by rw [hR]; decide) ⟨hn1, hn2⟩ rfl (Nat.le_of_ble_eq_true rfl) d_law_346 (fun r9 _ hr9 => ?_)
    subst hr9
    dsimp only [wput, LW, List.set]
    exact kk

theorem kC_resize1 {B : Bx} {M : Mx} {Q : State → Prop} (X : CX B M code 8 "SpongeDigestsLaw") (hR : m_R M = room_1) (da a oa : Nat) (q r : Nat → Nat) (C : CS) (R : RS) (ot : Nat → Int64) (x y : Int32) (hst : (m_l M).stackTraces = false) (h : inR x (nI 0) (nI 7) = nI 0) : CallS B M Q 346 [.ref oa, .int y, .int x, .ref da] (LW B da a oa q r C R ot) (LW B da a oa q r C R ot) (.int (nI 1)) 1 6 := by
  intro n1 n2 lv hn1 hn2 kk
  refine g_callSh (pc := 346) X (w_x_D_resize_1 (m_l M) B da q x y oa ot hst h) wd_274 wd_275 wd_0 wd_276 hd_L_resize [0, 1, 65] rfl rfl [da, q 0, oa] (fun _ => rfl) rfl (by rw [hR]; decide) ⟨hn1, hn2⟩ rfl (Nat.le_of_ble_eq_true rfl) d_law_346 (fun r9 _ hr9 => ?_)
  subst hr9
  dsimp only [wput, LW, List.set]
  exact kk

theorem kC_resize2 {B : Bx} {M : Mx} {Q : State → Prop} (X : CX B M code 8 "SpongeDigestsLaw") (hR : m_R M = room_1) (da a oa : Nat) (q r : Nat → Nat) (C : CS) (R : RS) (ot : Nat → Int64) (i : Nat) (y : Int32) (hst : (m_l M).stackTraces = false) (h1 : i < 8) (h : inR y (nI 0) (nI 8192) = nI 0) : CallS B M Q 346 [.ref oa, .int y, .int (nI i), .ref da] (LW B da a oa q r C R ot) (LW B da a oa q r C R ot) (.int (nI 1)) 1 6 := by
  intro n1 n2 lv hn1 hn2 kk
  refine g_callSh (pc := 346) X (w_x_D_resize_2 (m_l M) B da q i y oa ot hst (by omega) h) wd_274 wd_275 wd_0 wd_276 hd_L_resize [0, 1, 65] rfl rfl [da, q 0, oa] (fun _ => rfl) rfl (by rw [hR]; decide) ⟨hn1, hn2⟩ rfl (Nat.le_of_ble_eq_true rfl) d_law_346 (fun r9 _ hr9 => ?_)
  subst hr9
  dsimp only [wput, LW, List.set]
  exact kk

theorem kC_alter {B : Bx} {M : Mx} {Q : State → Prop} (X : CX B M code 8 "SpongeDigestsLaw") (hR : m_R M = room_1) (da a oa : Nat) (q r : Nat → Nat) (C : CS) (R : RS) (ot : Nat → Int64) (i p v : Nat) (h1 : i < 8) (h2 : p < C.n i) (h3 : C.n i ≤ 8192) (h4 : v ≤ 255) : CallS B M Q 420 [.ref oa, .int (nI v), .int (nI p), .int (nI i), .ref da] (LW B da a oa q r C R ot) (LW B da a oa q r ((C.n, va_up C.f i (va_up (C.f i) p (((C.f i) p).toInt32 ^^^ nI v).toInt8), C.tp, C.ft, C.sp, C.h1, C.t1, C.m1, C.s1, C.h2, C.t2, C.m2, C.s2, C.kf, C.pf, C.nf, C.cf) : CS) R (va_up ot 0 (((va_up (C.f i) p (((C.f i) p).toInt32 ^^^ nI v).toInt8 p).toInt32 &&& nI 255).toInt64))) (.int (nI 0)) 0 0 := by
  intro n1 n2 lv hn1 hn2 kk
  rcases (show i = 0 ∨ i = 1 ∨ i = 2 ∨ i = 3 ∨ i = 4 ∨ i = 5 ∨ i = 6 ∨ i = 7 from by omega) with e9 | e9 | e9 | e9 | e9 | e9 | e9 | e9 <;> subst e9
  · refine g_callSh (pc := 420) X (w_c_D_alter (m_l M) B da q 0 (C.n 0) p v (C.f 0) oa ot (by omega) (by omega) (by omega) (by omega)) wd_550 wd_551 wd_0 wd_552 hd_L_alter [0, 1, 22, 23, 65] rfl rfl [da, q 0, q (21 + 2 * 0), q (22 + 2 * 0), oa] (fun _ => rfl) rfl (by rw [hR]; decide) ⟨hn1, hn2⟩ rfl (Nat.le_of_ble_eq_true rfl) d_law_420 (fun r9 _ hr9 => ?_)
    subst hr9
    dsimp only [wput, LW, List.set]
    exact kk
  · refine g_callSh (pc := 420) X (w_c_D_alter (m_l M) B da q 1 (C.n 1) p v (C.f 1) oa ot (by omega) (by omega) (by omega) (by omega)) wd_550 wd_551 wd_0 wd_552 hd_L_alter [0, 1, 24, 25, 65] rfl rfl [da, q 0, q (21 + 2 * 1), q (22 + 2 * 1), oa] (fun _ => rfl) rfl (by rw [hR]; decide) ⟨hn1, hn2⟩ rfl (Nat.le_of_ble_eq_true rfl) d_law_420 (fun r9 _ hr9 => ?_)
    subst hr9
    dsimp only [wput, LW, List.set]
    exact kk
  · refine g_callSh (pc := 420) X (w_c_D_alter (m_l M) B da q 2 (C.n 2) p v (C.f 2) oa ot (by omega) (by omega) (by omega) (by omega)) wd_550 wd_551 wd_0 wd_552 hd_L_alter [0, 1, 26, 27, 65] rfl rfl [da, q 0, q (21 + 2 * 2), q (22 + 2 * 2), oa] (fun _ => rfl) rfl (by rw [hR]; decide) ⟨hn1, hn2⟩ rfl (Nat.le_of_ble_eq_true rfl) d_law_420 (fun r9 _ hr9 => ?_)
    subst hr9
    dsimp only [wput, LW, List.set]
    exact kk
  · refine g_callSh (pc := 420) X (w_c_D_alter (m_l M) B da q 3 (C.n 3) p v (C.f 3) oa ot (by omega) (by omega) (by omega) (by omega)) wd_550 wd_551 wd_0 wd_552 hd_L_alter [0, 1, 28, 29, 65] rfl rfl [da, q 0, q (21 + 2 * 3), q (22 + 2 * 3), oa] (fun _ => rfl) rfl (by rw [hR]; decide) ⟨hn1, hn2⟩ rfl (Nat.le_of_ble_eq_true rfl) d_law_420 (fun r9 _ hr9 => ?_)
    subst hr9
    dsimp only [wput, LW, List.set]
    exact kk
  · refine g_callSh (pc := 420) X (w_c_D_alter (m_l M) B da q 4 (C.n 4) p v (C.f 4) oa ot (by omega) (by omega) (by omega) (by omega)) wd_550 wd_551 wd_0 wd_552 hd_L_alter [0, 1, 30, 31, 65] rfl rfl [da, q 0, q (21 + 2 * 4), q (22 + 2 * 4), oa] (fun _ => rfl) rfl (by rw [hR]; decide) ⟨hn1, hn2⟩ rfl (Nat.le_of_ble_eq_true rfl) d_law_420 (fun r9 _ hr9 => ?_)
    subst hr9
    dsimp only [wput, LW, List.set]
    exact kk
  · refine g_callSh (pc := 420) X (w_c_D_alter (m_l M) B da q 5 (C.n 5) p v (C.f 5) oa ot (by omega) (by omega) (by omega) (by omega)) wd_550 wd_551 wd_0 wd_552 hd_L_alter [0, 1, 32, 33, 65] rfl rfl [da, q 0, q (21 + 2 * 5), q (22 + 2 * 5), oa] (fun _ => rfl) rfl (by rw [hR]; decide) ⟨hn1, hn2⟩ rfl (Nat.le_of_ble_eq_true rfl) d_law_420 (fun r9 _ hr9 => ?_)
    subst hr9
    dsimp only [wput, LW, List.set]
    exact kk
  · refine g_callSh (pc := 420) X (w_c_D_alter (m_l M) B da q 6 (C.n 6) p v (C.f 6) oa ot (by omega) (by omega) (by omega) (by omega)) wd_550 wd_551 wd_0 wd_552 hd_L_alter [0, 1, 34, 35, 65] rfl rfl [da, q 0, q (21 + 2 * 6), q (22 + 2 * 6), oa] (fun _ => rfl) rfl (by rw [hR]; decide) ⟨hn1, hn2⟩ rfl (Nat.le_of_ble_eq_true rfl) d_law_420 (fun r9 _ hr9 => ?_)
    subst hr9
    dsimp only [wput, LW, List.set]
    exact kk
  · refine g_callSh (pc := 420) X (w_c_D_alter (m_l M) B da q 7 (C.n 7) p v (C.f 7) oa ot (by omega) (by omega) (by omega) (by omega)) wd_550 wd_551 wd_0 wd_552 hd_L_alter [0, 1, 36, 37, 65] rfl rfl [da, q 0, q (21 + 2 * 7), q (22 + 2 * 7), oa] (fun _ => rfl) rfl (by rw [hR]; decide) ⟨hn1, hn2⟩ rfl (Nat.le_of_ble_eq_true rfl) d_law_420 (fun r9 _ hr9 => ?_)
    subst hr9
    dsimp only [wput, LW, List.set]
    exact kk

theorem kC_alter1 {B : Bx} {M : Mx} {Q : State → Prop} (X : CX B M code 8 "SpongeDigestsLaw") (hR : m_R M = room_1) (da a oa : Nat) (q r : Nat → Nat) (C : CS) (R : RS) (ot : Nat → Int64) (x y z : Int32) (hst : (m_l M).stackTraces = false) (h : inR x (nI 0) (nI 7) = nI 0) : CallS B M Q 420 [.ref oa, .int z, .int y, .int x, .ref da] (LW B da a oa q r C R ot) (LW B da a oa q r C R ot) (.int (nI 1)) 1 6 := by
  intro n1 n2 lv hn1 hn2 kk
  refine g_callSh (pc := 420) X (w_x_D_alter_1 (m_l M) B da q x y z oa ot hst h) wd_550 wd_551 wd_0 wd_552 hd_L_alter [0, 1, 65] rfl rfl [da, q 0, oa] (fun _ => rfl) rfl (by rw [hR]; decide) ⟨hn1, hn2⟩ rfl (Nat.le_of_ble_eq_true rfl) d_law_420 (fun r9 _ hr9 => ?_)
  subst hr9
  dsimp only [wput, LW, List.set]
  exact kk

theorem kC_alter2 {B : Bx} {M : Mx} {Q : State → Prop} (X : CX B M code 8 "SpongeDigestsLaw") (hR : m_R M = room_1) (da a oa : Nat) (q r : Nat → Nat) (C : CS) (R : RS) (ot : Nat → Int64) (i : Nat) (y z : Int32) (hst : (m_l M).stackTraces = false) (h1 : i < 8) (h : inR z (nI 0) (nI 255) = nI 0) : CallS B M Q 420 [.ref oa, .int z, .int y, .int (nI i), .ref da] (LW B da a oa q r C R ot) (LW B da a oa q r C R ot) (.int (nI 1)) 1 6 := by
  intro n1 n2 lv hn1 hn2 kk
  refine g_callSh (pc := 420) X (w_x_D_alter_2 (m_l M) B da q i y z oa ot hst (by omega) h) wd_550 wd_551 wd_0 wd_552 hd_L_alter [0, 1, 65] rfl rfl [da, q 0, oa] (fun _ => rfl) rfl (by rw [hR]; decide) ⟨hn1, hn2⟩ rfl (Nat.le_of_ble_eq_true rfl) d_law_420 (fun r9 _ hr9 => ?_)
  subst hr9
  dsimp only [wput, LW, List.set]
  exact kk

theorem kC_alter3 {B : Bx} {M : Mx} {Q : State → Prop} (X : CX B M code 8 "SpongeDigestsLaw") (hR : m_R M = room_1) (da a oa : Nat) (q r : Nat → Nat) (C : CS) (R : RS) (ot : Nat → Int64) (i z : Nat) (y : Int32) (hst : (m_l M).stackTraces = false) (h1 : i < 8) (hz : z ≤ 255) (h2 : C.n i ≤ 8192) (h : inR y (nI 0) (nI (C.n i) - nI 1) = nI 0) : CallS B M Q 420 [.ref oa, .int (nI z), .int y, .int (nI i), .ref da] (LW B da a oa q r C R ot) (LW B da a oa q r C R ot) (.int (nI 2)) 1 6 := by
  intro n1 n2 lv hn1 hn2 kk
  rcases (show i = 0 ∨ i = 1 ∨ i = 2 ∨ i = 3 ∨ i = 4 ∨ i = 5 ∨ i = 6 ∨ i = 7 from by omega) with e9 | e9 | e9 | e9 | e9 | e9 | e9 | e9 <;> subst e9
  · refine g_callSh (pc := 420) X (w_x_D_alter_3 (m_l M) B da q 0 (C.n 0) z y (C.f 0) oa ot hst (by omega) (by omega) (by omega) h) wd_550 wd_551 wd_0 wd_552 hd_L_alter [0, 1, 22, 23, 65] rfl rfl [da, q 0, q (21 + 2 * 0), q (22 + 2 * 0), oa] (fun _ => rfl) rfl (by rw [hR]; decide) ⟨hn1, hn2⟩ rfl (Nat.le_of_ble_eq_true rfl) d_law_420 (fun r9 _ hr9 => ?_)
    subst hr9
    dsimp only [wput, LW, List.set]
    exact kk
  · refine g_callSh (pc := 420) X (w_x_D_alter_3 (m_l M) B da q 1 (C.n 1) z y (C.f 1) oa ot hst (by omega) (by omega) (by omega) h) wd_550 wd_551 wd_0 wd_552 hd_L_alter [0, 1, 24, 25, 65] rfl rfl [da, q 0, q (21 + 2 * 1), q (22 + 2 * 1), oa] (fun _ => rfl) rfl (by rw [hR]; decide) ⟨hn1, hn2⟩ rfl (Nat.le_of_ble_eq_true rfl) d_law_420 (fun r9 _ hr9 => ?_)
    subst hr9
    dsimp only [wput, LW, List.set]
    exact kk
  · refine g_callSh (pc := 420) X (w_x_D_alter_3 (m_l M) B da q 2 (C.n 2) z y (C.f 2) oa ot hst (by omega) (by omega) (by omega) h) wd_550 wd_551 wd_0 wd_552 hd_L_alter [0, 1, 26, 27, 65] rfl rfl [da, q 0, q (21 + 2 * 2), q (22 + 2 * 2), oa] (fun _ => rfl) rfl (by rw [hR]; decide) ⟨hn1, hn2⟩ rfl (Nat.le_of_ble_eq_true rfl) d_law_420 (fun r9 _ hr9 => ?_)
    subst hr9
    dsimp only [wput, LW, List.set]
    exact kk
  · refine g_callSh (pc := 420) X (w_x_D_alter_3 (m_l M) B da q 3 (C.n 3) z y (C.f 3) oa ot hst (by omega) (by omega) (by omega) h) wd_550 wd_551 wd_0 wd_552 hd_L_alter [0, 1, 28, 29, 65] rfl rfl [da, q 0, q (21 + 2 * 3), q (22 + 2 * 3), oa] (fun _ => rfl) rfl (by rw [hR]; decide) ⟨hn1, hn2⟩ rfl (Nat.le_of_ble_eq_true rfl) d_law_420 (fun r9 _ hr9 => ?_)
    subst hr9
    dsimp only [wput, LW, List.set]
    exact kk
  · refine g_callSh (pc := 420) X (w_x_D_alter_3 (m_l M) B da q 4 (C.n 4) z y (C.f 4) oa ot hst (by omega) (by omega) (by omega) h) wd_550 wd_551 wd_0 wd_552 hd_L_alter [0, 1, 30, 31, 65] rfl rfl [da, q 0, q (21 + 2 * 4), q (22 + 2 * 4), oa] (fun _ => rfl) rfl (by rw [hR]; decide) ⟨hn1, hn2⟩ rfl (Nat.le_of_ble_eq_true rfl) d_law_420 (fun r9 _ hr9 => ?_)
    subst hr9
    dsimp only [wput, LW, List.set]
    exact kk
  · refine g_callSh (pc := 420) X (w_x_D_alter_3 (m_l M) B da q 5 (C.n 5) z y (C.f 5) oa ot hst (by omega) (by omega) (by omega) h) wd_550 wd_551 wd_0 wd_552 hd_L_alter [0, 1, 32, 33, 65] rfl rfl [da, q 0, q (21 + 2 * 5), q (22 + 2 * 5), oa] (fun _ => rfl) rfl (by rw [hR]; decide) ⟨hn1, hn2⟩ rfl (Nat.le_of_ble_eq_true rfl) d_law_420 (fun r9 _ hr9 => ?_)
    subst hr9
    dsimp only [wput, LW, List.set]
    exact kk
  · refine g_callSh (pc := 420) X (w_x_D_alter_3 (m_l M) B da q 6 (C.n 6) z y (C.f 6) oa ot hst (by omega) (by omega) (by omega) h) wd_550 wd_551 wd_0 wd_552 hd_L_alter [0, 1, 34, 35, 65] rfl rfl [da, q 0, q (21 + 2 * 6), q (22 + 2 * 6), oa] (fun _ => rfl) rfl (by rw [hR]; decide) ⟨hn1, hn2⟩ rfl (Nat.le_of_ble_eq_true rfl) d_law_420 (fun r9 _ hr9 => ?_)
    subst hr9
    dsimp only [wput, LW, List.set]
    exact kk
  · refine g_callSh (pc := 420) X (w_x_D_alter_3 (m_l M) B da q 7 (C.n 7) z y (C.f 7) oa ot hst (by omega) (by omega) (by omega) h) wd_550 wd_551 wd_0 wd_552 hd_L_alter [0, 1, 36, 37, 65] rfl rfl [da, q 0, q (21 + 2 * 7), q (22 + 2 * 7), oa] (fun _ => rfl) rfl (by rw [hR]; decide) ⟨hn1, hn2⟩ rfl (Nat.le_of_ble_eq_true rfl) d_law_420 (fun r9 _ hr9 => ?_)
    subst hr9
    dsimp only [wput, LW, List.set]
    exact kk

theorem kC_length {B : Bx} {M : Mx} {Q : State → Prop} (X : CX B M code 8 "SpongeDigestsLaw") (hR : m_R M = room_1) (da a oa : Nat) (q r : Nat → Nat) (C : CS) (R : RS) (ot : Nat → Int64) (i : Nat) (h1 : i < 8) (hm : C.n i ≤ 8192) : CallS B M Q 488 [.ref oa, .int (nI i), .ref da] (LW B da a oa q r C R ot) (LW B da a oa q r C R (va_up ot 0 (lN (C.n i)))) (.int (nI 0)) 0 0 := by
  intro n1 n2 lv hn1 hn2 kk
  rcases (show i = 0 ∨ i = 1 ∨ i = 2 ∨ i = 3 ∨ i = 4 ∨ i = 5 ∨ i = 6 ∨ i = 7 from by omega) with e9 | e9 | e9 | e9 | e9 | e9 | e9 | e9 <;> subst e9
  · refine g_callSh (pc := 488) X (w_c_D_length (m_l M) B da q 0 (C.n 0) (C.f 0) oa ot (by omega) (by omega)) wd_561 wd_562 wd_0 wd_563 hd_L_length [0, 1, 22, 23, 65] rfl rfl [da, q 0, q (21 + 2 * 0), q (22 + 2 * 0), oa] (fun _ => rfl) rfl (by rw [hR]; decide) ⟨hn1, hn2⟩ rfl (Nat.le_of_ble_eq_true rfl) d_law_488 (fun r9 _ hr9 => ?_)
    subst hr9
    dsimp only [wput, LW, List.set]
    exact kk
  · refine g_callSh (pc := 488) X (w_c_D_length (m_l M) B da q 1 (C.n 1) (C.f 1) oa ot (by omega) (by omega)) wd_561 wd_562 wd_0 wd_563 hd_L_length [0, 1, 24, 25, 65] rfl rfl [da, q 0, q (21 + 2 * 1), q (22 + 2 * 1), oa] (fun _ => rfl) rfl (by rw [hR]; decide) ⟨hn1, hn2⟩ rfl (Nat.le_of_ble_eq_true rfl) d_law_488 (fun r9 _ hr9 => ?_)
    subst hr9
    dsimp only [wput, LW, List.set]
    exact kk
  · refine g_callSh (pc := 488) X (w_c_D_length (m_l M) B da q 2 (C.n 2) (C.f 2) oa ot (by omega) (by omega)) wd_561 wd_562 wd_0 wd_563 hd_L_length [0, 1, 26, 27, 65] rfl rfl [da, q 0, q (21 + 2 * 2), q (22 + 2 * 2), oa] (fun _ => rfl) rfl (by rw [hR]; decide) ⟨hn1, hn2⟩ rfl (Nat.le_of_ble_eq_true rfl) d_law_488 (fun r9 _ hr9 => ?_)
    subst hr9
    dsimp only [wput, LW, List.set]
    exact kk
  · refine g_callSh (pc := 488) X (w_c_D_length (m_l M) B da q 3 (C.n 3) (C.f 3) oa ot (by omega) (by omega)) wd_561 wd_562 wd_0 wd_563 hd_L_length [0, 1, 28, 29, 65] rfl rfl [da, q 0, q (21 + 2 * 3), q (22 + 2 * 3), oa] (fun _ => rfl) rfl (by rw [hR]; decide) ⟨hn1, hn2⟩ rfl (Nat.le_of_ble_eq_true rfl) d_law_488 (fun r9 _ hr9 => ?_)
    subst hr9
    dsimp only [wput, LW, List.set]
    exact kk
  · refine g_callSh (pc := 488) X (w_c_D_length (m_l M) B da q 4 (C.n 4) (C.f 4) oa ot (by omega) (by omega)) wd_561 wd_562 wd_0 wd_563 hd_L_length [0, 1, 30, 31, 65] rfl rfl [da, q 0, q (21 + 2 * 4), q (22 + 2 * 4), oa] (fun _ => rfl) rfl (by rw [hR]; decide) ⟨hn1, hn2⟩ rfl (Nat.le_of_ble_eq_true rfl) d_law_488 (fun r9 _ hr9 => ?_)
    subst hr9
    dsimp only [wput, LW, List.set]
    exact kk
  · refine g_callSh (pc := 488) X (w_c_D_length (m_l M) B da q 5 (C.n 5) (C.f 5) oa ot (by omega) (by omega)) wd_561 wd_562 wd_0 wd_563 hd_L_length [0, 1, 32, 33, 65] rfl rfl [da, q 0, q (21 + 2 * 5), q (22 + 2 * 5), oa] (fun _ => rfl) rfl (by rw [hR]; decide) ⟨hn1, hn2⟩ rfl (Nat.le_of_ble_eq_true rfl) d_law_488 (fun r9 _ hr9 => ?_)
    subst hr9
    dsimp only [wput, LW, List.set]
    exact kk
  · refine g_callSh (pc := 488) X (w_c_D_length (m_l M) B da q 6 (C.n 6) (C.f 6) oa ot (by omega) (by omega)) wd_561 wd_562 wd_0 wd_563 hd_L_length [0, 1, 34, 35, 65] rfl rfl [da, q 0, q (21 + 2 * 6), q (22 + 2 * 6), oa] (fun _ => rfl) rfl (by rw [hR]; decide) ⟨hn1, hn2⟩ rfl (Nat.le_of_ble_eq_true rfl) d_law_488 (fun r9 _ hr9 => ?_)
    subst hr9
    dsimp only [wput, LW, List.set]
    exact kk
  · refine g_callSh (pc := 488) X (w_c_D_length (m_l M) B da q 7 (C.n 7) (C.f 7) oa ot (by omega) (by omega)) wd_561 wd_562 wd_0 wd_563 hd_L_length [0, 1, 36, 37, 65] rfl rfl [da, q 0, q (21 + 2 * 7), q (22 + 2 * 7), oa] (fun _ => rfl) rfl (by rw [hR]; decide) ⟨hn1, hn2⟩ rfl (Nat.le_of_ble_eq_true rfl) d_law_488 (fun r9 _ hr9 => ?_)
    subst hr9
    dsimp only [wput, LW, List.set]
    exact kk

theorem kC_length1 {B : Bx} {M : Mx} {Q : State → Prop} (X : CX B M code 8 "SpongeDigestsLaw") (hR : m_R M = room_1) (da a oa : Nat) (q r : Nat → Nat) (C : CS) (R : RS) (ot : Nat → Int64) (x : Int32) (hst : (m_l M).stackTraces = false) (h : inR x (nI 0) (nI 7) = nI 0) : CallS B M Q 488 [.ref oa, .int x, .ref da] (LW B da a oa q r C R ot) (LW B da a oa q r C R ot) (.int (nI 1)) 1 6 := by
  intro n1 n2 lv hn1 hn2 kk
  refine g_callSh (pc := 488) X (w_x_D_length (m_l M) B da q x oa ot hst h) wd_561 wd_562 wd_0 wd_563 hd_L_length [0, 1, 65] rfl rfl [da, q 0, oa] (fun _ => rfl) rfl (by rw [hR]; decide) ⟨hn1, hn2⟩ rfl (Nat.le_of_ble_eq_true rfl) d_law_488 (fun r9 _ hr9 => ?_)
  subst hr9
  dsimp only [wput, LW, List.set]
  exact kk

theorem kC_word {B : Bx} {M : Mx} {Q : State → Prop} (X : CX B M code 8 "SpongeDigestsLaw") (hR : m_R M = room_1) (da a oa : Nat) (q r : Nat → Nat) (C : CS) (R : RS) (ot : Nat → Int64) (i p : Nat) (h1 : i < 8) (h2 : p < C.n i) (h3 : C.n i ≤ 8192) : CallS B M Q 550 [.ref oa, .int (nI p), .int (nI i), .ref da] (LW B da a oa q r C R ot) (LW B da a oa q r C R (va_up ot 0 (it (eig (C.f i) (C.n i) p) 8 0))) (.int (nI 0)) 0 0 := by
  intro n1 n2 lv hn1 hn2 kk
  rcases (show i = 0 ∨ i = 1 ∨ i = 2 ∨ i = 3 ∨ i = 4 ∨ i = 5 ∨ i = 6 ∨ i = 7 from by omega) with e9 | e9 | e9 | e9 | e9 | e9 | e9 | e9 <;> subst e9
  · refine g_callSh (pc := 550) X (w_c_D_word (m_l M) B da q 0 (C.n 0) p (C.f 0) oa ot (by omega) (by omega) (by omega)) wd_568 wd_569 wd_0 wd_570 hd_L_word [0, 1, 22, 23, 65] rfl rfl [da, q 0, q (21 + 2 * 0), q (22 + 2 * 0), oa] (fun _ => rfl) rfl (by rw [hR]; decide) ⟨hn1, hn2⟩ rfl (Nat.le_of_ble_eq_true rfl) d_law_550 (fun r9 _ hr9 => ?_)
    subst hr9
    dsimp only [wput, LW, List.set]
    exact kk
  · refine g_callSh (pc := 550) X (w_c_D_word (m_l M) B da q 1 (C.n 1) p (C.f 1) oa ot (by omega) (by omega) (by omega)) wd_568 wd_569 wd_0 wd_570 hd_L_word [0, 1, 24, 25, 65] rfl rfl [da, q 0, q (21 + 2 * 1), q (22 + 2 * 1), oa] (fun _ => rfl) rfl (by rw [hR]; decide) ⟨hn1, hn2⟩ rfl (Nat.le_of_ble_eq_true rfl) d_law_550 (fun r9 _ hr9 => ?_)
    subst hr9
    dsimp only [wput, LW, List.set]
    exact kk
  · refine g_callSh (pc := 550) X (w_c_D_word (m_l M) B da q 2 (C.n 2) p (C.f 2) oa ot (by omega) (by omega) (by omega)) wd_568 wd_569 wd_0 wd_570 hd_L_word [0, 1, 26, 27, 65] rfl rfl [da, q 0, q (21 + 2 * 2), q (22 + 2 * 2), oa] (fun _ => rfl) rfl (by rw [hR]; decide) ⟨hn1, hn2⟩ rfl (Nat.le_of_ble_eq_true rfl) d_law_550 (fun r9 _ hr9 => ?_)
    subst hr9
    dsimp only [wput, LW, List.set]
    exact kk
  · refine g_callSh (pc := 550) X (w_c_D_word (m_l M) B da q 3 (C.n 3) p (C.f 3) oa ot (by omega) (by omega) (by omega)) wd_568 wd_569 wd_0 wd_570 hd_L_word [0, 1, 28, 29, 65] rfl rfl [da, q 0, q (21 + 2 * 3), q (22 + 2 * 3), oa] (fun _ => rfl) rfl (by rw [hR]; decide) ⟨hn1, hn2⟩ rfl (Nat.le_of_ble_eq_true rfl) d_law_550 (fun r9 _ hr9 => ?_)
    subst hr9
    dsimp only [wput, LW, List.set]
    exact kk
  · refine g_callSh (pc := 550) X (w_c_D_word (m_l M) B da q 4 (C.n 4) p (C.f 4) oa ot (by omega) (by omega) (by omega)) wd_568 wd_569 wd_0 wd_570 hd_L_word [0, 1, 30, 31, 65] rfl rfl [da, q 0, q (21 + 2 * 4), q (22 + 2 * 4), oa] (fun _ => rfl) rfl (by rw [hR]; decide) ⟨hn1, hn2⟩ rfl (Nat.le_of_ble_eq_true rfl) d_law_550 (fun r9 _ hr9 => ?_)
    subst hr9
    dsimp only [wput, LW, List.set]
    exact kk
  · refine g_callSh (pc := 550) X (w_c_D_word (m_l M) B da q 5 (C.n 5) p (C.f 5) oa ot (by omega) (by omega) (by omega)) wd_568 wd_569 wd_0 wd_570 hd_L_word [0, 1, 32, 33, 65] rfl rfl [da, q 0, q (21 + 2 * 5), q (22 + 2 * 5), oa] (fun _ => rfl) rfl (by rw [hR]; decide) ⟨hn1, hn2⟩ rfl (Nat.le_of_ble_eq_true rfl) d_law_550 (fun r9 _ hr9 => ?_)
    subst hr9
    dsimp only [wput, LW, List.set]
    exact kk
  · refine g_callSh (pc := 550) X (w_c_D_word (m_l M) B da q 6 (C.n 6) p (C.f 6) oa ot (by omega) (by omega) (by omega)) wd_568 wd_569 wd_0 wd_570 hd_L_word [0, 1, 34, 35, 65] rfl rfl [da, q 0, q (21 + 2 * 6), q (22 + 2 * 6), oa] (fun _ => rfl) rfl (by rw [hR]; decide) ⟨hn1, hn2⟩ rfl (Nat.le_of_ble_eq_true rfl) d_law_550 (fun r9 _ hr9 => ?_)
    subst hr9
    dsimp only [wput, LW, List.set]
    exact kk
  · refine g_callSh (pc := 550) X (w_c_D_word (m_l M) B da q 7 (C.n 7) p (C.f 7) oa ot (by omega) (by omega) (by omega)) wd_568 wd_569 wd_0 wd_570 hd_L_word [0, 1, 36, 37, 65] rfl rfl [da, q 0, q (21 + 2 * 7), q (22 + 2 * 7), oa] (fun _ => rfl) rfl (by rw [hR]; decide) ⟨hn1, hn2⟩ rfl (Nat.le_of_ble_eq_true rfl) d_law_550 (fun r9 _ hr9 => ?_)
    subst hr9
    dsimp only [wput, LW, List.set]
    exact kk

theorem kC_word1 {B : Bx} {M : Mx} {Q : State → Prop} (X : CX B M code 8 "SpongeDigestsLaw") (hR : m_R M = room_1) (da a oa : Nat) (q r : Nat → Nat) (C : CS) (R : RS) (ot : Nat → Int64) (x y : Int32) (hst : (m_l M).stackTraces = false) (h : inR x (nI 0) (nI 7) = nI 0) : CallS B M Q 550 [.ref oa, .int y, .int x, .ref da] (LW B da a oa q r C R ot) (LW B da a oa q r C R ot) (.int (nI 1)) 1 6 := by
  intro n1 n2 lv hn1 hn2 kk
  refine g_callSh (pc := 550) X (w_x_D_word_1 (m_l M) B da q x y oa ot hst h) wd_568 wd_569 wd_0 wd_570 hd_L_word [0, 1, 65] rfl rfl [da, q 0, oa] (fun _ => rfl) rfl (by rw [hR]; decide) ⟨hn1, hn2⟩ rfl (Nat.le_of_ble_eq_true rfl) d_law_550 (fun r9 _ hr9 => ?_)
  subst hr9
  dsimp only [wput, LW, List.set]
  exact kk

theorem kC_word2 {B : Bx} {M : Mx} {Q : State → Prop} (X : CX B M code 8 "SpongeDigestsLaw") (hR : m_R M = room_1) (da a oa : Nat) (q r : Nat → Nat) (C : CS) (R : RS) (ot : Nat → Int64) (i : Nat) (y : Int32) (hst : (m_l M).stackTraces = false) (h1 : i < 8) (h2 : C.n i ≤ 8192) (h : inR y (nI 0) (nI (C.n i) - nI 1) = nI 0) : CallS B M Q 550 [.ref oa, .int y, .int (nI i), .ref da] (LW B da a oa q r C R ot) (LW B da a oa q r C R ot) (.int (nI 2)) 1 6 := by
  intro n1 n2 lv hn1 hn2 kk
  rcases (show i = 0 ∨ i = 1 ∨ i = 2 ∨ i = 3 ∨ i = 4 ∨ i = 5 ∨ i = 6 ∨ i = 7 from by omega) with e9 | e9 | e9 | e9 | e9 | e9 | e9 | e9 <;> subst e9
  · refine g_callSh (pc := 550) X (w_x_D_word_2 (m_l M) B da q 0 (C.n 0) y (C.f 0) oa ot hst (by omega) (by omega) h) wd_568 wd_569 wd_0 wd_570 hd_L_word [0, 1, 22, 23, 65] rfl rfl [da, q 0, q (21 + 2 * 0), q (22 + 2 * 0), oa] (fun _ => rfl) rfl (by rw [hR]; decide) ⟨hn1, hn2⟩ rfl (Nat.le_of_ble_eq_true rfl) d_law_550 (fun r9 _ hr9 => ?_)
    subst hr9
    dsimp only [wput, LW, List.set]
    exact kk
  · refine g_callSh (pc := 550) X (w_x_D_word_2 (m_l M) B da q 1 (C.n 1) y (C.f 1) oa ot hst (by omega) (by omega) h) wd_568 wd_569 wd_0 wd_570 hd_L_word [0, 1, 24, 25, 65] rfl rfl [da, q 0, q (21 + 2 * 1), q (22 + 2 * 1), oa] (fun _ => rfl) rfl (by rw [hR]; decide) ⟨hn1, hn2⟩ rfl (Nat.le_of_ble_eq_true rfl) d_law_550 (fun r9 _ hr9 => ?_)
    subst hr9
    dsimp only [wput, LW, List.set]
    exact kk
  · refine g_callSh (pc := 550) X (w_x_D_word_2 (m_l M) B da q 2 (C.n 2) y (C.f 2) oa ot hst (by omega) (by omega) h) wd_568 wd_569 wd_0 wd_570 hd_L_word [0, 1, 26, 27, 65] rfl rfl [da, q 0, q (21 + 2 * 2), q (22 + 2 * 2), oa] (fun _ => rfl) rfl (by rw [hR]; decide) ⟨hn1, hn2⟩ rfl (Nat.le_of_ble_eq_true rfl) d_law_550 (fun r9 _ hr9 => ?_)
    subst hr9
    dsimp only [wput, LW, List.set]
    exact kk
  · refine g_callSh (pc := 550) X (w_x_D_word_2 (m_l M) B da q 3 (C.n 3) y (C.f 3) oa ot hst (by omega) (by omega) h) wd_568 wd_569 wd_0 wd_570 hd_L_word [0, 1, 28, 29, 65] rfl rfl [da, q 0, q (21 + 2 * 3), q (22 + 2 * 3), oa] (fun _ => rfl) rfl (by rw [hR]; decide) ⟨hn1, hn2⟩ rfl (Nat.le_of_ble_eq_true rfl) d_law_550 (fun r9 _ hr9 => ?_)
    subst hr9
    dsimp only [wput, LW, List.set]
    exact kk
  · refine g_callSh (pc := 550) X (w_x_D_word_2 (m_l M) B da q 4 (C.n 4) y (C.f 4) oa ot hst (by omega) (by omega) h) wd_568 wd_569 wd_0 wd_570 hd_L_word [0, 1, 30, 31, 65] rfl rfl [da, q 0, q (21 + 2 * 4), q (22 + 2 * 4), oa] (fun _ => rfl) rfl (by rw [hR]; decide) ⟨hn1, hn2⟩ rfl (Nat.le_of_ble_eq_true rfl) d_law_550 (fun r9 _ hr9 => ?_)
    subst hr9
    dsimp only [wput, LW, List.set]
    exact kk
  · refine g_callSh (pc := 550) X (w_x_D_word_2 (m_l M) B da q 5 (C.n 5) y (C.f 5) oa ot hst (by omega) (by omega) h) wd_568 wd_569 wd_0 wd_570 hd_L_word [0, 1, 32, 33, 65] rfl rfl [da, q 0, q (21 + 2 * 5), q (22 + 2 * 5), oa] (fun _ => rfl) rfl (by rw [hR]; decide) ⟨hn1, hn2⟩ rfl (Nat.le_of_ble_eq_true rfl) d_law_550 (fun r9 _ hr9 => ?_)
    subst hr9
    dsimp only [wput, LW, List.set]
    exact kk
  · refine g_callSh (pc := 550) X (w_x_D_word_2 (m_l M) B da q 6 (C.n 6) y (C.f 6) oa ot hst (by omega) (by omega) h) wd_568 wd_569 wd_0 wd_570 hd_L_word [0, 1, 34, 35, 65] rfl rfl [da, q 0, q (21 + 2 * 6), q (22 + 2 * 6), oa] (fun _ => rfl) rfl (by rw [hR]; decide) ⟨hn1, hn2⟩ rfl (Nat.le_of_ble_eq_true rfl) d_law_550 (fun r9 _ hr9 => ?_)
    subst hr9
    dsimp only [wput, LW, List.set]
    exact kk
  · refine g_callSh (pc := 550) X (w_x_D_word_2 (m_l M) B da q 7 (C.n 7) y (C.f 7) oa ot hst (by omega) (by omega) h) wd_568 wd_569 wd_0 wd_570 hd_L_word [0, 1, 36, 37, 65] rfl rfl [da, q 0, q (21 + 2 * 7), q (22 + 2 * 7), oa] (fun _ => rfl) rfl (by rw [hR]; decide) ⟨hn1, hn2⟩ rfl (Nat.le_of_ble_eq_true rfl) d_law_550 (fun r9 _ hr9 => ?_)
    subst hr9
    dsimp only [wput, LW, List.set]
    exact kk

theorem kC_same {B : Bx} {M : Mx} {Q : State → Prop} (X : CX B M code 8 "SpongeDigestsLaw") (hR : m_R M = room_1) (da a oa : Nat) (q r : Nat → Nat) (C : CS) (R : RS) (ot : Nat → Int64) (i j : Nat) (h1 : i < 8) (h2 : j < 8) (hne : i ≠ j) (h3 : C.n i ≤ 8192) (h4 : C.n j ≤ 8192) : CallS B M Q 617 [.ref oa, .int (nI j), .int (nI i), .ref da] (LW B da a oa q r C R ot) (LW B da a oa q r C R (va_up ot 0 (if mtC (C.f i) (C.f j) (C.n i) (C.n j) = 0 then (0 : Int64) else 1))) (.int (nI 0)) 0 0 := by
  intro n1 n2 lv hn1 hn2 kk
  rcases (show i = 0 ∨ i = 1 ∨ i = 2 ∨ i = 3 ∨ i = 4 ∨ i = 5 ∨ i = 6 ∨ i = 7 from by omega) with e9 | e9 | e9 | e9 | e9 | e9 | e9 | e9 <;> subst e9
  · rcases (show j = 1 ∨ j = 2 ∨ j = 3 ∨ j = 4 ∨ j = 5 ∨ j = 6 ∨ j = 7 from by omega) with e9 | e9 | e9 | e9 | e9 | e9 | e9 <;> subst e9
    · refine g_callSh (pc := 617) X (w_c_D_same (m_l M) B da q 0 1 (C.n 0) (C.n 1) (C.f 0) (C.f 1) oa ot (by omega) (by omega) (by omega) (by omega)) wd_579 wd_580 wd_0 wd_581 hd_L_same [0, 1, 22, 23, 24, 25, 65] rfl rfl [da, q 0, q (21 + 2 * 0), q (22 + 2 * 0), q (21 + 2 * 1), q (22 + 2 * 1), oa] (fun _ => rfl) rfl (by rw [hR]; decide) ⟨hn1, hn2⟩ rfl (Nat.le_of_ble_eq_true rfl) d_law_617 (fun r9 _ hr9 => ?_)
      subst hr9
      dsimp only [wput, LW, List.set]
      exact kk
    · refine g_callSh (pc := 617) X (w_c_D_same (m_l M) B da q 0 2 (C.n 0) (C.n 2) (C.f 0) (C.f 2) oa ot (by omega) (by omega) (by omega) (by omega)) wd_579 wd_580 wd_0 wd_581 hd_L_same [0, 1, 22, 23, 26, 27, 65] rfl rfl [da, q 0, q (21 + 2 * 0), q (22 + 2 * 0), q (21 + 2 * 2), q (22 + 2 * 2), oa] (fun _ => rfl) rfl (by rw [hR]; decide) ⟨hn1, hn2⟩ rfl (Nat.le_of_ble_eq_true rfl) d_law_617 (fun r9 _ hr9 => ?_)
      subst hr9
      dsimp only [wput, LW, List.set]
      exact kk
    · refine g_callSh (pc := 617) X (w_c_D_same (m_l M) B da q 0 3 (C.n 0) (C.n 3) (C.f 0) (C.f 3) oa ot (by omega) (by omega) (by omega) (by omega)) wd_579 wd_580 wd_0 wd_581 hd_L_same [0, 1, 22, 23, 28, 29, 65] rfl rfl [da, q 0, q (21 + 2 * 0), q (22 + 2 * 0), q (21 + 2 * 3), q (22 + 2 * 3), oa] (fun _ => rfl) rfl (by rw [hR]; decide) ⟨hn1, hn2⟩ rfl (Nat.le_of_ble_eq_true rfl) d_law_617 (fun r9 _ hr9 => ?_)
      subst hr9
      dsimp only [wput, LW, List.set]
      exact kk
    · refine g_callSh (pc := 617) X (w_c_D_same (m_l M) B da q 0 4 (C.n 0) (C.n 4) (C.f 0) (C.f 4) oa ot (by omega) (by omega) (by omega) (by omega)) wd_579 wd_580 wd_0 wd_581 hd_L_same [0, 1, 22, 23, 30, 31, 65] rfl rfl [da, q 0, q (21 + 2 * 0), q (22 + 2 * 0), q (21 + 2 * 4), q (22 + 2 * 4), oa] (fun _ => rfl) rfl (by rw [hR]; decide) ⟨hn1, hn2⟩ rfl (Nat.le_of_ble_eq_true rfl) d_law_617 (fun r9 _ hr9 => ?_)
      subst hr9
      dsimp only [wput, LW, List.set]
      exact kk
    · refine g_callSh (pc := 617) X (w_c_D_same (m_l M) B da q 0 5 (C.n 0) (C.n 5) (C.f 0) (C.f 5) oa ot (by omega) (by omega) (by omega) (by omega)) wd_579 wd_580 wd_0 wd_581 hd_L_same [0, 1, 22, 23, 32, 33, 65] rfl rfl [da, q 0, q (21 + 2 * 0), q (22 + 2 * 0), q (21 + 2 * 5), q (22 + 2 * 5), oa] (fun _ => rfl) rfl (by rw [hR]; decide) ⟨hn1, hn2⟩ rfl (Nat.le_of_ble_eq_true rfl) d_law_617 (fun r9 _ hr9 => ?_)
      subst hr9
      dsimp only [wput, LW, List.set]
      exact kk
    · refine g_callSh (pc := 617) X (w_c_D_same (m_l M) B da q 0 6 (C.n 0) (C.n 6) (C.f 0) (C.f 6) oa ot (by omega) (by omega) (by omega) (by omega)) wd_579 wd_580 wd_0 wd_581 hd_L_same [0, 1, 22, 23, 34, 35, 65] rfl rfl [da, q 0, q (21 + 2 * 0), q (22 + 2 * 0), q (21 + 2 * 6), q (22 + 2 * 6), oa] (fun _ => rfl) rfl (by rw [hR]; decide) ⟨hn1, hn2⟩ rfl (Nat.le_of_ble_eq_true rfl) d_law_617 (fun r9 _ hr9 => ?_)
      subst hr9
      dsimp only [wput, LW, List.set]
      exact kk
    · refine g_callSh (pc := 617) X (w_c_D_same (m_l M) B da q 0 7 (C.n 0) (C.n 7) (C.f 0) (C.f 7) oa ot (by omega) (by omega) (by omega) (by omega)) wd_579 wd_580 wd_0 wd_581 hd_L_same [0, 1, 22, 23, 36, 37, 65] rfl rfl [da, q 0, q (21 + 2 * 0), q (22 + 2 * 0), q (21 + 2 * 7), q (22 + 2 * 7), oa] (fun _ => rfl) rfl (by rw [hR]; decide) ⟨hn1, hn2⟩ rfl (Nat.le_of_ble_eq_true rfl) d_law_617 (fun r9 _ hr9 => ?_)
      subst hr9
      dsimp only [wput, LW, List.set]
      exact kk
  · rcases (show j = 0 ∨ j = 2 ∨ j = 3 ∨ j = 4 ∨ j = 5 ∨ j = 6 ∨ j = 7 from by omega) with e9 | e9 | e9 | e9 | e9 | e9 | e9 <;> subst e9
    · refine g_callSh (pc := 617) X (w_c_D_same (m_l M) B da q 1 0 (C.n 1) (C.n 0) (C.f 1) (C.f 0) oa ot (by omega) (by omega) (by omega) (by omega)) wd_579 wd_580 wd_0 wd_581 hd_L_same [0, 1, 24, 25, 22, 23, 65] rfl rfl [da, q 0, q (21 + 2 * 1), q (22 + 2 * 1), q (21 + 2 * 0), q (22 + 2 * 0), oa] (fun _ => rfl) rfl (by rw [hR]; decide) ⟨hn1, hn2⟩ rfl (Nat.le_of_ble_eq_true rfl) d_law_617 (fun r9 _ hr9 => ?_)
      subst hr9
      dsimp only [wput, LW, List.set]
      exact kk
    · refine g_callSh (pc := 617) X (w_c_D_same (m_l M) B da q 1 2 (C.n 1) (C.n 2) (C.f 1) (C.f 2) oa ot (by omega) (by omega) (by omega) (by omega)) wd_579 wd_580 wd_0 wd_581 hd_L_same [0, 1, 24, 25, 26, 27, 65] rfl rfl [da, q 0, q (21 + 2 * 1), q (22 + 2 * 1), q (21 + 2 * 2), q (22 + 2 * 2), oa] (fun _ => rfl) rfl (by rw [hR]; decide) ⟨hn1, hn2⟩ rfl (Nat.le_of_ble_eq_true rfl) d_law_617 (fun r9 _ hr9 => ?_)
      subst hr9
      dsimp only [wput, LW, List.set]
      exact kk
    · refine g_callSh (pc := 617) X (w_c_D_same (m_l M) B da q 1 3 (C.n 1) (C.n 3) (C.f 1) (C.f 3) oa ot (by omega) (by omega) (by omega) (by omega)) wd_579 wd_580 wd_0 wd_581 hd_L_same [0, 1, 24, 25, 28, 29, 65] rfl rfl [da, q 0, q (21 + 2 * 1), q (22 + 2 * 1), q (21 + 2 * 3), q (22 + 2 * 3), oa] (fun _ => rfl) rfl (by rw [hR]; decide) ⟨hn1, hn2⟩ rfl (Nat.le_of_ble_eq_true rfl) d_law_617 (fun r9 _ hr9 => ?_)
      subst hr9
      dsimp only [wput, LW, List.set]
      exact kk
    · refine g_callSh (pc := 617) X (w_c_D_same (m_l M) B da q 1 4 (C.n 1) (C.n 4) (C.f 1) (C.f 4) oa ot (by omega) (by omega) (by omega) (by omega)) wd_579 wd_580 wd_0 wd_581 hd_L_same [0, 1, 24, 25, 30, 31, 65] rfl rfl [da, q 0, q (21 + 2 * 1), q (22 + 2 * 1), q (21 + 2 * 4), q (22 + 2 * 4), oa] (fun _ => rfl) rfl (by rw [hR]; decide) ⟨hn1, hn2⟩ rfl (Nat.le_of_ble_eq_true rfl) d_law_617 (fun r9 _ hr9 => ?_)
      subst hr9
      dsimp only [wput, LW, List.set]
      exact kk
    · refine g_callSh (pc := 617) X (w_c_D_same (m_l M) B da q 1 5 (C.n 1) (C.n 5) (C.f 1) (C.f 5) oa ot (by omega) (by omega) (by omega) (by omega)) wd_579 wd_580 wd_0 wd_581 hd_L_same [0, 1, 24, 25, 32, 33, 65] rfl rfl [da, q 0, q (21 + 2 * 1), q (22 + 2 * 1), q (21 + 2 * 5), q (22 + 2 * 5), oa] (fun _ => rfl) rfl (by rw [hR]; decide) ⟨hn1, hn2⟩ rfl (Nat.le_of_ble_eq_true rfl) d_law_617 (fun r9 _ hr9 => ?_)
      subst hr9
      dsimp only [wput, LW, List.set]
      exact kk
    · refine g_callSh (pc := 617) X (w_c_D_same (m_l M) B da q 1 6 (C.n 1) (C.n 6) (C.f 1) (C.f 6) oa ot (by omega) (by omega) (by omega) (by omega)) wd_579 wd_580 wd_0 wd_581 hd_L_same [0, 1, 24, 25, 34, 35, 65] rfl rfl [da, q 0, q (21 + 2 * 1), q (22 + 2 * 1), q (21 + 2 * 6), q (22 + 2 * 6), oa] (fun _ => rfl) rfl (by rw [hR]; decide) ⟨hn1, hn2⟩ rfl (Nat.le_of_ble_eq_true rfl) d_law_617 (fun r9 _ hr9 => ?_)
      subst hr9
      dsimp only [wput, LW, List.set]
      exact kk
    · refine g_callSh (pc := 617) X (w_c_D_same (m_l M) B da q 1 7 (C.n 1) (C.n 7) (C.f 1) (C.f 7) oa ot (by omega) (by omega) (by omega) (by omega)) wd_579 wd_580 wd_0 wd_581 hd_L_same [0, 1, 24, 25, 36, 37, 65] rfl rfl [da, q 0, q (21 + 2 * 1), q (22 + 2 * 1), q (21 + 2 * 7), q (22 + 2 * 7), oa] (fun _ => rfl) rfl (by rw [hR]; decide) ⟨hn1, hn2⟩ rfl (Nat.le_of_ble_eq_true rfl) d_law_617 (fun r9 _ hr9 => ?_)
      subst hr9
      dsimp only [wput, LW, List.set]
      exact kk
  · rcases (show j = 0 ∨ j = 1 ∨ j = 3 ∨ j = 4 ∨ j = 5 ∨ j = 6 ∨ j = 7 from by omega) with e9 | e9 | e9 | e9 | e9 | e9 | e9 <;> subst e9
    · refine g_callSh (pc := 617) X (w_c_D_same (m_l M) B da q 2 0 (C.n 2) (C.n 0) (C.f 2) (C.f 0) oa ot (by omega) (by omega) (by omega) (by omega)) wd_579 wd_580 wd_0 wd_581 hd_L_same [0, 1, 26, 27, 22, 23, 65] rfl rfl [da, q 0, q (21 + 2 * 2), q (22 + 2 * 2), q (21 + 2 * 0), q (22 + 2 * 0), oa] (fun _ => rfl) rfl (by rw [hR]; decide) ⟨hn1, hn2⟩ rfl (Nat.le_of_ble_eq_true rfl) d_law_617 (fun r9 _ hr9 => ?_)
      subst hr9
      dsimp only [wput, LW, List.set]
      exact kk
    · refine g_callSh (pc := 617) X (w_c_D_same (m_l M) B da q 2 1 (C.n 2) (C.n 1) (C.f 2) (C.f 1) oa ot (by omega) (by omega) (by omega) (by omega)) wd_579 wd_580 wd_0 wd_581 hd_L_same [0, 1, 26, 27, 24, 25, 65] rfl rfl [da, q 0, q (21 + 2 * 2), q (22 + 2 * 2), q (21 + 2 * 1), q (22 + 2 * 1), oa] (fun _ => rfl) rfl (by rw [hR]; decide) ⟨hn1, hn2⟩ rfl (Nat.le_of_ble_eq_true rfl) d_law_617 (fun r9 _ hr9 => ?_)
      subst hr9
      dsimp only [wput, LW, List.set]
      exact kk
    · refine g_callSh (pc := 617) X (w_c_D_same (m_l M) B da q 2 3 (C.n 2) (C.n 3) (C.f 2) (C.f 3) oa ot (by omega) (by omega) (by omega) (by omega)) wd_579 wd_580 wd_0 wd_581 hd_L_same [0, 1, 26, 27, 28, 29, 65] rfl rfl [da, q 0, q (21 + 2 * 2), q (22 + 2 * 2), q (21 + 2 * 3), q (22 + 2 * 3), oa] (fun _ => rfl) rfl (by rw [hR]; decide) ⟨hn1, hn2⟩ rfl (Nat.le_of_ble_eq_true rfl) d_law_617 (fun r9 _ hr9 => ?_)
      subst hr9
      dsimp only [wput, LW, List.set]
      exact kk
    · refine g_callSh (pc := 617) X (w_c_D_same (m_l M) B da q 2 4 (C.n 2) (C.n 4) (C.f 2) (C.f 4) oa ot (by omega) (by omega) (by omega) (by omega)) wd_579 wd_580 wd_0 wd_581 hd_L_same [0, 1, 26, 27, 30, 31, 65] rfl rfl [da, q 0, q (21 + 2 * 2), q (22 + 2 * 2), q (21 + 2 * 4), q (22 + 2 * 4), oa] (fun _ => rfl) rfl (by rw [hR]; decide) ⟨hn1, hn2⟩ rfl (Nat.le_of_ble_eq_true rfl) d_law_617 (fun r9 _ hr9 => ?_)
      subst hr9
      dsimp only [wput, LW, List.set]
      exact kk
    · refine g_callSh (pc := 617) X (w_c_D_same (m_l M) B da q 2 5 (C.n 2) (C.n 5) (C.f 2) (C.f 5) oa ot (by omega) (by omega) (by omega) (by omega)) wd_579 wd_580 wd_0 wd_581 hd_L_same [0, 1, 26, 27, 32, 33, 65] rfl rfl [da, q 0, q (21 + 2 * 2), q (22 + 2 * 2), q (21 + 2 * 5), q (22 + 2 * 5), oa] (fun _ => rfl) rfl (by rw [hR]; decide) ⟨hn1, hn2⟩ rfl (Nat.le_of_ble_eq_true rfl) d_law_617 (fun r9 _ hr9 => ?_)
      subst hr9
      dsimp only [wput, LW, List.set]
      exact kk
    · refine g_callSh (pc := 617) X (w_c_D_same (m_l M) B da q 2 6 (C.n 2) (C.n 6) (C.f 2) (C.f 6) oa ot (by omega) (by omega) (by omega) (by omega)) wd_579 wd_580 wd_0 wd_581 hd_L_same [0, 1, 26, 27, 34, 35, 65] rfl rfl [da, q 0, q (21 + 2 * 2), q (22 + 2 * 2), q (21 + 2 * 6), q (22 + 2 * 6), oa] (fun _ => rfl) rfl (by rw [hR]; decide) ⟨hn1, hn2⟩ rfl (Nat.le_of_ble_eq_true rfl) d_law_617 (fun r9 _ hr9 => ?_)
      subst hr9
      dsimp only [wput, LW, List.set]
      exact kk
    · refine g_callSh (pc := 617) X (w_c_D_same (m_l M) B da q 2 7 (C.n 2) (C.n 7) (C.f 2) (C.f 7) oa ot (by omega) (by omega) (by omega) (by omega)) wd_579 wd_580 wd_0 wd_581 hd_L_same [0, 1, 26, 27, 36, 37, 65] rfl rfl [da, q 0, q (21 + 2 * 2), q (22 + 2 * 2), q (21 + 2 * 7), q (22 + 2 * 7), oa] (fun _ => rfl) rfl (by rw [hR]; decide) ⟨hn1, hn2⟩ rfl (Nat.le_of_ble_eq_true rfl) d_law_617 (fun r9 _ hr9 => ?_)
      subst hr9
      dsimp only [wput, LW, List.set]
      exact kk
  · rcases (show j = 0 ∨ j = 1 ∨ j = 2 ∨ j = 4 ∨ j = 5 ∨ j = 6 ∨ j = 7 from by omega) with e9 | e9 | e9 | e9 | e9 | e9 | e9 <;> subst e9
    · refine g_callSh (pc := 617) X (w_c_D_same (m_l M) B da q 3 0 (C.n 3) (C.n 0) (C.f 3) (C.f 0) oa ot (by omega) (by omega) (by omega) (by omega)) wd_579 wd_580 wd_0 wd_581 hd_L_same [0, 1, 28, 29, 22, 23, 65] rfl rfl [da, q 0, q (21 + 2 * 3), q (22 + 2 * 3), q (21 + 2 * 0), q (22 + 2 * 0), oa] (fun _ => rfl) rfl (by rw [hR]; decide) ⟨hn1, hn2⟩ rfl (Nat.le_of_ble_eq_true rfl) d_law_617 (fun r9 _ hr9 => ?_)
      subst hr9
      dsimp only [wput, LW, List.set]
      exact kk
    · refine g_callSh (pc := 617) X (w_c_D_same (m_l M) B da q 3 1 (C.n 3) (C.n 1) (C.f 3) (C.f 1) oa ot (by omega) (by omega) (by omega) (by omega)) wd_579 wd_580 wd_0 wd_581 hd_L_same [0, 1, 28, 29, 24, 25, 65] rfl rfl [da, q 0, q (21 + 2 * 3), q (22 + 2 * 3), q (21 + 2 * 1), q (22 + 2 * 1), oa] (fun _ => rfl) rfl (by rw [hR]; decide) ⟨hn1, hn2⟩ rfl (Nat.le_of_ble_eq_true rfl) d_law_617 (fun r9 _ hr9 => ?_)
      subst hr9
      dsimp only [wput, LW, List.set]
      exact kk
    · refine g_callSh (pc := 617) X (w_c_D_same (m_l M) B da q 3 2 (C.n 3) (C.n 2) (C.f 3) (C.f 2) oa ot (by omega) (by omega) (by omega) (by omega)) wd_579 wd_580 wd_0 wd_581 hd_L_same [0, 1, 28, 29, 26, 27, 65] rfl rfl [da, q 0, q (21 + 2 * 3), q (22 + 2 * 3), q (21 + 2 * 2), q (22 + 2 * 2), oa] (fun _ => rfl) rfl (by rw [hR]; decide) ⟨hn1, hn2⟩ rfl (Nat.le_of_ble_eq_true rfl) d_law_617 (fun r9 _ hr9 => ?_)
      subst hr9
      dsimp only [wput, LW, List.set]
      exact kk
    · refine g_callSh (pc := 617) X (w_c_D_same (m_l M) B da q 3 4 (C.n 3) (C.n 4) (C.f 3) (C.f 4) oa ot (by omega) (by omega) (by omega) (by omega)) wd_579 wd_580 wd_0 wd_581 hd_L_same [0, 1, 28, 29, 30, 31, 65] rfl rfl [da, q 0, q (21 + 2 * 3), q (22 + 2 * 3), q (21 + 2 * 4), q (22 + 2 * 4), oa] (fun _ => rfl) rfl (by rw [hR]; decide) ⟨hn1, hn2⟩ rfl (Nat.le_of_ble_eq_true rfl) d_law_617 (fun r9 _ hr9 => ?_)
      subst hr9
      dsimp only [wput, LW, List.set]
      exact kk
    · refine g_callSh (pc := 617) X (w_c_D_same (m_l M) B da q 3 5 (C.n 3) (C.n 5) (C.f 3) (C.f 5) oa ot (by omega) (by omega) (by omega) (by omega)) wd_579 wd_580 wd_0 wd_581 hd_L_same [0, 1, 28, 29, 32, 33, 65] rfl rfl [da, q 0, q (21 + 2 * 3), q (22 + 2 * 3), q (21 + 2 * 5), q (22 + 2 * 5), oa] (fun _ => rfl) rfl (by rw [hR]; decide) ⟨hn1, hn2⟩ rfl (Nat.le_of_ble_eq_true rfl) d_law_617 (fun r9 _ hr9 => ?_)
      subst hr9
      dsimp only [wput, LW, List.set]
      exact kk
    · refine g_callSh (pc := 617) X (w_c_D_same (m_l M) B da q 3 6 (C.n 3) (C.n 6) (C.f 3) (C.f 6) oa ot (by omega) (by omega) (by omega) (by omega)) wd_579 wd_580 wd_0 wd_581 hd_L_same [0, 1, 28, 29, 34, 35, 65] rfl rfl [da, q 0, q (21 + 2 * 3), q (22 + 2 * 3), q (21 + 2 * 6), q (22 + 2 * 6), oa] (fun _ => rfl) rfl (by rw [hR]; decide) ⟨hn1, hn2⟩ rfl (Nat.le_of_ble_eq_true rfl) d_law_617 (fun r9 _ hr9 => ?_)
      subst hr9
      dsimp only [wput, LW, List.set]
      exact kk
    · refine g_callSh (pc := 617) X (w_c_D_same (m_l M) B da q 3 7 (C.n 3) (C.n 7) (C.f 3) (C.f 7) oa ot (by omega) (by omega) (by omega) (by omega)) wd_579 wd_580 wd_0 wd_581 hd_L_same [0, 1, 28, 29, 36, 37, 65] rfl rfl [da, q 0, q (21 + 2 * 3), q (22 + 2 * 3), q (21 + 2 * 7), q (22 + 2 * 7), oa] (fun _ => rfl) rfl (by rw [hR]; decide) ⟨hn1, hn2⟩ rfl (Nat.le_of_ble_eq_true rfl) d_law_617 (fun r9 _ hr9 => ?_)
      subst hr9
      dsimp only [wput, LW, List.set]
      exact kk
  · rcases (show j = 0 ∨ j = 1 ∨ j = 2 ∨ j = 3 ∨ j = 5 ∨ j = 6 ∨ j = 7 from by omega) with e9 | e9 | e9 | e9 | e9 | e9 | e9 <;> subst e9
    · refine g_callSh (pc := 617) X (w_c_D_same (m_l M) B da q 4 0 (C.n 4) (C.n 0) (C.f 4) (C.f 0) oa ot (by omega) (by omega) (by omega) (by omega)) wd_579 wd_580 wd_0 wd_581 hd_L_same [0, 1, 30, 31, 22, 23, 65] rfl rfl [da, q 0, q (21 + 2 * 4), q (22 + 2 * 4), q (21 + 2 * 0), q (22 + 2 * 0), oa] (fun _ => rfl) rfl (by rw [hR]; decide) ⟨hn1, hn2⟩ rfl (Nat.le_of_ble_eq_true rfl) d_law_617 (fun r9 _ hr9 => ?_)
      subst hr9
      dsimp only [wput, LW, List.set]
      exact kk
    · refine g_callSh (pc := 617) X (w_c_D_same (m_l M) B da q 4 1 (C.n 4) (C.n 1) (C.f 4) (C.f 1) oa ot (by omega) (by omega) (by omega) (by omega)) wd_579 wd_580 wd_0 wd_581 hd_L_same [0, 1, 30, 31, 24, 25, 65] rfl rfl [da, q 0, q (21 + 2 * 4), q (22 + 2 * 4), q (21 + 2 * 1), q (22 + 2 * 1), oa] (fun _ => rfl) rfl (by rw [hR]; decide) ⟨hn1, hn2⟩ rfl (Nat.le_of_ble_eq_true rfl) d_law_617 (fun r9 _ hr9 => ?_)
      subst hr9
      dsimp only [wput, LW, List.set]
      exact kk
    · refine g_callSh (pc := 617) X (w_c_D_same (m_l M) B da q 4 2 (C.n 4) (C.n 2) (C.f 4) (C.f 2) oa ot (by omega) (by omega) (by omega) (by omega)) wd_579 wd_580 wd_0 wd_581 hd_L_same [0, 1, 30, 31, 26, 27, 65] rfl rfl [da, q 0, q (21 + 2 * 4), q (22 + 2 * 4), q (21 + 2 * 2), q (22 + 2 * 2), oa] (fun _ => rfl) rfl (by rw [hR]; decide) ⟨hn1, hn2⟩ rfl (Nat.le_of_ble_eq_true rfl) d_law_617 (fun r9 _ hr9 => ?_)
      subst hr9
      dsimp only [wput, LW, List.set]
      exact kk
    · refine g_callSh (pc := 617) X (w_c_D_same (m_l M) B da q 4 3 (C.n 4) (C.n 3) (C.f 4) (C.f 3) oa ot (by omega) (by omega) (by omega) (by omega)) wd_579 wd_580 wd_0 wd_581 hd_L_same [0, 1, 30, 31, 28, 29, 65] rfl rfl [da, q 0, q (21 + 2 * 4), q (22 + 2 * 4), q (21 + 2 * 3), q (22 + 2 * 3), oa] (fun _ => rfl) rfl (by rw [hR]; decide) ⟨hn1, hn2⟩ rfl (Nat.le_of_ble_eq_true rfl) d_law_617 (fun r9 _ hr9 => ?_)
      subst hr9
      dsimp only [wput, LW, List.set]
      exact kk
    · refine g_callSh (pc := 617) X (w_c_D_same (m_l M) B da q 4 5 (C.n 4) (C.n 5) (C.f 4) (C.f 5) oa ot (by omega) (by omega) (by omega) (by omega)) wd_579 wd_580 wd_0 wd_581 hd_L_same [0, 1, 30, 31, 32, 33, 65] rfl rfl [da, q 0, q (21 + 2 * 4), q (22 + 2 * 4), q (21 + 2 * 5), q (22 + 2 * 5), oa] (fun _ => rfl) rfl (by rw [hR]; decide) ⟨hn1, hn2⟩ rfl (Nat.le_of_ble_eq_true rfl) d_law_617 (fun r9 _ hr9 => ?_)
      subst hr9
      dsimp only [wput, LW, List.set]
      exact kk
    · refine g_callSh (pc := 617) X (w_c_D_same (m_l M) B da q 4 6 (C.n 4) (C.n 6) (C.f 4) (C.f 6) oa ot (by omega) (by omega) (by omega) (by omega)) wd_579 wd_580 wd_0 wd_581 hd_L_same [0, 1, 30, 31, 34, 35, 65] rfl rfl [da, q 0, q (21 + 2 * 4), q (22 + 2 * 4), q (21 + 2 * 6), q (22 + 2 * 6), oa] (fun _ => rfl) rfl (by rw [hR]; decide) ⟨hn1, hn2⟩ rfl (Nat.le_of_ble_eq_true rfl) d_law_617 (fun r9 _ hr9 => ?_)
      subst hr9
      dsimp only [wput, LW, List.set]
      exact kk
    · refine g_callSh (pc := 617) X (w_c_D_same (m_l M) B da q 4 7 (C.n 4) (C.n 7) (C.f 4) (C.f 7) oa ot (by omega) (by omega) (by omega) (by omega)) wd_579 wd_580 wd_0 wd_581 hd_L_same [0, 1, 30, 31, 36, 37, 65] rfl rfl [da, q 0, q (21 + 2 * 4), q (22 + 2 * 4), q (21 + 2 * 7), q (22 + 2 * 7), oa] (fun _ => rfl) rfl (by rw [hR]; decide) ⟨hn1, hn2⟩ rfl (Nat.le_of_ble_eq_true rfl) d_law_617 (fun r9 _ hr9 => ?_)
      subst hr9
      dsimp only [wput, LW, List.set]
      exact kk
  · rcases (show j = 0 ∨ j = 1 ∨ j = 2 ∨ j = 3 ∨ j = 4 ∨ j = 6 ∨ j = 7 from by omega) with e9 | e9 | e9 | e9 | e9 | e9 | e9 <;> subst e9
    · refine g_callSh (pc := 617) X (w_c_D_same (m_l M) B da q 5 0 (C.n 5) (C.n 0) (C.f 5) (C.f 0) oa ot (by omega) (by omega) (by omega) (by omega)) wd_579 wd_580 wd_0 wd_581 hd_L_same [0, 1, 32, 33, 22, 23, 65] rfl rfl [da, q 0, q (21 + 2 * 5), q (22 + 2 * 5), q (21 + 2 * 0), q (22 + 2 * 0), oa] (fun _ => rfl) rfl (by rw [hR]; decide) ⟨hn1, hn2⟩ rfl (Nat.le_of_ble_eq_true rfl) d_law_617 (fun r9 _ hr9 => ?_)
      subst hr9
      dsimp only [wput, LW, List.set]
      exact kk
    · refine g_callSh (pc := 617) X (w_c_D_same (m_l M) B da q 5 1 (C.n 5) (C.n 1) (C.f 5) (C.f 1) oa ot (by omega) (by omega) (by omega) (by omega)) wd_579 wd_580 wd_0 wd_581 hd_L_same [0, 1, 32, 33, 24, 25, 65] rfl rfl [da, q 0, q (21 + 2 * 5), q (22 + 2 * 5), q (21 + 2 * 1), q (22 + 2 * 1), oa] (fun _ => rfl) rfl (by rw [hR]; decide) ⟨hn1, hn2⟩ rfl (Nat.le_of_ble_eq_true rfl) d_law_617 (fun r9 _ hr9 => ?_)
      subst hr9
      dsimp only [wput, LW, List.set]
      exact kk
    · refine g_callSh (pc := 617) X (w_c_D_same (m_l M) B da q 5 2 (C.n 5) (C.n 2) (C.f 5) (C.f 2) oa ot (by omega) (by omega) (by omega) (by omega)) wd_579 wd_580 wd_0 wd_581 hd_L_same [0, 1, 32, 33, 26, 27, 65] rfl rfl [da, q 0, q (21 + 2 * 5), q (22 + 2 * 5), q (21 + 2 * 2), q (22 + 2 * 2), oa] (fun _ => rfl) rfl (by rw [hR]; decide) ⟨hn1, hn2⟩ rfl (Nat.le_of_ble_eq_true rfl) d_law_617 (fun r9 _ hr9 => ?_)
      subst hr9
      dsimp only [wput, LW, List.set]
      exact kk
    · refine g_callSh (pc := 617) X (w_c_D_same (m_l M) B da q 5 3 (C.n 5) (C.n 3) (C.f 5) (C.f 3) oa ot (by omega) (by omega) (by omega) (by omega)) wd_579 wd_580 wd_0 wd_581 hd_L_same [0, 1, 32, 33, 28, 29, 65] rfl rfl [da, q 0, q (21 + 2 * 5), q (22 + 2 * 5), q (21 + 2 * 3), q (22 + 2 * 3), oa] (fun _ => rfl) rfl (by rw [hR]; decide) ⟨hn1, hn2⟩ rfl (Nat.le_of_ble_eq_true rfl) d_law_617 (fun r9 _ hr9 => ?_)
      subst hr9
      dsimp only [wput, LW, List.set]
      exact kk
    · refine g_callSh (pc := 617) X (w_c_D_same (m_l M) B da q 5 4 (C.n 5) (C.n 4) (C.f 5) (C.f 4) oa ot (by omega) (by omega) (by omega) (by omega)) wd_579 wd_580 wd_0 wd_581 hd_L_same [0, 1, 32, 33, 30, 31, 65] rfl rfl [da, q 0, q (21 + 2 * 5), q (22 + 2 * 5), q (21 + 2 * 4), q (22 + 2 * 4), oa] (fun _ => rfl) rfl (by rw [hR]; decide) ⟨hn1, hn2⟩ rfl (Nat.le_of_ble_eq_true rfl) d_law_617 (fun r9 _ hr9 => ?_)
      subst hr9
      dsimp only [wput, LW, List.set]
      exact kk
    · refine g_callSh (pc := 617) X (w_c_D_same (m_l M) B da q 5 6 (C.n 5) (C.n 6) (C.f 5) (C.f 6) oa ot (by omega) (by omega) (by omega) (by omega)) wd_579 wd_580 wd_0 wd_581 hd_L_same [0, 1, 32, 33, 34, 35, 65] rfl rfl [da, q 0, q (21 + 2 * 5), q (22 + 2 * 5), q (21 + 2 * 6), q (22 + 2 * 6), oa] (fun _ => rfl) rfl (by rw [hR]; decide) ⟨hn1, hn2⟩ rfl (Nat.le_of_ble_eq_true rfl) d_law_617 (fun r9 _ hr9 => ?_)
      subst hr9
      dsimp only [wput, LW, List.set]
      exact kk
    · refine g_callSh (pc := 617) X (w_c_D_same (m_l M) B da q 5 7 (C.n 5) (C.n 7) (C.f 5) (C.f 7) oa ot (by omega) (by omega) (by omega) (by omega)) wd_579 wd_580 wd_0 wd_581 hd_L_same [0, 1, 32, 33, 36, 37, 65] rfl rfl [da, q 0, q (21 + 2 * 5), q (22 + 2 * 5), q (21 + 2 * 7), q (22 + 2 * 7), oa] (fun _ => rfl) rfl (by rw [hR]; decide) ⟨hn1, hn2⟩ rfl (Nat.le_of_ble_eq_true rfl) d_law_617 (fun r9 _ hr9 => ?_)
      subst hr9
      dsimp only [wput, LW, List.set]
      exact kk
  · rcases (show j = 0 ∨ j = 1 ∨ j = 2 ∨ j = 3 ∨ j = 4 ∨ j = 5 ∨ j = 7 from by omega) with e9 | e9 | e9 | e9 | e9 | e9 | e9 <;> subst e9
    · refine g_callSh (pc := 617) X (w_c_D_same (m_l M) B da q 6 0 (C.n 6) (C.n 0) (C.f 6) (C.f 0) oa ot (by omega) (by omega) (by omega) (by omega)) wd_579 wd_580 wd_0 wd_581 hd_L_same [0, 1, 34, 35, 22, 23, 65] rfl rfl [da, q 0, q (21 + 2 * 6), q (22 + 2 * 6), q (21 + 2 * 0), q (22 + 2 * 0), oa] (fun _ => rfl) rfl (by rw [hR]; decide) ⟨hn1, hn2⟩ rfl (Nat.le_of_ble_eq_true rfl) d_law_617 (fun r9 _ hr9 => ?_)
      subst hr9
      dsimp only [wput, LW, List.set]
      exact kk
    · refine g_callSh (pc := 617) X (w_c_D_same (m_l M) B da q 6 1 (C.n 6) (C.n 1) (C.f 6) (C.f 1) oa ot (by omega) (by omega) (by omega) (by omega)) wd_579 wd_580 wd_0 wd_581 hd_L_same [0, 1, 34, 35, 24, 25, 65] rfl rfl [da, q 0, q (21 + 2 * 6), q (22 + 2 * 6), q (21 + 2 * 1), q (22 + 2 * 1), oa] (fun _ => rfl) rfl (by rw [hR]; decide) ⟨hn1, hn2⟩ rfl (Nat.le_of_ble_eq_true rfl) d_law_617 (fun r9 _ hr9 => ?_)
      subst hr9
      dsimp only [wput, LW, List.set]
      exact kk
    · refine g_callSh (pc := 617) X (w_c_D_same (m_l M) B da q 6 2 (C.n 6) (C.n 2) (C.f 6) (C.f 2) oa ot (by omega) (by omega) (by omega) (by omega)) wd_579 wd_580 wd_0 wd_581 hd_L_same [0, 1, 34, 35, 26, 27, 65] rfl rfl [da, q 0, q (21 + 2 * 6), q (22 + 2 * 6), q (21 + 2 * 2), q (22 + 2 * 2), oa] (fun _ => rfl) rfl (by rw [hR]; decide) ⟨hn1, hn2⟩ rfl (Nat.le_of_ble_eq_true rfl) d_law_617 (fun r9 _ hr9 => ?_)
      subst hr9
      dsimp only [wput, LW, List.set]
      exact kk
    · refine g_callSh (pc := 617) X (w_c_D_same (m_l M) B da q 6 3 (C.n 6) (C.n 3) (C.f 6) (C.f 3) oa ot (by omega) (by omega) (by omega) (by omega)) wd_579 wd_580 wd_0 wd_581 hd_L_same [0, 1, 34, 35, 28, 29, 65] rfl rfl [da, q 0, q (21 + 2 * 6), q (22 + 2 * 6), q (21 + 2 * 3), q (22 + 2 * 3), oa] (fun _ => rfl) rfl (by rw [hR]; decide) ⟨hn1, hn2⟩ rfl (Nat.le_of_ble_eq_true rfl) d_law_617 (fun r9 _ hr9 => ?_)
      subst hr9
      dsimp only [wput, LW, List.set]
      exact kk
    · refine g_callSh (pc := 617) X (w_c_D_same (m_l M) B da q 6 4 (C.n 6) (C.n 4) (C.f 6) (C.f 4) oa ot (by omega) (by omega) (by omega) (by omega)) wd_579 wd_580 wd_0 wd_581 hd_L_same [0, 1, 34, 35, 30, 31, 65] rfl rfl [da, q 0, q (21 + 2 * 6), q (22 + 2 * 6), q (21 + 2 * 4), q (22 + 2 * 4), oa] (fun _ => rfl) rfl (by rw [hR]; decide) ⟨hn1, hn2⟩ rfl (Nat.le_of_ble_eq_true rfl) d_law_617 (fun r9 _ hr9 => ?_)
      subst hr9
      dsimp only [wput, LW, List.set]
      exact kk
    · refine g_callSh (pc := 617) X (w_c_D_same (m_l M) B da q 6 5 (C.n 6) (C.n 5) (C.f 6) (C.f 5) oa ot (by omega) (by omega) (by omega) (by omega)) wd_579 wd_580 wd_0 wd_581 hd_L_same [0, 1, 34, 35, 32, 33, 65] rfl rfl [da, q 0, q (21 + 2 * 6), q (22 + 2 * 6), q (21 + 2 * 5), q (22 + 2 * 5), oa] (fun _ => rfl) rfl (by rw [hR]; decide) ⟨hn1, hn2⟩ rfl (Nat.le_of_ble_eq_true rfl) d_law_617 (fun r9 _ hr9 => ?_)
      subst hr9
      dsimp only [wput, LW, List.set]
      exact kk
    · refine g_callSh (pc := 617) X (w_c_D_same (m_l M) B da q 6 7 (C.n 6) (C.n 7) (C.f 6) (C.f 7) oa ot (by omega) (by omega) (by omega) (by omega)) wd_579 wd_580 wd_0 wd_581 hd_L_same [0, 1, 34, 35, 36, 37, 65] rfl rfl [da, q 0, q (21 + 2 * 6), q (22 + 2 * 6), q (21 + 2 * 7), q (22 + 2 * 7), oa] (fun _ => rfl) rfl (by rw [hR]; decide) ⟨hn1, hn2⟩ rfl (Nat.le_of_ble_eq_true rfl) d_law_617 (fun r9 _ hr9 => ?_)
      subst hr9
      dsimp only [wput, LW, List.set]
      exact kk
  · rcases (show j = 0 ∨ j = 1 ∨ j = 2 ∨ j = 3 ∨ j = 4 ∨ j = 5 ∨ j = 6 from by omega) with e9 | e9 | e9 | e9 | e9 | e9 | e9 <;> subst e9
    · refine g_callSh (pc := 617) X (w_c_D_same (m_l M) B da q 7 0 (C.n 7) (C.n 0) (C.f 7) (C.f 0) oa ot (by omega) (by omega) (by omega) (by omega)) wd_579 wd_580 wd_0 wd_581 hd_L_same [0, 1, 36, 37, 22, 23, 65] rfl rfl [da, q 0, q (21 + 2 * 7), q (22 + 2 * 7), q (21 + 2 * 0), q (22 + 2 * 0), oa] (fun _ => rfl) rfl (by rw [hR]; decide) ⟨hn1, hn2⟩ rfl (Nat.le_of_ble_eq_true rfl) d_law_617 (fun r9 _ hr9 => ?_)
      subst hr9
      dsimp only [wput, LW, List.set]
      exact kk
    · refine g_callSh (pc := 617) X (w_c_D_same (m_l M) B da q 7 1 (C.n 7) (C.n 1) (C.f 7) (C.f 1) oa ot (by omega) (by omega) (by omega) (by omega)) wd_579 wd_580 wd_0 wd_581 hd_L_same [0, 1, 36, 37, 24, 25, 65] rfl rfl [da, q 0, q (21 + 2 * 7), q (22 + 2 * 7), q (21 + 2 * 1), q (22 + 2 * 1), oa] (fun _ => rfl) rfl (by rw [hR]; decide) ⟨hn1, hn2⟩ rfl (Nat.le_of_ble_eq_true rfl) d_law_617 (fun r9 _ hr9 => ?_)
      subst hr9
      dsimp only [wput, LW, List.set]
      exact kk
    · refine g_callSh (pc := 617) X (w_c_D_same (m_l M) B da q 7 2 (C.n 7) (C.n 2) (C.f 7) (C.f 2) oa ot (by omega) (by omega) (by omega) (by omega)) wd_579 wd_580 wd_0 wd_581 hd_L_same [0, 1, 36, 37, 26, 27, 65] rfl rfl [da, q 0, q (21 + 2 * 7), q (22 + 2 * 7), q (21 + 2 * 2), q (22 + 2 * 2), oa] (fun _ => rfl) rfl (by rw [hR]; decide) ⟨hn1, hn2⟩ rfl (Nat.le_of_ble_eq_true rfl) d_law_617 (fun r9 _ hr9 => ?_)
      subst hr9
      dsimp only [wput, LW, List.set]
      exact kk
    · refine g_callSh (pc := 617) X (w_c_D_same (m_l M) B da q 7 3 (C.n 7) (C.n 3) (C.f 7) (C.f 3) oa ot (by omega) (by omega) (by omega) (by omega)) wd_579 wd_580 wd_0 wd_581 hd_L_same [0, 1, 36, 37, 28, 29, 65] rfl rfl [da, q 0, q (21 + 2 * 7), q (22 + 2 * 7), q (21 + 2 * 3), q (22 + 2 * 3), oa] (fun _ => rfl) rfl (by rw [hR]; decide) ⟨hn1, hn2⟩ rfl (Nat.le_of_ble_eq_true rfl) d_law_617 (fun r9 _ hr9 => ?_)
      subst hr9
      dsimp only [wput, LW, List.set]
      exact kk
    · refine g_callSh (pc := 617) X (w_c_D_same (m_l M) B da q 7 4 (C.n 7) (C.n 4) (C.f 7) (C.f 4) oa ot (by omega) (by omega) (by omega) (by omega)) wd_579 wd_580 wd_0 wd_581 hd_L_same [0, 1, 36, 37, 30, 31, 65] rfl rfl [da, q 0, q (21 + 2 * 7), q (22 + 2 * 7), q (21 + 2 * 4), q (22 + 2 * 4), oa] (fun _ => rfl) rfl (by rw [hR]; decide) ⟨hn1, hn2⟩ rfl (Nat.le_of_ble_eq_true rfl) d_law_617 (fun r9 _ hr9 => ?_)
      subst hr9
      dsimp only [wput, LW, List.set]
      exact kk
    · refine g_callSh (pc := 617) X (w_c_D_same (m_l M) B da q 7 5 (C.n 7) (C.n 5) (C.f 7) (C.f 5) oa ot (by omega) (by omega) (by omega) (by omega)) wd_579 wd_580 wd_0 wd_581 hd_L_same [0, 1, 36, 37, 32, 33, 65] rfl rfl [da, q 0, q (21 + 2 * 7), q (22 + 2 * 7), q (21 + 2 * 5), q (22 + 2 * 5), oa] (fun _ => rfl) rfl (by rw [hR]; decide) ⟨hn1, hn2⟩ rfl (Nat.le_of_ble_eq_true rfl) d_law_617 (fun r9 _ hr9 => ?_)
      subst hr9
      dsimp only [wput, LW, List.set]
      exact kk
    · refine g_callSh (pc := 617) X (w_c_D_same (m_l M) B da q 7 6 (C.n 7) (C.n 6) (C.f 7) (C.f 6) oa ot (by omega) (by omega) (by omega) (by omega)) wd_579 wd_580 wd_0 wd_581 hd_L_same [0, 1, 36, 37, 34, 35, 65] rfl rfl [da, q 0, q (21 + 2 * 7), q (22 + 2 * 7), q (21 + 2 * 6), q (22 + 2 * 6), oa] (fun _ => rfl) rfl (by rw [hR]; decide) ⟨hn1, hn2⟩ rfl (Nat.le_of_ble_eq_true rfl) d_law_617 (fun r9 _ hr9 => ?_)
      subst hr9
      dsimp only [wput, LW, List.set]
      exact kk

theorem kC_sames {B : Bx} {M : Mx} {Q : State → Prop} (X : CX B M code 8 "SpongeDigestsLaw") (hR : m_R M = room_1) (da a oa : Nat) (q r : Nat → Nat) (C : CS) (R : RS) (ot : Nat → Int64) (i : Nat) (h1 : i < 8) (h3 : C.n i ≤ 8192) : CallS B M Q 617 [.ref oa, .int (nI i), .int (nI i), .ref da] (LW B da a oa q r C R ot) (LW B da a oa q r C R (va_up ot 0 (if mtC (C.f i) (C.f i) (C.n i) (C.n i) = 0 then (0 : Int64) else 1))) (.int (nI 0)) 0 0 := by
  intro n1 n2 lv hn1 hn2 kk
  rcases (show i = 0 ∨ i = 1 ∨ i = 2 ∨ i = 3 ∨ i = 4 ∨ i = 5 ∨ i = 6 ∨ i = 7 from by omega) with e9 | e9 | e9 | e9 | e9 | e9 | e9 | e9 <;> subst e9
  · refine g_callSh (pc := 617) X (w_c_D_same_self (m_l M) B da q 0 (C.n 0) (C.f 0) oa ot (by omega) (by omega)) wd_579 wd_580 wd_0 wd_581 hd_L_same [0, 1, 22, 23, 65] rfl rfl [da, q 0, q (21 + 2 * 0), q (22 + 2 * 0), oa] (fun _ => rfl) rfl (by rw [hR]; decide) ⟨hn1, hn2⟩ rfl (Nat.le_of_ble_eq_true rfl) d_law_617 (fun r9 _ hr9 => ?_)
    subst hr9
    dsimp only [wput, LW, List.set]
    exact kk
  · refine g_callSh (pc := 617) X (w_c_D_same_self (m_l M) B da q 1 (C.n 1) (C.f 1) oa ot (by omega) (by omega)) wd_579 wd_580 wd_0 wd_581 hd_L_same [0, 1, 24, 25, 65] rfl rfl [da, q 0, q (21 + 2 * 1), q (22 + 2 * 1), oa] (fun _ => rfl) rfl (by rw [hR]; decide) ⟨hn1, hn2⟩ rfl (Nat.le_of_ble_eq_true rfl) d_law_617 (fun r9 _ hr9 => ?_)
    subst hr9
    dsimp only [wput, LW, List.set]
    exact kk
  · refine g_callSh (pc := 617) X (w_c_D_same_self (m_l M) B da q 2 (C.n 2) (C.f 2) oa ot (by omega) (by omega)) wd_579 wd_580 wd_0 wd_581 hd_L_same [0, 1, 26, 27, 65] rfl rfl [da, q 0, q (21 + 2 * 2), q (22 + 2 * 2), oa] (fun _ => rfl) rfl (by rw [hR]; decide) ⟨hn1, hn2⟩ rfl (Nat.le_of_ble_eq_true rfl) d_law_617 (fun r9 _ hr9 => ?_)
    subst hr9
    dsimp only [wput, LW, List.set]
    exact kk
  · refine g_callSh (pc := 617) X (w_c_D_same_self (m_l M) B da q 3 (C.n 3) (C.f 3) oa ot (by omega) (by omega)) wd_579 wd_580 wd_0 wd_581 hd_L_same [0, 1, 28, 29, 65] rfl rfl [da, q 0, q (21 + 2 * 3), q (22 + 2 * 3), oa] (fun _ => rfl) rfl (by rw [hR]; decide) ⟨hn1, hn2⟩ rfl (Nat.le_of_ble_eq_true rfl) d_law_617 (fun r9 _ hr9 => ?_)
    subst hr9
    dsimp only [wput, LW, List.set]
    exact kk
  · refine g_callSh (pc := 617) X (w_c_D_same_self (m_l M) B da q 4 (C.n 4) (C.f 4) oa ot (by omega) (by omega)) wd_579 wd_580 wd_0 wd_581 hd_L_same [0, 1, 30, 31, 65] rfl rfl [da, q 0, q (21 + 2 * 4), q (22 + 2 * 4), oa] (fun _ => rfl) rfl (by rw [hR]; decide) ⟨hn1, hn2⟩ rfl (Nat.le_of_ble_eq_true rfl) d_law_617 (fun r9 _ hr9 => ?_)
    subst hr9
    dsimp only [wput, LW, List.set]
    exact kk
  · refine g_callSh (pc := 617) X (w_c_D_same_self (m_l M) B da q 5 (C.n 5) (C.f 5) oa ot (by omega) (by omega)) wd_579 wd_580 wd_0 wd_581 hd_L_same [0, 1, 32, 33, 65] rfl rfl [da, q 0, q (21 + 2 * 5), q (22 + 2 * 5), oa] (fun _ => rfl) rfl (by rw [hR]; decide) ⟨hn1, hn2⟩ rfl (Nat.le_of_ble_eq_true rfl) d_law_617 (fun r9 _ hr9 => ?_)
    subst hr9
    dsimp only [wput, LW, List.set]
    exact kk
  · refine g_callSh (pc := 617) X (w_c_D_same_self (m_l M) B da q 6 (C.n 6) (C.f 6) oa ot (by omega) (by omega)) wd_579 wd_580 wd_0 wd_581 hd_L_same [0, 1, 34, 35, 65] rfl rfl [da, q 0, q (21 + 2 * 6), q (22 + 2 * 6), oa] (fun _ => rfl) rfl (by rw [hR]; decide) ⟨hn1, hn2⟩ rfl (Nat.le_of_ble_eq_true rfl) d_law_617 (fun r9 _ hr9 => ?_)
    subst hr9
    dsimp only [wput, LW, List.set]
    exact kk
  · refine g_callSh (pc := 617) X (w_c_D_same_self (m_l M) B da q 7 (C.n 7) (C.f 7) oa ot (by omega) (by omega)) wd_579 wd_580 wd_0 wd_581 hd_L_same [0, 1, 36, 37, 65] rfl rfl [da, q 0, q (21 + 2 * 7), q (22 + 2 * 7), oa] (fun _ => rfl) rfl (by rw [hR]; decide) ⟨hn1, hn2⟩ rfl (Nat.le_of_ble_eq_true rfl) d_law_617 (fun r9 _ hr9 => ?_)
    subst hr9
    dsimp only [wput, LW, List.set]
    exact kk

theorem kC_same1 {B : Bx} {M : Mx} {Q : State → Prop} (X : CX B M code 8 "SpongeDigestsLaw") (hR : m_R M = room_1) (da a oa : Nat) (q r : Nat → Nat) (C : CS) (R : RS) (ot : Nat → Int64) (x y : Int32) (hst : (m_l M).stackTraces = false) (h : inR x (nI 0) (nI 7) = nI 0) : CallS B M Q 617 [.ref oa, .int y, .int x, .ref da] (LW B da a oa q r C R ot) (LW B da a oa q r C R ot) (.int (nI 1)) 1 6 := by
  intro n1 n2 lv hn1 hn2 kk
  refine g_callSh (pc := 617) X (w_x_D_same_1 (m_l M) B da q x y oa ot hst h) wd_579 wd_580 wd_0 wd_581 hd_L_same [0, 1, 65] rfl rfl [da, q 0, oa] (fun _ => rfl) rfl (by rw [hR]; decide) ⟨hn1, hn2⟩ rfl (Nat.le_of_ble_eq_true rfl) d_law_617 (fun r9 _ hr9 => ?_)
  subst hr9
  dsimp only [wput, LW, List.set]
  exact kk

theorem kC_same2 {B : Bx} {M : Mx} {Q : State → Prop} (X : CX B M code 8 "SpongeDigestsLaw") (hR : m_R M = room_1) (da a oa : Nat) (q r : Nat → Nat) (C : CS) (R : RS) (ot : Nat → Int64) (i : Nat) (x : Int32) (hst : (m_l M).stackTraces = false) (h1 : i < 8) (h : inR x (nI 0) (nI 7) = nI 0) : CallS B M Q 617 [.ref oa, .int x, .int (nI i), .ref da] (LW B da a oa q r C R ot) (LW B da a oa q r C R ot) (.int (nI 1)) 1 6 := by
  intro n1 n2 lv hn1 hn2 kk
  refine g_callSh (pc := 617) X (w_x_D_same_2 (m_l M) B da q i x oa ot hst (by omega) h) wd_579 wd_580 wd_0 wd_581 hd_L_same [0, 1, 65] rfl rfl [da, q 0, oa] (fun _ => rfl) rfl (by rw [hR]; decide) ⟨hn1, hn2⟩ rfl (Nat.le_of_ble_eq_true rfl) d_law_617 (fun r9 _ hr9 => ?_)
  subst hr9
  dsimp only [wput, LW, List.set]
  exact kk
