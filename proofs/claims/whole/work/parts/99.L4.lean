theorem kR_feed {B : Bx} {M : Mx} {Q : State → Prop} (X : CX B M code 8 "SpongeDigestsLaw") (hR : m_R M = room_1) (da a oa : Nat) (q r : Nat → Nat) (C : CS) (R : RS) (ot : Nat → Int64) (x0 x1 x2 x3 x4 : Int32) (h1 : R.tp + 20 ≤ 8192) : CallS B M Q 160 [.int x4, .int x3, .int x2, .int x1, .int x0, .ref a] (LW B da a oa q r C R ot) (LW B da a oa q r C ((R.tp + 20, nI 0, R.kd, R.rt, R.fl, R.tt, wr4 (wr4 (wr4 (wr4 (wr4 R.fo R.tp x0) (R.tp + 4) x1) (R.tp + 8) x2) (R.tp + 12) x3) (R.tp + 16) x4, R.ln, R.g, R.ro, R.K, R.s2, R.s5, R.lm, R.pd, R.T, R.rn, R.S, R.o, R.c, R.w, R.bk, R.hk, R.nf) : RS) ot) (.int (nI (R.tp + 20))) 0 0 := by
  intro n1 n2 lv hn1 hn2 kk
  refine g_callVi (pc := 160) (q0 := 38) X (c_O_feed_ok (m_l M) B a r R.tp R.kd R.rt R.fl R.tt R.cd x0 x1 x2 x3 x4 R.fo (by omega)) wd_897 wd_898 wd_899 wd_5 wd_900 hd_O_feed [38, 39] rfl rfl [a, r 0] (fun _ => rfl) rfl rfl rfl (by rw [hR]; decide) ⟨hn1, hn2⟩ rfl (Nat.le_of_ble_eq_true rfl) d_law_160 (fun r9 _ hr9 => ?_)
  subst hr9
  dsimp only [wput, LW, List.set]
  exact kk

theorem kR_feedx {B : Bx} {M : Mx} {Q : State → Prop} (X : CX B M code 8 "SpongeDigestsLaw") (hR : m_R M = room_1) (da a oa : Nat) (q r : Nat → Nat) (C : CS) (R : RS) (ot : Nat → Int64) (x0 x1 x2 x3 x4 : Int32) (h1 : 8192 < R.tp + 20) (h2 : R.tp ≤ 8192) : CallS B M Q 160 [.int x4, .int x3, .int x2, .int x1, .int x0, .ref a] (LW B da a oa q r C R ot) (LW B da a oa q r C ((R.tp, nI 1, R.kd, R.rt, R.fl, R.tt, R.fo, R.ln, R.g, R.ro, R.K, R.s2, R.s5, R.lm, R.pd, R.T, R.rn, R.S, R.o, R.c, R.w, R.bk, R.hk, R.nf) : RS) ot) (.int (nI 0)) 0 0 := by
  intro n1 n2 lv hn1 hn2 kk
  refine g_callVi (pc := 160) (q0 := 38) X (c_O_feed_bad (m_l M) B a r R.tp R.kd R.rt R.fl R.tt R.cd x0 x1 x2 x3 x4 (by omega) (by omega)) wd_897 wd_898 wd_899 wd_5 wd_900 hd_O_feed [38] rfl rfl [a] (fun _ => rfl) rfl rfl rfl (by rw [hR]; decide) ⟨hn1, hn2⟩ rfl (Nat.le_of_ble_eq_true rfl) d_law_160 (fun r9 _ hr9 => ?_)
  subst hr9
  dsimp only [wput, LW, List.set]
  exact kk

theorem kR_end {B : Bx} {M : Mx} {Q : State → Prop} (X : CX B M code 8 "SpongeDigestsLaw") (hR : m_R M = room_1) (da a oa : Nat) (q r : Nat → Nat) (C : CS) (R : RS) (ot : Nat → Int64) (i n : Nat) (h1 : i < 8) (h2 : n ≤ 8192) (h3 : n ≤ R.tp) (h4 : R.tp ≤ 8192) : CallS B M Q 228 [.int (nI n), .int (nI i), .ref a] (LW B da a oa q r C R ot) (LW B da a oa q r C ((0, nI 0, R.kd, R.rt, R.fl, R.tt, R.fo, va_up R.ln i n, va_up R.g i (va_cpy R.fo (R.g i) 0 0 n), R.ro, R.K, R.s2, R.s5, R.lm, R.pd, R.T, R.rn, R.S, R.o, R.c, R.w, R.bk, R.hk, R.nf) : RS) ot) (.int (nI n)) 0 0 := by
  intro n1 n2 lv hn1 hn2 kk
  rcases (show i = 0 ∨ i = 1 ∨ i = 2 ∨ i = 3 ∨ i = 4 ∨ i = 5 ∨ i = 6 ∨ i = 7 from by omega) with e9 | e9 | e9 | e9 | e9 | e9 | e9 | e9 <;> subst e9
  · refine g_callVi (pc := 228) (q0 := 38) X (c_O_end_ok (m_l M) B a r R.tp R.kd R.rt R.fl R.tt R.cd R.ln 0 n R.fo (R.g 0) (by omega) (by omega) (by omega) (by omega)) wd_909 wd_910 wd_911 wd_5 wd_912 hd_O_end [38, 39, 40, 57, 41] rfl rfl [a, r 0, r 1, r (20 + 0), r 2] (fun _ => rfl) rfl rfl rfl (by rw [hR]; decide) ⟨hn1, hn2⟩ rfl (Nat.le_of_ble_eq_true rfl) d_law_228 (fun r9 _ hr9 => ?_)
    subst hr9
    dsimp only [wput, LW, List.set]
    exact kk
  · refine g_callVi (pc := 228) (q0 := 38) X (c_O_end_ok (m_l M) B a r R.tp R.kd R.rt R.fl R.tt R.cd R.ln 1 n R.fo (R.g 1) (by omega) (by omega) (by omega) (by omega)) wd_909 wd_910 wd_911 wd_5 wd_912 hd_O_end [38, 39, 40, 58, 41] rfl rfl [a, r 0, r 1, r (20 + 1), r 2] (fun _ => rfl) rfl rfl rfl (by rw [hR]; decide) ⟨hn1, hn2⟩ rfl (Nat.le_of_ble_eq_true rfl) d_law_228 (fun r9 _ hr9 => ?_)
    subst hr9
    dsimp only [wput, LW, List.set]
    exact kk
  · refine g_callVi (pc := 228) (q0 := 38) X (c_O_end_ok (m_l M) B a r R.tp R.kd R.rt R.fl R.tt R.cd R.ln 2 n R.fo (R.g 2) (by omega) (by omega) (by omega) (by omega)) wd_909 wd_910 wd_911 wd_5 wd_912 hd_O_end [38, 39, 40, 59, 41] rfl rfl [a, r 0, r 1, r (20 + 2), r 2] (fun _ => rfl) rfl rfl rfl (by rw [hR]; decide) ⟨hn1, hn2⟩ rfl (Nat.le_of_ble_eq_true rfl) d_law_228 (fun r9 _ hr9 => ?_)
    subst hr9
    dsimp only [wput, LW, List.set]
    exact kk
  · refine g_callVi (pc := 228) (q0 := 38) X (c_O_end_ok (m_l M) B a r R.tp R.kd R.rt R.fl R.tt R.cd R.ln 3 n R.fo (R.g 3) (by omega) (by omega) (by omega) (by omega)) wd_909 wd_910 wd_911 wd_5 wd_912 hd_O_end [38, 39, 40, 60, 41] rfl rfl [a, r 0, r 1, r (20 + 3), r 2] (fun _ => rfl) rfl rfl rfl (by rw [hR]; decide) ⟨hn1, hn2⟩ rfl (Nat.le_of_ble_eq_true rfl) d_law_228 (fun r9 _ hr9 => ?_)
    subst hr9
    dsimp only [wput, LW, List.set]
    exact kk
  · refine g_callVi (pc := 228) (q0 := 38) X (c_O_end_ok (m_l M) B a r R.tp R.kd R.rt R.fl R.tt R.cd R.ln 4 n R.fo (R.g 4) (by omega) (by omega) (by omega) (by omega)) wd_909 wd_910 wd_911 wd_5 wd_912 hd_O_end [38, 39, 40, 61, 41] rfl rfl [a, r 0, r 1, r (20 + 4), r 2] (fun _ => rfl) rfl rfl rfl (by rw [hR]; decide) ⟨hn1, hn2⟩ rfl (Nat.le_of_ble_eq_true rfl) d_law_228 (fun r9 _ hr9 => ?_)
    subst hr9
    dsimp only [wput, LW, List.set]
    exact kk
  · refine g_callVi (pc := 228) (q0 := 38) X (c_O_end_ok (m_l M) B a r R.tp R.kd R.rt R.fl R.tt R.cd R.ln 5 n R.fo (R.g 5) (by omega) (by omega) (by omega) (by omega)) wd_909 wd_910 wd_911 wd_5 wd_912 hd_O_end [38, 39, 40, 62, 41] rfl rfl [a, r 0, r 1, r (20 + 5), r 2] (fun _ => rfl) rfl rfl rfl (by rw [hR]; decide) ⟨hn1, hn2⟩ rfl (Nat.le_of_ble_eq_true rfl) d_law_228 (fun r9 _ hr9 => ?_)
    subst hr9
    dsimp only [wput, LW, List.set]
    exact kk
  · refine g_callVi (pc := 228) (q0 := 38) X (c_O_end_ok (m_l M) B a r R.tp R.kd R.rt R.fl R.tt R.cd R.ln 6 n R.fo (R.g 6) (by omega) (by omega) (by omega) (by omega)) wd_909 wd_910 wd_911 wd_5 wd_912 hd_O_end [38, 39, 40, 63, 41] rfl rfl [a, r 0, r 1, r (20 + 6), r 2] (fun _ => rfl) rfl rfl rfl (by rw [hR]; decide) ⟨hn1, hn2⟩ rfl (Nat.le_of_ble_eq_true rfl) d_law_228 (fun r9 _ hr9 => ?_)
    subst hr9
    dsimp only [wput, LW, List.set]
    exact kk
  · refine g_callVi (pc := 228) (q0 := 38) X (c_O_end_ok (m_l M) B a r R.tp R.kd R.rt R.fl R.tt R.cd R.ln 7 n R.fo (R.g 7) (by omega) (by omega) (by omega) (by omega)) wd_909 wd_910 wd_911 wd_5 wd_912 hd_O_end [38, 39, 40, 64, 41] rfl rfl [a, r 0, r 1, r (20 + 7), r 2] (fun _ => rfl) rfl rfl rfl (by rw [hR]; decide) ⟨hn1, hn2⟩ rfl (Nat.le_of_ble_eq_true rfl) d_law_228 (fun r9 _ hr9 => ?_)
    subst hr9
    dsimp only [wput, LW, List.set]
    exact kk

theorem kR_end1 {B : Bx} {M : Mx} {Q : State → Prop} (X : CX B M code 8 "SpongeDigestsLaw") (hR : m_R M = room_1) (da a oa : Nat) (q r : Nat → Nat) (C : CS) (R : RS) (ot : Nat → Int64) (x y : Int32) (h1 : inR x (nI 0) (nI 7) = nI 0) : CallS B M Q 228 [.int y, .int x, .ref a] (LW B da a oa q r C R ot) (LW B da a oa q r C ((R.tp, nI 1, R.kd, R.rt, R.fl, R.tt, R.fo, R.ln, R.g, R.ro, R.K, R.s2, R.s5, R.lm, R.pd, R.T, R.rn, R.S, R.o, R.c, R.w, R.bk, R.hk, R.nf) : RS) ot) (.int (nI 0)) 0 0 := by
  intro n1 n2 lv hn1 hn2 kk
  refine g_callVi (pc := 228) (q0 := 38) X (c_O_end_b1 (m_l M) B a r R.tp R.kd R.rt R.fl R.tt R.cd x y h1) wd_909 wd_910 wd_911 wd_5 wd_912 hd_O_end [38] rfl rfl [a] (fun _ => rfl) rfl rfl rfl (by rw [hR]; decide) ⟨hn1, hn2⟩ rfl (Nat.le_of_ble_eq_true rfl) d_law_228 (fun r9 _ hr9 => ?_)
  subst hr9
  dsimp only [wput, LW, List.set]
  exact kk

theorem kR_end2 {B : Bx} {M : Mx} {Q : State → Prop} (X : CX B M code 8 "SpongeDigestsLaw") (hR : m_R M = room_1) (da a oa : Nat) (q r : Nat → Nat) (C : CS) (R : RS) (ot : Nat → Int64) (x y : Int32) (h1 : inR x (nI 0) (nI 7) = nI 1) (h2 : inR y (nI 0) (nI 8192) = nI 0) : CallS B M Q 228 [.int y, .int x, .ref a] (LW B da a oa q r C R ot) (LW B da a oa q r C ((R.tp, nI 1, R.kd, R.rt, R.fl, R.tt, R.fo, R.ln, R.g, R.ro, R.K, R.s2, R.s5, R.lm, R.pd, R.T, R.rn, R.S, R.o, R.c, R.w, R.bk, R.hk, R.nf) : RS) ot) (.int (nI 0)) 0 0 := by
  intro n1 n2 lv hn1 hn2 kk
  refine g_callVi (pc := 228) (q0 := 38) X (c_O_end_b2 (m_l M) B a r R.tp R.kd R.rt R.fl R.tt R.cd x y h1 h2) wd_909 wd_910 wd_911 wd_5 wd_912 hd_O_end [38] rfl rfl [a] (fun _ => rfl) rfl rfl rfl (by rw [hR]; decide) ⟨hn1, hn2⟩ rfl (Nat.le_of_ble_eq_true rfl) d_law_228 (fun r9 _ hr9 => ?_)
  subst hr9
  dsimp only [wput, LW, List.set]
  exact kk

theorem kR_end3 {B : Bx} {M : Mx} {Q : State → Prop} (X : CX B M code 8 "SpongeDigestsLaw") (hR : m_R M = room_1) (da a oa : Nat) (q r : Nat → Nat) (C : CS) (R : RS) (ot : Nat → Int64) (x : Int32) (n : Nat) (h1 : inR x (nI 0) (nI 7) = nI 1) (h2 : n ≤ 8192) (h3 : R.tp < n) : CallS B M Q 228 [.int (nI n), .int x, .ref a] (LW B da a oa q r C R ot) (LW B da a oa q r C ((R.tp, nI 2, R.kd, R.rt, R.fl, R.tt, R.fo, R.ln, R.g, R.ro, R.K, R.s2, R.s5, R.lm, R.pd, R.T, R.rn, R.S, R.o, R.c, R.w, R.bk, R.hk, R.nf) : RS) ot) (.int (nI 0)) 0 0 := by
  intro n1 n2 lv hn1 hn2 kk
  refine g_callVi (pc := 228) (q0 := 38) X (c_O_end_b3 (m_l M) B a r R.tp R.kd R.rt R.fl R.tt R.cd x n h1 (by omega) (by omega)) wd_909 wd_910 wd_911 wd_5 wd_912 hd_O_end [38] rfl rfl [a] (fun _ => rfl) rfl rfl rfl (by rw [hR]; decide) ⟨hn1, hn2⟩ rfl (Nat.le_of_ble_eq_true rfl) d_law_228 (fun r9 _ hr9 => ?_)
  subst hr9
  dsimp only [wput, LW, List.set]
  exact kk

theorem kR_copy {B : Bx} {M : Mx} {Q : State → Prop} (X : CX B M code 8 "SpongeDigestsLaw") (hR : m_R M = room_1) (da a oa : Nat) (q r : Nat → Nat) (C : CS) (R : RS) (ot : Nat → Int64) (i j : Nat) (h1 : i < 8) (h2 : j < 8) (hne : i ≠ j) (h3 : R.ln i ≤ 8192) : CallS B M Q 296 [.int (nI j), .int (nI i), .ref a] (LW B da a oa q r C R ot) (LW B da a oa q r C ((R.tp, nI 0, R.kd, R.rt, R.fl, R.tt, R.fo, va_up R.ln j (R.ln i), va_up R.g j (va_cpy (R.g i) (R.g j) 0 0 (R.ln i)), R.ro, R.K, R.s2, R.s5, R.lm, R.pd, R.T, R.rn, R.S, R.o, R.c, R.w, R.bk, R.hk, R.nf) : RS) ot) (.int (nI (R.ln i))) 0 0 := by
  intro n1 n2 lv hn1 hn2 kk
  rcases (show i = 0 ∨ i = 1 ∨ i = 2 ∨ i = 3 ∨ i = 4 ∨ i = 5 ∨ i = 6 ∨ i = 7 from by omega) with e9 | e9 | e9 | e9 | e9 | e9 | e9 | e9 <;> subst e9
  · rcases (show j = 1 ∨ j = 2 ∨ j = 3 ∨ j = 4 ∨ j = 5 ∨ j = 6 ∨ j = 7 from by omega) with e9 | e9 | e9 | e9 | e9 | e9 | e9 <;> subst e9
    · refine g_callVi (pc := 296) (q0 := 38) X (c_O_copy_ok (m_l M) B a r R.tp R.kd R.rt R.fl R.tt R.cd R.ln 0 1 (R.g 0) (R.g 1) (by omega) (by omega) (by omega)) wd_916 wd_917 wd_918 wd_5 wd_919 hd_O_copy [38, 40, 57, 58, 41] rfl rfl [a, r 1, r (20 + 0), r (20 + 1), r 2] (fun _ => rfl) rfl rfl rfl (by rw [hR]; decide) ⟨hn1, hn2⟩ rfl (Nat.le_of_ble_eq_true rfl) d_law_296 (fun r9 _ hr9 => ?_)
      subst hr9
      dsimp only [wput, LW, List.set]
      exact kk
    · refine g_callVi (pc := 296) (q0 := 38) X (c_O_copy_ok (m_l M) B a r R.tp R.kd R.rt R.fl R.tt R.cd R.ln 0 2 (R.g 0) (R.g 2) (by omega) (by omega) (by omega)) wd_916 wd_917 wd_918 wd_5 wd_919 hd_O_copy [38, 40, 57, 59, 41] rfl rfl [a, r 1, r (20 + 0), r (20 + 2), r 2] (fun _ => rfl) rfl rfl rfl (by rw [hR]; decide) ⟨hn1, hn2⟩ rfl (Nat.le_of_ble_eq_true rfl) d_law_296 (fun r9 _ hr9 => ?_)
      subst hr9
      dsimp only [wput, LW, List.set]
      exact kk
    · refine g_callVi (pc := 296) (q0 := 38) X (c_O_copy_ok (m_l M) B a r R.tp R.kd R.rt R.fl R.tt R.cd R.ln 0 3 (R.g 0) (R.g 3) (by omega) (by omega) (by omega)) wd_916 wd_917 wd_918 wd_5 wd_919 hd_O_copy [38, 40, 57, 60, 41] rfl rfl [a, r 1, r (20 + 0), r (20 + 3), r 2] (fun _ => rfl) rfl rfl rfl (by rw [hR]; decide) ⟨hn1, hn2⟩ rfl (Nat.le_of_ble_eq_true rfl) d_law_296 (fun r9 _ hr9 => ?_)
      subst hr9
      dsimp only [wput, LW, List.set]
      exact kk
    · refine g_callVi (pc := 296) (q0 := 38) X (c_O_copy_ok (m_l M) B a r R.tp R.kd R.rt R.fl R.tt R.cd R.ln 0 4 (R.g 0) (R.g 4) (by omega) (by omega) (by omega)) wd_916 wd_917 wd_918 wd_5 wd_919 hd_O_copy [38, 40, 57, 61, 41] rfl rfl [a, r 1, r (20 + 0), r (20 + 4), r 2] (fun _ => rfl) rfl rfl rfl (by rw [hR]; decide) ⟨hn1, hn2⟩ rfl (Nat.le_of_ble_eq_true rfl) d_law_296 (fun r9 _ hr9 => ?_)
      subst hr9
      dsimp only [wput, LW, List.set]
      exact kk
    · refine g_callVi (pc := 296) (q0 := 38) X (c_O_copy_ok (m_l M) B a r R.tp R.kd R.rt R.fl R.tt R.cd R.ln 0 5 (R.g 0) (R.g 5) (by omega) (by omega) (by omega)) wd_916 wd_917 wd_918 wd_5 wd_919 hd_O_copy [38, 40, 57, 62, 41] rfl rfl [a, r 1, r (20 + 0), r (20 + 5), r 2] (fun _ => rfl) rfl rfl rfl (by rw [hR]; decide) ⟨hn1, hn2⟩ rfl (Nat.le_of_ble_eq_true rfl) d_law_296 (fun r9 _ hr9 => ?_)
      subst hr9
      dsimp only [wput, LW, List.set]
      exact kk
    · refine g_callVi (pc := 296) (q0 := 38) X (c_O_copy_ok (m_l M) B a r R.tp R.kd R.rt R.fl R.tt R.cd R.ln 0 6 (R.g 0) (R.g 6) (by omega) (by omega) (by omega)) wd_916 wd_917 wd_918 wd_5 wd_919 hd_O_copy [38, 40, 57, 63, 41] rfl rfl [a, r 1, r (20 + 0), r (20 + 6), r 2] (fun _ => rfl) rfl rfl rfl (by rw [hR]; decide) ⟨hn1, hn2⟩ rfl (Nat.le_of_ble_eq_true rfl) d_law_296 (fun r9 _ hr9 => ?_)
      subst hr9
      dsimp only [wput, LW, List.set]
      exact kk
    · refine g_callVi (pc := 296) (q0 := 38) X (c_O_copy_ok (m_l M) B a r R.tp R.kd R.rt R.fl R.tt R.cd R.ln 0 7 (R.g 0) (R.g 7) (by omega) (by omega) (by omega)) wd_916 wd_917 wd_918 wd_5 wd_919 hd_O_copy [38, 40, 57, 64, 41] rfl rfl [a, r 1, r (20 + 0), r (20 + 7), r 2] (fun _ => rfl) rfl rfl rfl (by rw [hR]; decide) ⟨hn1, hn2⟩ rfl (Nat.le_of_ble_eq_true rfl) d_law_296 (fun r9 _ hr9 => ?_)
      subst hr9
      dsimp only [wput, LW, List.set]
      exact kk
  · rcases (show j = 0 ∨ j = 2 ∨ j = 3 ∨ j = 4 ∨ j = 5 ∨ j = 6 ∨ j = 7 from by omega) with e9 | e9 | e9 | e9 | e9 | e9 | e9 <;> subst e9
    · refine g_callVi (pc := 296) (q0 := 38) X (c_O_copy_ok (m_l M) B a r R.tp R.kd R.rt R.fl R.tt R.cd R.ln 1 0 (R.g 1) (R.g 0) (by omega) (by omega) (by omega)) wd_916 wd_917 wd_918 wd_5 wd_919 hd_O_copy [38, 40, 58, 57, 41] rfl rfl [a, r 1, r (20 + 1), r (20 + 0), r 2] (fun _ => rfl) rfl rfl rfl (by rw [hR]; decide) ⟨hn1, hn2⟩ rfl (Nat.le_of_ble_eq_true rfl) d_law_296 (fun r9 _ hr9 => ?_)
      subst hr9
      dsimp only [wput, LW, List.set]
      exact kk
    · refine g_callVi (pc := 296) (q0 := 38) X (c_O_copy_ok (m_l M) B a r R.tp R.kd R.rt R.fl R.tt R.cd R.ln 1 2 (R.g 1) (R.g 2) (by omega) (by omega) (by omega)) wd_916 wd_917 wd_918 wd_5 wd_919 hd_O_copy [38, 40, 58, 59, 41] rfl rfl [a, r 1, r (20 + 1), r (20 + 2), r 2] (fun _ => rfl) rfl rfl rfl (by rw [hR]; decide) ⟨hn1, hn2⟩ rfl (Nat.le_of_ble_eq_true rfl) d_law_296 (fun r9 _ hr9 => ?_)
      subst hr9
      dsimp only [wput, LW, List.set]
      exact kk
    · refine g_callVi (pc := 296) (q0 := 38) X (c_O_copy_ok (m_l M) B a r R.tp R.kd R.rt R.fl R.tt R.cd R.ln 1 3 (R.g 1) (R.g 3) (by omega) (by omega) (by omega)) wd_916 wd_917 wd_918 wd_5 wd_919 hd_O_copy [38, 40, 58, 60, 41] rfl rfl [a, r 1, r (20 + 1), r (20 + 3), r 2] (fun _ => rfl) rfl rfl rfl (by rw [hR]; decide) ⟨hn1, hn2⟩ rfl (Nat.le_of_ble_eq_true rfl) d_law_296 (fun r9 _ hr9 => ?_)
      subst hr9
      dsimp only [wput, LW, List.set]
      exact kk
    · refine g_callVi (pc := 296) (q0 := 38) X (c_O_copy_ok (m_l M) B a r R.tp R.kd R.rt R.fl R.tt R.cd R.ln 1 4 (R.g 1) (R.g 4) (by omega) (by omega) (by omega)) wd_916 wd_917 wd_918 wd_5 wd_919 hd_O_copy [38, 40, 58, 61, 41] rfl rfl [a, r 1, r (20 + 1), r (20 + 4), r 2] (fun _ => rfl) rfl rfl rfl (by rw [hR]; decide) ⟨hn1, hn2⟩ rfl (Nat.le_of_ble_eq_true rfl) d_law_296 (fun r9 _ hr9 => ?_)
      subst hr9
      dsimp only [wput, LW, List.set]
      exact kk
    · refine g_callVi (pc := 296) (q0 := 38) X (c_O_copy_ok (m_l M) B a r R.tp R.kd R.rt R.fl R.tt R.cd R.ln 1 5 (R.g 1) (R.g 5) (by omega) (by omega) (by omega)) wd_916 wd_917 wd_918 wd_5 wd_919 hd_O_copy [38, 40, 58, 62, 41] rfl rfl [a, r 1, r (20 + 1), r (20 + 5), r 2] (fun _ => rfl) rfl rfl rfl (by rw [hR]; decide) ⟨hn1, hn2⟩ rfl (Nat.le_of_ble_eq_true rfl) d_law_296 (fun r9 _ hr9 => ?_)
      subst hr9
      dsimp only [wput, LW, List.set]
      exact kk
    · refine g_callVi (pc := 296) (q0 := 38) X (c_O_copy_ok (m_l M) B a r R.tp R.kd R.rt R.fl R.tt R.cd R.ln 1 6 (R.g 1) (R.g 6) (by omega) (by omega) (by omega)) wd_916 wd_917 wd_918 wd_5 wd_919 hd_O_copy [38, 40, 58, 63, 41] rfl rfl [a, r 1, r (20 + 1), r (20 + 6), r 2] (fun _ => rfl) rfl rfl rfl (by rw [hR]; decide) ⟨hn1, hn2⟩ rfl (Nat.le_of_ble_eq_true rfl) d_law_296 (fun r9 _ hr9 => ?_)
      subst hr9
      dsimp only [wput, LW, List.set]
      exact kk
    · refine g_callVi (pc := 296) (q0 := 38) X (c_O_copy_ok (m_l M) B a r R.tp R.kd R.rt R.fl R.tt R.cd R.ln 1 7 (R.g 1) (R.g 7) (by omega) (by omega) (by omega)) wd_916 wd_917 wd_918 wd_5 wd_919 hd_O_copy [38, 40, 58, 64, 41] rfl rfl [a, r 1, r (20 + 1), r (20 + 7), r 2] (fun _ => rfl) rfl rfl rfl (by rw [hR]; decide) ⟨hn1, hn2⟩ rfl (Nat.le_of_ble_eq_true rfl) d_law_296 (fun r9 _ hr9 => ?_)
      subst hr9
      dsimp only [wput, LW, List.set]
      exact kk
  · rcases (show j = 0 ∨ j = 1 ∨ j = 3 ∨ j = 4 ∨ j = 5 ∨ j = 6 ∨ j = 7 from by omega) with e9 | e9 | e9 | e9 | e9 | e9 | e9 <;> subst e9
    · refine g_callVi (pc := 296) (q0 := 38) X (c_O_copy_ok (m_l M) B a r R.tp R.kd R.rt R.fl R.tt R.cd R.ln 2 0 (R.g 2) (R.g 0) (by omega) (by omega) (by omega)) wd_916 wd_917 wd_918 wd_5 wd_919 hd_O_copy [38, 40, 59, 57, 41] rfl rfl [a, r 1, r (20 + 2), r (20 + 0), r 2] (fun _ => rfl) rfl rfl rfl (by rw [hR]; decide) ⟨hn1, hn2⟩ rfl (Nat.le_of_ble_eq_true rfl) d_law_296 (fun r9 _ hr9 => ?_)
      subst hr9
      dsimp only [wput, LW, List.set]
      exact kk
    · refine g_callVi (pc := 296) (q0 := 38) X (c_O_copy_ok (m_l M) B a r R.tp R.kd R.rt R.fl R.tt R.cd R.ln 2 1 (R.g 2) (R.g 1) (by omega) (by omega) (by omega)) wd_916 wd_917 wd_918 wd_5 wd_919 hd_O_copy [38, 40, 59, 58, 41] rfl rfl [a, r 1, r (20 + 2), r (20 + 1), r 2] (fun _ => rfl) rfl rfl rfl (by rw [hR]; decide) ⟨hn1, hn2⟩ rfl (Nat.le_of_ble_eq_true rfl) d_law_296 (fun r9 _ hr9 => ?_)
      subst hr9
      dsimp only [wput, LW, List.set]
      exact kk
    · refine g_callVi (pc := 296) (q0 := 38) X (c_O_copy_ok (m_l M) B a r R.tp R.kd R.rt R.fl R.tt R.cd R.ln 2 3 (R.g 2) (R.g 3) (by omega) (by omega) (by omega)) wd_916 wd_917 wd_918 wd_5 wd_919 hd_O_copy [38, 40, 59, 60, 41] rfl rfl [a, r 1, r (20 + 2), r (20 + 3), r 2] (fun _ => rfl) rfl rfl rfl (by rw [hR]; decide) ⟨hn1, hn2⟩ rfl (Nat.le_of_ble_eq_true rfl) d_law_296 (fun r9 _ hr9 => ?_)
      subst hr9
      dsimp only [wput, LW, List.set]
      exact kk
    · refine g_callVi (pc := 296) (q0 := 38) X (c_O_copy_ok (m_l M) B a r R.tp R.kd R.rt R.fl R.tt R.cd R.ln 2 4 (R.g 2) (R.g 4) (by omega) (by omega) (by omega)) wd_916 wd_917 wd_918 wd_5 wd_919 hd_O_copy [38, 40, 59, 61, 41] rfl rfl [a, r 1, r (20 + 2), r (20 + 4), r 2] (fun _ => rfl) rfl rfl rfl (by rw [hR]; decide) ⟨hn1, hn2⟩ rfl (Nat.le_of_ble_eq_true rfl) d_law_296 (fun r9 _ hr9 => ?_)
      subst hr9
      dsimp only [wput, LW, List.set]
      exact kk
    · refine g_callVi (pc := 296) (q0 := 38) X (c_O_copy_ok (m_l M) B a r R.tp R.kd R.rt R.fl R.tt R.cd R.ln 2 5 (R.g 2) (R.g 5) (by omega) (by omega) (by omega)) wd_916 wd_917 wd_918 wd_5 wd_919 hd_O_copy [38, 40, 59, 62, 41] rfl rfl [a, r 1, r (20 + 2), r (20 + 5), r 2] (fun _ => rfl) rfl rfl rfl (by rw [hR]; decide) ⟨hn1, hn2⟩ rfl (Nat.le_of_ble_eq_true rfl) d_law_296 (fun r9 _ hr9 => ?_)
      subst hr9
      dsimp only [wput, LW, List.set]
      exact kk
    · refine g_callVi (pc := 296) (q0 := 38) X (c_O_copy_ok (m_l M) B a r R.tp R.kd R.rt R.fl R.tt R.cd R.ln 2 6 (R.g 2) (R.g 6) (by omega) (by omega) (by omega)) wd_916 wd_917 wd_918 wd_5 wd_919 hd_O_copy [38, 40, 59, 63, 41] rfl rfl [a, r 1, r (20 + 2), r (20 + 6), r 2] (fun _ => rfl) rfl rfl rfl (by rw [hR]; decide) ⟨hn1, hn2⟩ rfl (Nat.le_of_ble_eq_true rfl) d_law_296 (fun r9 _ hr9 => ?_)
      subst hr9
      dsimp only [wput, LW, List.set]
      exact kk
    · refine g_callVi (pc := 296) (q0 := 38) X (c_O_copy_ok (m_l M) B a r R.tp R.kd R.rt R.fl R.tt R.cd R.ln 2 7 (R.g 2) (R.g 7) (by omega) (by omega) (by omega)) wd_916 wd_917 wd_918 wd_5 wd_919 hd_O_copy [38, 40, 59, 64, 41] rfl rfl [a, r 1, r (20 + 2), r (20 + 7), r 2] (fun _ => rfl) rfl rfl rfl (by rw [hR]; decide) ⟨hn1, hn2⟩ rfl (Nat.le_of_ble_eq_true rfl) d_law_296 (fun r9 _ hr9 => ?_)
      subst hr9
      dsimp only [wput, LW, List.set]
      exact kk
  · rcases (show j = 0 ∨ j = 1 ∨ j = 2 ∨ j = 4 ∨ j = 5 ∨ j = 6 ∨ j = 7 from by omega) with e9 | e9 | e9 | e9 | e9 | e9 | e9 <;> subst e9
    · refine g_callVi (pc := 296) (q0 := 38) X (c_O_copy_ok (m_l M) B a r R.tp R.kd R.rt R.fl R.tt R.cd R.ln 3 0 (R.g 3) (R.g 0) (by omega) (by omega) (by omega)) wd_916 wd_917 wd_918 wd_5 wd_919 hd_O_copy [38, 40, 60, 57, 41] rfl rfl [a, r 1, r (20 + 3), r (20 + 0), r 2] (fun _ => rfl) rfl rfl rfl (by rw [hR]; decide) ⟨hn1, hn2⟩ rfl (Nat.le_of_ble_eq_true rfl) d_law_296 (fun r9 _ hr9 => ?_)
      subst hr9
      dsimp only [wput, LW, List.set]
      exact kk
    · refine g_callVi (pc := 296) (q0 := 38) X (c_O_copy_ok (m_l M) B a r R.tp R.kd R.rt R.fl R.tt R.cd R.ln 3 1 (R.g 3) (R.g 1) (by omega) (by omega) (by omega)) wd_916 wd_917 wd_918 wd_5 wd_919 hd_O_copy [38, 40, 60, 58, 41] rfl rfl [a, r 1, r (20 + 3), r (20 + 1), r 2] (fun _ => rfl) rfl rfl rfl (by rw [hR]; decide) ⟨hn1, hn2⟩ rfl (Nat.le_of_ble_eq_true rfl) d_law_296 (fun r9 _ hr9 => ?_)
      subst hr9
      dsimp only [wput, LW, List.set]
      exact kk
    · refine g_callVi (pc := 296) (q0 := 38) X (c_O_copy_ok (m_l M) B a r R.tp R.kd R.rt R.fl R.tt R.cd R.ln 3 2 (R.g 3) (R.g 2) (by omega) (by omega) (by omega)) wd_916 wd_917 wd_918 wd_5 wd_919 hd_O_copy [38, 40, 60, 59, 41] rfl rfl [a, r 1, r (20 + 3), r (20 + 2), r 2] (fun _ => rfl) rfl rfl rfl (by rw [hR]; decide) ⟨hn1, hn2⟩ rfl (Nat.le_of_ble_eq_true rfl) d_law_296 (fun r9 _ hr9 => ?_)
      subst hr9
      dsimp only [wput, LW, List.set]
      exact kk
    · refine g_callVi (pc := 296) (q0 := 38) X (c_O_copy_ok (m_l M) B a r R.tp R.kd R.rt R.fl R.tt R.cd R.ln 3 4 (R.g 3) (R.g 4) (by omega) (by omega) (by omega)) wd_916 wd_917 wd_918 wd_5 wd_919 hd_O_copy [38, 40, 60, 61, 41] rfl rfl [a, r 1, r (20 + 3), r (20 + 4), r 2] (fun _ => rfl) rfl rfl rfl (by rw [hR]; decide) ⟨hn1, hn2⟩ rfl (Nat.le_of_ble_eq_true rfl) d_law_296 (fun r9 _ hr9 => ?_)
      subst hr9
      dsimp only [wput, LW, List.set]
      exact kk
    · refine g_callVi (pc := 296) (q0 := 38) X (c_O_copy_ok (m_l M) B a r R.tp R.kd R.rt R.fl R.tt R.cd R.ln 3 5 (R.g 3) (R.g 5) (by omega) (by omega) (by omega)) wd_916 wd_917 wd_918 wd_5 wd_919 hd_O_copy [38, 40, 60, 62, 41] rfl rfl [a, r 1, r (20 + 3), r (20 + 5), r 2] (fun _ => rfl) rfl rfl rfl (by rw [hR]; decide) ⟨hn1, hn2⟩ rfl (Nat.le_of_ble_eq_true rfl) d_law_296 (fun r9 _ hr9 => ?_)
      subst hr9
      dsimp only [wput, LW, List.set]
      exact kk
    · refine g_callVi (pc := 296) (q0 := 38) X (c_O_copy_ok (m_l M) B a r R.tp R.kd R.rt R.fl R.tt R.cd R.ln 3 6 (R.g 3) (R.g 6) (by omega) (by omega) (by omega)) wd_916 wd_917 wd_918 wd_5 wd_919 hd_O_copy [38, 40, 60, 63, 41] rfl rfl [a, r 1, r (20 + 3), r (20 + 6), r 2] (fun _ => rfl) rfl rfl rfl (by rw [hR]; decide) ⟨hn1, hn2⟩ rfl (Nat.le_of_ble_eq_true rfl) d_law_296 (fun r9 _ hr9 => ?_)
      subst hr9
      dsimp only [wput, LW, List.set]
      exact kk
    · refine g_callVi (pc := 296) (q0 := 38) X (c_O_copy_ok (m_l M) B a r R.tp R.kd R.rt R.fl R.tt R.cd R.ln 3 7 (R.g 3) (R.g 7) (by omega) (by omega) (by omega)) wd_916 wd_917 wd_918 wd_5 wd_919 hd_O_copy [38, 40, 60, 64, 41] rfl rfl [a, r 1, r (20 + 3), r (20 + 7), r 2] (fun _ => rfl) rfl rfl rfl (by rw [hR]; decide) ⟨hn1, hn2⟩ rfl (Nat.le_of_ble_eq_true rfl) d_law_296 (fun r9 _ hr9 => ?_)
      subst hr9
      dsimp only [wput, LW, List.set]
      exact kk
  · rcases (show j = 0 ∨ j = 1 ∨ j = 2 ∨ j = 3 ∨ j = 5 ∨ j = 6 ∨ j = 7 from by omega) with e9 | e9 | e9 | e9 | e9 | e9 | e9 <;> subst e9
    · refine g_callVi (pc := 296) (q0 := 38) X (c_O_copy_ok (m_l M) B a r R.tp R.kd R.rt R.fl R.tt R.cd R.ln 4 0 (R.g 4) (R.g 0) (by omega) (by omega) (by omega)) wd_916 wd_917 wd_918 wd_5 wd_919 hd_O_copy [38, 40, 61, 57, 41] rfl rfl [a, r 1, r (20 + 4), r (20 + 0), r 2] (fun _ => rfl) rfl rfl rfl (by rw [hR]; decide) ⟨hn1, hn2⟩ rfl (Nat.le_of_ble_eq_true rfl) d_law_296 (fun r9 _ hr9 => ?_)
      subst hr9
      dsimp only [wput, LW, List.set]
      exact kk
    · refine g_callVi (pc := 296) (q0 := 38) X (c_O_copy_ok (m_l M) B a r R.tp R.kd R.rt R.fl R.tt R.cd R.ln 4 1 (R.g 4) (R.g 1) (by omega) (by omega) (by omega)) wd_916 wd_917 wd_918 wd_5 wd_919 hd_O_copy [38, 40, 61, 58, 41] rfl rfl [a, r 1, r (20 + 4), r (20 + 1), r 2] (fun _ => rfl) rfl rfl rfl (by rw [hR]; decide) ⟨hn1, hn2⟩ rfl (Nat.le_of_ble_eq_true rfl) d_law_296 (fun r9 _ hr9 => ?_)
      subst hr9
      dsimp only [wput, LW, List.set]
      exact kk
    · refine g_callVi (pc := 296) (q0 := 38) X (c_O_copy_ok (m_l M) B a r R.tp R.kd R.rt R.fl R.tt R.cd R.ln 4 2 (R.g 4) (R.g 2) (by omega) (by omega) (by omega)) wd_916 wd_917 wd_918 wd_5 wd_919 hd_O_copy [38, 40, 61, 59, 41] rfl rfl [a, r 1, r (20 + 4), r (20 + 2), r 2] (fun _ => rfl) rfl rfl rfl (by rw [hR]; decide) ⟨hn1, hn2⟩ rfl (Nat.le_of_ble_eq_true rfl) d_law_296 (fun r9 _ hr9 => ?_)
      subst hr9
      dsimp only [wput, LW, List.set]
      exact kk
    · refine g_callVi (pc := 296) (q0 := 38) X (c_O_copy_ok (m_l M) B a r R.tp R.kd R.rt R.fl R.tt R.cd R.ln 4 3 (R.g 4) (R.g 3) (by omega) (by omega) (by omega)) wd_916 wd_917 wd_918 wd_5 wd_919 hd_O_copy [38, 40, 61, 60, 41] rfl rfl [a, r 1, r (20 + 4), r (20 + 3), r 2] (fun _ => rfl) rfl rfl rfl (by rw [hR]; decide) ⟨hn1, hn2⟩ rfl (Nat.le_of_ble_eq_true rfl) d_law_296 (fun r9 _ hr9 => ?_)
      subst hr9
      dsimp only [wput, LW, List.set]
      exact kk
    · refine g_callVi (pc := 296) (q0 := 38) X (c_O_copy_ok (m_l M) B a r R.tp R.kd R.rt R.fl R.tt R.cd R.ln 4 5 (R.g 4) (R.g 5) (by omega) (by omega) (by omega)) wd_916 wd_917 wd_918 wd_5 wd_919 hd_O_copy [38, 40, 61, 62, 41] rfl rfl [a, r 1, r (20 + 4), r (20 + 5), r 2] (fun _ => rfl) rfl rfl rfl (by rw [hR]; decide) ⟨hn1, hn2⟩ rfl (Nat.le_of_ble_eq_true rfl) d_law_296 (fun r9 _ hr9 => ?_)
      subst hr9
      dsimp only [wput, LW, List.set]
      exact kk
    · refine g_callVi (pc := 296) (q0 := 38) X (c_O_copy_ok (m_l M) B a r R.tp R.kd R.rt R.fl R.tt R.cd R.ln 4 6 (R.g 4) (R.g 6) (by omega) (by omega) (by omega)) wd_916 wd_917 wd_918 wd_5 wd_919 hd_O_copy [38, 40, 61, 63, 41] rfl rfl [a, r 1, r (20 + 4), r (20 + 6), r 2] (fun _ => rfl) rfl rfl rfl (by rw [hR]; decide) ⟨hn1, hn2⟩ rfl (Nat.le_of_ble_eq_true rfl) d_law_296 (fun r9 _ hr9 => ?_)
      subst hr9
      dsimp only [wput, LW, List.set]
      exact kk
    · refine g_callVi (pc := 296) (q0 := 38) X (c_O_copy_ok (m_l M) B a r R.tp R.kd R.rt R.fl R.tt R.cd R.ln 4 7 (R.g 4) (R.g 7) (by omega) (by omega) (by omega)) wd_916 wd_917 wd_918 wd_5 wd_919 hd_O_copy [38, 40, 61, 64, 41] rfl rfl [a, r 1, r (20 + 4), r (20 + 7), r 2] (fun _ => rfl) rfl rfl rfl (by rw [hR]; decide) ⟨hn1, hn2⟩ rfl (Nat.le_of_ble_eq_true rfl) d_law_296 (fun r9 _ hr9 => ?_)
      subst hr9
      dsimp only [wput, LW, List.set]
      exact kk
  · rcases (show j = 0 ∨ j = 1 ∨ j = 2 ∨ j = 3 ∨ j = 4 ∨ j = 6 ∨ j = 7 from by omega) with e9 | e9 | e9 | e9 | e9 | e9 | e9 <;> subst e9
    · refine g_callVi (pc := 296) (q0 := 38) X (c_O_copy_ok (m_l M) B a r R.tp R.kd R.rt R.fl R.tt R.cd R.ln 5 0 (R.g 5) (R.g 0) (by omega) (by omega) (by omega)) wd_916 wd_917 wd_918 wd_5 wd_919 hd_O_copy [38, 40, 62, 57, 41] rfl rfl [a, r 1, r (20 + 5), r (20 + 0), r 2] (fun _ => rfl) rfl rfl rfl (by rw [hR]; decide) ⟨hn1, hn2⟩ rfl (Nat.le_of_ble_eq_true rfl) d_law_296 (fun r9 _ hr9 => ?_)
      subst hr9
      dsimp only [wput, LW, List.set]
      exact kk
    · refine g_callVi (pc := 296) (q0 := 38) X (c_O_copy_ok (m_l M) B a r R.tp R.kd R.rt R.fl R.tt R.cd R.ln 5 1 (R.g 5) (R.g 1) (by omega) (by omega) (by omega)) wd_916 wd_917 wd_918 wd_5 wd_919 hd_O_copy [38, 40, 62, 58, 41] rfl rfl [a, r 1, r (20 + 5), r (20 + 1), r 2] (fun _ => rfl) rfl rfl rfl (by rw [hR]; decide) ⟨hn1, hn2⟩ rfl (Nat.le_of_ble_eq_true rfl) d_law_296 (fun r9 _ hr9 => ?_)
      subst hr9
      dsimp only [wput, LW, List.set]
      exact kk
    · refine g_callVi (pc := 296) (q0 := 38) X (c_O_copy_ok (m_l M) B a r R.tp R.kd R.rt R.fl R.tt R.cd R.ln 5 2 (R.g 5) (R.g 2) (by omega) (by omega) (by omega)) wd_916 wd_917 wd_918 wd_5 wd_919 hd_O_copy [38, 40, 62, 59, 41] rfl rfl [a, r 1, r (20 + 5), r (20 + 2), r 2] (fun _ => rfl) rfl rfl rfl (by rw [hR]; decide) ⟨hn1, hn2⟩ rfl (Nat.le_of_ble_eq_true rfl) d_law_296 (fun r9 _ hr9 => ?_)
      subst hr9
      dsimp only [wput, LW, List.set]
      exact kk
    · refine g_callVi (pc := 296) (q0 := 38) X (c_O_copy_ok (m_l M) B a r R.tp R.kd R.rt R.fl R.tt R.cd R.ln 5 3 (R.g 5) (R.g 3) (by omega) (by omega) (by omega)) wd_916 wd_917 wd_918 wd_5 wd_919 hd_O_copy [38, 40, 62, 60, 41] rfl rfl [a, r 1, r (20 + 5), r (20 + 3), r 2] (fun _ => rfl) rfl rfl rfl (by rw [hR]; decide) ⟨hn1, hn2⟩ rfl (Nat.le_of_ble_eq_true rfl) d_law_296 (fun r9 _ hr9 => ?_)
      subst hr9
      dsimp only [wput, LW, List.set]
      exact kk
    · refine g_callVi (pc := 296) (q0 := 38) X (c_O_copy_ok (m_l M) B a r R.tp R.kd R.rt R.fl R.tt R.cd R.ln 5 4 (R.g 5) (R.g 4) (by omega) (by omega) (by omega)) wd_916 wd_917 wd_918 wd_5 wd_919 hd_O_copy [38, 40, 62, 61, 41] rfl rfl [a, r 1, r (20 + 5), r (20 + 4), r 2] (fun _ => rfl) rfl rfl rfl (by rw [hR]; decide) ⟨hn1, hn2⟩ rfl (Nat.le_of_ble_eq_true rfl) d_law_296 (fun r9 _ hr9 => ?_)
      subst hr9
      dsimp only [wput, LW, List.set]
      exact kk
    · refine g_callVi (pc := 296) (q0 := 38) X (c_O_copy_ok (m_l M) B a r R.tp R.kd R.rt R.fl R.tt R.cd R.ln 5 6 (R.g 5) (R.g 6) (by omega) (by omega) (by omega)) wd_916 wd_917 wd_918 wd_5 wd_919 hd_O_copy [38, 40, 62, 63, 41] rfl rfl [a, r 1, r (20 + 5), r (20 + 6), r 2] (fun _ => rfl) rfl rfl rfl (by rw [hR]; decide) ⟨hn1, hn2⟩ rfl (Nat.le_of_ble_eq_true rfl) d_law_296 (fun r9 _ hr9 => ?_)
      subst hr9
      dsimp only [wput, LW, List.set]
      exact kk
    · refine g_callVi (pc := 296) (q0 := 38) X (c_O_copy_ok (m_l M) B a r R.tp R.kd R.rt R.fl R.tt R.cd R.ln 5 7 (R.g 5) (R.g 7) (by omega) (by omega) (by omega)) wd_916 wd_917 wd_918 wd_5 wd_919 hd_O_copy [38, 40, 62, 64, 41] rfl rfl [a, r 1, r (20 + 5), r (20 + 7), r 2] (fun _ => rfl) rfl rfl rfl (by rw [hR]; decide) ⟨hn1, hn2⟩ rfl (Nat.le_of_ble_eq_true rfl) d_law_296 (fun r9 _ hr9 => ?_)
      subst hr9
      dsimp only [wput, LW, List.set]
      exact kk
  · rcases (show j = 0 ∨ j = 1 ∨ j = 2 ∨ j = 3 ∨ j = 4 ∨ j = 5 ∨ j = 7 from by omega) with e9 | e9 | e9 | e9 | e9 | e9 | e9 <;> subst e9
    · refine g_callVi (pc := 296) (q0 := 38) X (c_O_copy_ok (m_l M) B a r R.tp R.kd R.rt R.fl R.tt R.cd R.ln 6 0 (R.g 6) (R.g 0) (by omega) (by omega) (by omega)) wd_916 wd_917 wd_918 wd_5 wd_919 hd_O_copy [38, 40, 63, 57, 41] rfl rfl [a, r 1, r (20 + 6), r (20 + 0), r 2] (fun _ => rfl) rfl rfl rfl (by rw [hR]; decide) ⟨hn1, hn2⟩ rfl (Nat.le_of_ble_eq_true rfl) d_law_296 (fun r9 _ hr9 => ?_)
      subst hr9
      dsimp only [wput, LW, List.set]
      exact kk
    · refine g_callVi (pc := 296) (q0 := 38) X (c_O_copy_ok (m_l M) B a r R.tp R.kd R.rt R.fl R.tt R.cd R.ln 6 1 (R.g 6) (R.g 1) (by omega) (by omega) (by omega)) wd_916 wd_917 wd_918 wd_5 wd_919 hd_O_copy [38, 40, 63, 58, 41] rfl rfl [a, r 1, r (20 + 6), r (20 + 1), r 2] (fun _ => rfl) rfl rfl rfl (by rw [hR]; decide) ⟨hn1, hn2⟩ rfl (Nat.le_of_ble_eq_true rfl) d_law_296 (fun r9 _ hr9 => ?_)
      subst hr9
      dsimp only [wput, LW, List.set]
      exact kk
    · refine g_callVi (pc := 296) (q0 := 38) X (c_O_copy_ok (m_l M) B a r R.tp R.kd R.rt R.fl R.tt R.cd R.ln 6 2 (R.g 6) (R.g 2) (by omega) (by omega) (by omega)) wd_916 wd_917 wd_918 wd_5 wd_919 hd_O_copy [38, 40, 63, 59, 41] rfl rfl [a, r 1, r (20 + 6), r (20 + 2), r 2] (fun _ => rfl) rfl rfl rfl (by rw [hR]; decide) ⟨hn1, hn2⟩ rfl (Nat.le_of_ble_eq_true rfl) d_law_296 (fun r9 _ hr9 => ?_)
      subst hr9
      dsimp only [wput, LW, List.set]
      exact kk
    · refine g_callVi (pc := 296) (q0 := 38) X (c_O_copy_ok (m_l M) B a r R.tp R.kd R.rt R.fl R.tt R.cd R.ln 6 3 (R.g 6) (R.g 3) (by omega) (by omega) (by omega)) wd_916 wd_917 wd_918 wd_5 wd_919 hd_O_copy [38, 40, 63, 60, 41] rfl rfl [a, r 1, r (20 + 6), r (20 + 3), r 2] (fun _ => rfl) rfl rfl rfl (by rw [hR]; decide) ⟨hn1, hn2⟩ rfl (Nat.le_of_ble_eq_true rfl) d_law_296 (fun r9 _ hr9 => ?_)
      subst hr9
      dsimp only [wput, LW, List.set]
      exact kk
    · refine g_callVi (pc := 296) (q0 := 38) X (c_O_copy_ok (m_l M) B a r R.tp R.kd R.rt R.fl R.tt R.cd R.ln 6 4 (R.g 6) (R.g 4) (by omega) (by omega) (by omega)) wd_916 wd_917 wd_918 wd_5 wd_919 hd_O_copy [38, 40, 63, 61, 41] rfl rfl [a, r 1, r (20 + 6), r (20 + 4), r 2] (fun _ => rfl) rfl rfl rfl (by rw [hR]; decide) ⟨hn1, hn2⟩ rfl (Nat.le_of_ble_eq_true rfl) d_law_296 (fun r9 _ hr9 => ?_)
      subst hr9
      dsimp only [wput, LW, List.set]
      exact kk
    · refine g_callVi (pc := 296) (q0 := 38) X (c_O_copy_ok (m_l M) B a r R.tp R.kd R.rt R.fl R.tt R.cd R.ln 6 5 (R.g 6) (R.g 5) (by omega) (by omega) (by omega)) wd_916 wd_917 wd_918 wd_5 wd_919 hd_O_copy [38, 40, 63, 62, 41] rfl rfl [a, r 1, r (20 + 6), r (20 + 5), r 2] (fun _ => rfl) rfl rfl rfl (by rw [hR]; decide) ⟨hn1, hn2⟩ rfl (Nat.le_of_ble_eq_true rfl) d_law_296 (fun r9 _ hr9 => ?_)
      subst hr9
      dsimp only [wput, LW, List.set]
      exact kk
    · refine g_callVi (pc := 296) (q0 := 38) X (c_O_copy_ok (m_l M) B a r R.tp R.kd R.rt R.fl R.tt R.cd R.ln 6 7 (R.g 6) (R.g 7) (by omega) (by omega) (by omega)) wd_916 wd_917 wd_918 wd_5 wd_919 hd_O_copy [38, 40, 63, 64, 41] rfl rfl [a, r 1, r (20 + 6), r (20 + 7), r 2] (fun _ => rfl) rfl rfl rfl (by rw [hR]; decide) ⟨hn1, hn2⟩ rfl (Nat.le_of_ble_eq_true rfl) d_law_296 (fun r9 _ hr9 => ?_)
      subst hr9
      dsimp only [wput, LW, List.set]
      exact kk
  · rcases (show j = 0 ∨ j = 1 ∨ j = 2 ∨ j = 3 ∨ j = 4 ∨ j = 5 ∨ j = 6 from by omega) with e9 | e9 | e9 | e9 | e9 | e9 | e9 <;> subst e9
    · refine g_callVi (pc := 296) (q0 := 38) X (c_O_copy_ok (m_l M) B a r R.tp R.kd R.rt R.fl R.tt R.cd R.ln 7 0 (R.g 7) (R.g 0) (by omega) (by omega) (by omega)) wd_916 wd_917 wd_918 wd_5 wd_919 hd_O_copy [38, 40, 64, 57, 41] rfl rfl [a, r 1, r (20 + 7), r (20 + 0), r 2] (fun _ => rfl) rfl rfl rfl (by rw [hR]; decide) ⟨hn1, hn2⟩ rfl (Nat.le_of_ble_eq_true rfl) d_law_296 (fun r9 _ hr9 => ?_)
      subst hr9
      dsimp only [wput, LW, List.set]
      exact kk
    · refine g_callVi (pc := 296) (q0 := 38) X (c_O_copy_ok (m_l M) B a r R.tp R.kd R.rt R.fl R.tt R.cd R.ln 7 1 (R.g 7) (R.g 1) (by omega) (by omega) (by omega)) wd_916 wd_917 wd_918 wd_5 wd_919 hd_O_copy [38, 40, 64, 58, 41] rfl rfl [a, r 1, r (20 + 7), r (20 + 1), r 2] (fun _ => rfl) rfl rfl rfl (by rw [hR]; decide) ⟨hn1, hn2⟩ rfl (Nat.le_of_ble_eq_true rfl) d_law_296 (fun r9 _ hr9 => ?_)
      subst hr9
      dsimp only [wput, LW, List.set]
      exact kk
    · refine g_callVi (pc := 296) (q0 := 38) X (c_O_copy_ok (m_l M) B a r R.tp R.kd R.rt R.fl R.tt R.cd R.ln 7 2 (R.g 7) (R.g 2) (by omega) (by omega) (by omega)) wd_916 wd_917 wd_918 wd_5 wd_919 hd_O_copy [38, 40, 64, 59, 41] rfl rfl [a, r 1, r (20 + 7), r (20 + 2), r 2] (fun _ => rfl) rfl rfl rfl (by rw [hR]; decide) ⟨hn1, hn2⟩ rfl (Nat.le_of_ble_eq_true rfl) d_law_296 (fun r9 _ hr9 => ?_)
      subst hr9
      dsimp only [wput, LW, List.set]
      exact kk
    · refine g_callVi (pc := 296) (q0 := 38) X (c_O_copy_ok (m_l M) B a r R.tp R.kd R.rt R.fl R.tt R.cd R.ln 7 3 (R.g 7) (R.g 3) (by omega) (by omega) (by omega)) wd_916 wd_917 wd_918 wd_5 wd_919 hd_O_copy [38, 40, 64, 60, 41] rfl rfl [a, r 1, r (20 + 7), r (20 + 3), r 2] (fun _ => rfl) rfl rfl rfl (by rw [hR]; decide) ⟨hn1, hn2⟩ rfl (Nat.le_of_ble_eq_true rfl) d_law_296 (fun r9 _ hr9 => ?_)
      subst hr9
      dsimp only [wput, LW, List.set]
      exact kk
    · refine g_callVi (pc := 296) (q0 := 38) X (c_O_copy_ok (m_l M) B a r R.tp R.kd R.rt R.fl R.tt R.cd R.ln 7 4 (R.g 7) (R.g 4) (by omega) (by omega) (by omega)) wd_916 wd_917 wd_918 wd_5 wd_919 hd_O_copy [38, 40, 64, 61, 41] rfl rfl [a, r 1, r (20 + 7), r (20 + 4), r 2] (fun _ => rfl) rfl rfl rfl (by rw [hR]; decide) ⟨hn1, hn2⟩ rfl (Nat.le_of_ble_eq_true rfl) d_law_296 (fun r9 _ hr9 => ?_)
      subst hr9
      dsimp only [wput, LW, List.set]
      exact kk
    · refine g_callVi (pc := 296) (q0 := 38) X (c_O_copy_ok (m_l M) B a r R.tp R.kd R.rt R.fl R.tt R.cd R.ln 7 5 (R.g 7) (R.g 5) (by omega) (by omega) (by omega)) wd_916 wd_917 wd_918 wd_5 wd_919 hd_O_copy [38, 40, 64, 62, 41] rfl rfl [a, r 1, r (20 + 7), r (20 + 5), r 2] (fun _ => rfl) rfl rfl rfl (by rw [hR]; decide) ⟨hn1, hn2⟩ rfl (Nat.le_of_ble_eq_true rfl) d_law_296 (fun r9 _ hr9 => ?_)
      subst hr9
      dsimp only [wput, LW, List.set]
      exact kk
    · refine g_callVi (pc := 296) (q0 := 38) X (c_O_copy_ok (m_l M) B a r R.tp R.kd R.rt R.fl R.tt R.cd R.ln 7 6 (R.g 7) (R.g 6) (by omega) (by omega) (by omega)) wd_916 wd_917 wd_918 wd_5 wd_919 hd_O_copy [38, 40, 64, 63, 41] rfl rfl [a, r 1, r (20 + 7), r (20 + 6), r 2] (fun _ => rfl) rfl rfl rfl (by rw [hR]; decide) ⟨hn1, hn2⟩ rfl (Nat.le_of_ble_eq_true rfl) d_law_296 (fun r9 _ hr9 => ?_)
      subst hr9
      dsimp only [wput, LW, List.set]
      exact kk

theorem kR_copys {B : Bx} {M : Mx} {Q : State → Prop} (X : CX B M code 8 "SpongeDigestsLaw") (hR : m_R M = room_1) (da a oa : Nat) (q r : Nat → Nat) (C : CS) (R : RS) (ot : Nat → Int64) (i : Nat) (h1 : i < 8) (h3 : R.ln i ≤ 8192) : CallS B M Q 296 [.int (nI i), .int (nI i), .ref a] (LW B da a oa q r C R ot) (LW B da a oa q r C ((R.tp, nI 0, R.kd, R.rt, R.fl, R.tt, R.fo, va_up R.ln i (R.ln i), R.g, R.ro, R.K, R.s2, R.s5, R.lm, R.pd, R.T, R.rn, R.S, R.o, R.c, R.w, R.bk, R.hk, R.nf) : RS) ot) (.int (nI (R.ln i))) 0 0 := by
  intro n1 n2 lv hn1 hn2 kk
  rcases (show i = 0 ∨ i = 1 ∨ i = 2 ∨ i = 3 ∨ i = 4 ∨ i = 5 ∨ i = 6 ∨ i = 7 from by omega) with e9 | e9 | e9 | e9 | e9 | e9 | e9 | e9 <;> subst e9
  · refine g_callVi (pc := 296) (q0 := 38) X (c_O_copy_self (m_l M) B a r R.tp R.kd R.rt R.fl R.tt R.cd R.ln 0 (R.g 0) (by omega) (by omega)) wd_916 wd_917 wd_918 wd_5 wd_919 hd_O_copy [38, 40, 57, 41] rfl rfl [a, r 1, r (20 + 0), r 2] (fun _ => rfl) rfl rfl rfl (by rw [hR]; decide) ⟨hn1, hn2⟩ rfl (Nat.le_of_ble_eq_true rfl) d_law_296 (fun r9 _ hr9 => ?_)
    subst hr9
    dsimp only [wput, LW, List.set]
    exact kk
  · refine g_callVi (pc := 296) (q0 := 38) X (c_O_copy_self (m_l M) B a r R.tp R.kd R.rt R.fl R.tt R.cd R.ln 1 (R.g 1) (by omega) (by omega)) wd_916 wd_917 wd_918 wd_5 wd_919 hd_O_copy [38, 40, 58, 41] rfl rfl [a, r 1, r (20 + 1), r 2] (fun _ => rfl) rfl rfl rfl (by rw [hR]; decide) ⟨hn1, hn2⟩ rfl (Nat.le_of_ble_eq_true rfl) d_law_296 (fun r9 _ hr9 => ?_)
    subst hr9
    dsimp only [wput, LW, List.set]
    exact kk
  · refine g_callVi (pc := 296) (q0 := 38) X (c_O_copy_self (m_l M) B a r R.tp R.kd R.rt R.fl R.tt R.cd R.ln 2 (R.g 2) (by omega) (by omega)) wd_916 wd_917 wd_918 wd_5 wd_919 hd_O_copy [38, 40, 59, 41] rfl rfl [a, r 1, r (20 + 2), r 2] (fun _ => rfl) rfl rfl rfl (by rw [hR]; decide) ⟨hn1, hn2⟩ rfl (Nat.le_of_ble_eq_true rfl) d_law_296 (fun r9 _ hr9 => ?_)
    subst hr9
    dsimp only [wput, LW, List.set]
    exact kk
  · refine g_callVi (pc := 296) (q0 := 38) X (c_O_copy_self (m_l M) B a r R.tp R.kd R.rt R.fl R.tt R.cd R.ln 3 (R.g 3) (by omega) (by omega)) wd_916 wd_917 wd_918 wd_5 wd_919 hd_O_copy [38, 40, 60, 41] rfl rfl [a, r 1, r (20 + 3), r 2] (fun _ => rfl) rfl rfl rfl (by rw [hR]; decide) ⟨hn1, hn2⟩ rfl (Nat.le_of_ble_eq_true rfl) d_law_296 (fun r9 _ hr9 => ?_)
    subst hr9
    dsimp only [wput, LW, List.set]
    exact kk
  · refine g_callVi (pc := 296) (q0 := 38) X (c_O_copy_self (m_l M) B a r R.tp R.kd R.rt R.fl R.tt R.cd R.ln 4 (R.g 4) (by omega) (by omega)) wd_916 wd_917 wd_918 wd_5 wd_919 hd_O_copy [38, 40, 61, 41] rfl rfl [a, r 1, r (20 + 4), r 2] (fun _ => rfl) rfl rfl rfl (by rw [hR]; decide) ⟨hn1, hn2⟩ rfl (Nat.le_of_ble_eq_true rfl) d_law_296 (fun r9 _ hr9 => ?_)
    subst hr9
    dsimp only [wput, LW, List.set]
    exact kk
  · refine g_callVi (pc := 296) (q0 := 38) X (c_O_copy_self (m_l M) B a r R.tp R.kd R.rt R.fl R.tt R.cd R.ln 5 (R.g 5) (by omega) (by omega)) wd_916 wd_917 wd_918 wd_5 wd_919 hd_O_copy [38, 40, 62, 41] rfl rfl [a, r 1, r (20 + 5), r 2] (fun _ => rfl) rfl rfl rfl (by rw [hR]; decide) ⟨hn1, hn2⟩ rfl (Nat.le_of_ble_eq_true rfl) d_law_296 (fun r9 _ hr9 => ?_)
    subst hr9
    dsimp only [wput, LW, List.set]
    exact kk
  · refine g_callVi (pc := 296) (q0 := 38) X (c_O_copy_self (m_l M) B a r R.tp R.kd R.rt R.fl R.tt R.cd R.ln 6 (R.g 6) (by omega) (by omega)) wd_916 wd_917 wd_918 wd_5 wd_919 hd_O_copy [38, 40, 63, 41] rfl rfl [a, r 1, r (20 + 6), r 2] (fun _ => rfl) rfl rfl rfl (by rw [hR]; decide) ⟨hn1, hn2⟩ rfl (Nat.le_of_ble_eq_true rfl) d_law_296 (fun r9 _ hr9 => ?_)
    subst hr9
    dsimp only [wput, LW, List.set]
    exact kk
  · refine g_callVi (pc := 296) (q0 := 38) X (c_O_copy_self (m_l M) B a r R.tp R.kd R.rt R.fl R.tt R.cd R.ln 7 (R.g 7) (by omega) (by omega)) wd_916 wd_917 wd_918 wd_5 wd_919 hd_O_copy [38, 40, 64, 41] rfl rfl [a, r 1, r (20 + 7), r 2] (fun _ => rfl) rfl rfl rfl (by rw [hR]; decide) ⟨hn1, hn2⟩ rfl (Nat.le_of_ble_eq_true rfl) d_law_296 (fun r9 _ hr9 => ?_)
    subst hr9
    dsimp only [wput, LW, List.set]
    exact kk

theorem kR_copy1 {B : Bx} {M : Mx} {Q : State → Prop} (X : CX B M code 8 "SpongeDigestsLaw") (hR : m_R M = room_1) (da a oa : Nat) (q r : Nat → Nat) (C : CS) (R : RS) (ot : Nat → Int64) (x y : Int32) (h1 : inR x (nI 0) (nI 7) = nI 0) : CallS B M Q 296 [.int y, .int x, .ref a] (LW B da a oa q r C R ot) (LW B da a oa q r C ((R.tp, nI 1, R.kd, R.rt, R.fl, R.tt, R.fo, R.ln, R.g, R.ro, R.K, R.s2, R.s5, R.lm, R.pd, R.T, R.rn, R.S, R.o, R.c, R.w, R.bk, R.hk, R.nf) : RS) ot) (.int (nI 0)) 0 0 := by
  intro n1 n2 lv hn1 hn2 kk
  refine g_callVi (pc := 296) (q0 := 38) X (c_O_copy_b1 (m_l M) B a r R.tp R.kd R.rt R.fl R.tt R.cd x y h1) wd_916 wd_917 wd_918 wd_5 wd_919 hd_O_copy [38] rfl rfl [a] (fun _ => rfl) rfl rfl rfl (by rw [hR]; decide) ⟨hn1, hn2⟩ rfl (Nat.le_of_ble_eq_true rfl) d_law_296 (fun r9 _ hr9 => ?_)
  subst hr9
  dsimp only [wput, LW, List.set]
  exact kk

theorem kR_copy2 {B : Bx} {M : Mx} {Q : State → Prop} (X : CX B M code 8 "SpongeDigestsLaw") (hR : m_R M = room_1) (da a oa : Nat) (q r : Nat → Nat) (C : CS) (R : RS) (ot : Nat → Int64) (x y : Int32) (h1 : inR x (nI 0) (nI 7) = nI 1) (h2 : inR y (nI 0) (nI 7) = nI 0) : CallS B M Q 296 [.int y, .int x, .ref a] (LW B da a oa q r C R ot) (LW B da a oa q r C ((R.tp, nI 1, R.kd, R.rt, R.fl, R.tt, R.fo, R.ln, R.g, R.ro, R.K, R.s2, R.s5, R.lm, R.pd, R.T, R.rn, R.S, R.o, R.c, R.w, R.bk, R.hk, R.nf) : RS) ot) (.int (nI 0)) 0 0 := by
  intro n1 n2 lv hn1 hn2 kk
  refine g_callVi (pc := 296) (q0 := 38) X (c_O_copy_b2 (m_l M) B a r R.tp R.kd R.rt R.fl R.tt R.cd x y h1 h2) wd_916 wd_917 wd_918 wd_5 wd_919 hd_O_copy [38] rfl rfl [a] (fun _ => rfl) rfl rfl rfl (by rw [hR]; decide) ⟨hn1, hn2⟩ rfl (Nat.le_of_ble_eq_true rfl) d_law_296 (fun r9 _ hr9 => ?_)
  subst hr9
  dsimp only [wput, LW, List.set]
  exact kk

theorem kR_resize {B : Bx} {M : Mx} {Q : State → Prop} (X : CX B M code 8 "SpongeDigestsLaw") (hR : m_R M = room_1) (da a oa : Nat) (q r : Nat → Nat) (C : CS) (R : RS) (ot : Nat → Int64) (i n : Nat) (h1 : i < 8) (h2 : n ≤ 8192) (h3 : R.ln i ≤ 8192) : CallS B M Q 364 [.int (nI n), .int (nI i), .ref a] (LW B da a oa q r C R ot) (LW B da a oa q r C ((R.tp, nI 0, R.kd, R.rt, R.fl, R.tt, R.fo, va_up R.ln i n, va_up R.g i (fil (R.g i) (R.ln i) n (nI 0).toInt8), R.ro, R.K, R.s2, R.s5, R.lm, R.pd, R.T, R.rn, R.S, R.o, R.c, R.w, R.bk, R.hk, R.nf) : RS) ot) (.int (nI (R.ln i))) 0 0 := by
  intro n1 n2 lv hn1 hn2 kk
  rcases (show i = 0 ∨ i = 1 ∨ i = 2 ∨ i = 3 ∨ i = 4 ∨ i = 5 ∨ i = 6 ∨ i = 7 from by omega) with e9 | e9 | e9 | e9 | e9 | e9 | e9 | e9 <;> subst e9
  · refine g_callVi (pc := 364) (q0 := 38) X (c_O_resize_ok (m_l M) B a r R.tp R.kd R.rt R.fl R.tt R.cd R.ln 0 n (R.g 0) (by omega) (by omega) (by omega)) wd_920 wd_921 wd_922 wd_5 wd_923 hd_O_resize [38, 40, 57, 41] rfl rfl [a, r 1, r (20 + 0), r 2] (fun _ => rfl) rfl rfl rfl (by rw [hR]; decide) ⟨hn1, hn2⟩ rfl (Nat.le_of_ble_eq_true rfl) d_law_364 (fun r9 _ hr9 => ?_)
    subst hr9
    dsimp only [wput, LW, List.set]
    exact kk
  · refine g_callVi (pc := 364) (q0 := 38) X (c_O_resize_ok (m_l M) B a r R.tp R.kd R.rt R.fl R.tt R.cd R.ln 1 n (R.g 1) (by omega) (by omega) (by omega)) wd_920 wd_921 wd_922 wd_5 wd_923 hd_O_resize [38, 40, 58, 41] rfl rfl [a, r 1, r (20 + 1), r 2] (fun _ => rfl) rfl rfl rfl (by rw [hR]; decide) ⟨hn1, hn2⟩ rfl (Nat.le_of_ble_eq_true rfl) d_law_364 (fun r9 _ hr9 => ?_)
    subst hr9
    dsimp only [wput, LW, List.set]
    exact kk
  · refine g_callVi (pc := 364) (q0 := 38) X (c_O_resize_ok (m_l M) B a r R.tp R.kd R.rt R.fl R.tt R.cd R.ln 2 n (R.g 2) (by omega) (by omega) (by omega)) wd_920 wd_921 wd_922 wd_5 wd_923 hd_O_resize [38, 40, 59, 41] rfl rfl [a, r 1, r (20 + 2), r 2] (fun _ => rfl) rfl rfl rfl (by rw [hR]; decide) ⟨hn1, hn2⟩ rfl (Nat.le_of_ble_eq_true rfl) d_law_364 (fun r9 _ hr9 => ?_)
    subst hr9
    dsimp only [wput, LW, List.set]
    exact kk
  · refine g_callVi (pc := 364) (q0 := 38) X (c_O_resize_ok (m_l M) B a r R.tp R.kd R.rt R.fl R.tt R.cd R.ln 3 n (R.g 3) (by omega) (by omega) (by omega)) wd_920 wd_921 wd_922 wd_5 wd_923 hd_O_resize [38, 40, 60, 41] rfl rfl [a, r 1, r (20 + 3), r 2] (fun _ => rfl) rfl rfl rfl (by rw [hR]; decide) ⟨hn1, hn2⟩ rfl (Nat.le_of_ble_eq_true rfl) d_law_364 (fun r9 _ hr9 => ?_)
    subst hr9
    dsimp only [wput, LW, List.set]
    exact kk
  · refine g_callVi (pc := 364) (q0 := 38) X (c_O_resize_ok (m_l M) B a r R.tp R.kd R.rt R.fl R.tt R.cd R.ln 4 n (R.g 4) (by omega) (by omega) (by omega)) wd_920 wd_921 wd_922 wd_5 wd_923 hd_O_resize [38, 40, 61, 41] rfl rfl [a, r 1, r (20 + 4), r 2] (fun _ => rfl) rfl rfl rfl (by rw [hR]; decide) ⟨hn1, hn2⟩ rfl (Nat.le_of_ble_eq_true rfl) d_law_364 (fun r9 _ hr9 => ?_)
    subst hr9
    dsimp only [wput, LW, List.set]
    exact kk
  · refine g_callVi (pc := 364) (q0 := 38) X (c_O_resize_ok (m_l M) B a r R.tp R.kd R.rt R.fl R.tt R.cd R.ln 5 n (R.g 5) (by omega) (by omega) (by omega)) wd_920 wd_921 wd_922 wd_5 wd_923 hd_O_resize [38, 40, 62, 41] rfl rfl [a, r 1, r (20 + 5), r 2] (fun _ => rfl) rfl rfl rfl (by rw [hR]; decide) ⟨hn1, hn2⟩ rfl (Nat.le_of_ble_eq_true rfl) d_law_364 (fun r9 _ hr9 => ?_)
    subst hr9
    dsimp only [wput, LW, List.set]
    exact kk
  · refine g_callVi (pc := 364) (q0 := 38) X (c_O_resize_ok (m_l M) B a r R.tp R.kd R.rt R.fl R.tt R.cd R.ln 6 n (R.g 6) (by omega) (by omega) (by omega)) wd_920 wd_921 wd_922 wd_5 wd_923 hd_O_resize [38, 40, 63, 41] rfl rfl [a, r 1, r (20 + 6), r 2] (fun _ => rfl) rfl rfl rfl (by rw [hR]; decide) ⟨hn1, hn2⟩ rfl (Nat.le_of_ble_eq_true rfl) d_law_364 (fun r9 _ hr9 => ?_)
    subst hr9
    dsimp only [wput, LW, List.set]
    exact kk
  · refine g_callVi (pc := 364) (q0 := 38) X (c_O_resize_ok (m_l M) B a r R.tp R.kd R.rt R.fl R.tt R.cd R.ln 7 n (R.g 7) (by omega) (by omega) (by omega)) wd_920 wd_921 wd_922 wd_5 wd_923 hd_O_resize [38, 40, 64, 41] rfl rfl [a, r 1, r (20 + 7), r 2] (fun _ => rfl) rfl rfl rfl (by rw [hR]; decide) ⟨hn1, hn2⟩ rfl (Nat.le_of_ble_eq_true rfl) d_law_364 (fun r9 _ hr9 => ?_)
    subst hr9
    dsimp only [wput, LW, List.set]
    exact kk

theorem kR_resize1 {B : Bx} {M : Mx} {Q : State → Prop} (X : CX B M code 8 "SpongeDigestsLaw") (hR : m_R M = room_1) (da a oa : Nat) (q r : Nat → Nat) (C : CS) (R : RS) (ot : Nat → Int64) (x y : Int32) (h1 : inR x (nI 0) (nI 7) = nI 0) : CallS B M Q 364 [.int y, .int x, .ref a] (LW B da a oa q r C R ot) (LW B da a oa q r C ((R.tp, nI 1, R.kd, R.rt, R.fl, R.tt, R.fo, R.ln, R.g, R.ro, R.K, R.s2, R.s5, R.lm, R.pd, R.T, R.rn, R.S, R.o, R.c, R.w, R.bk, R.hk, R.nf) : RS) ot) (.int (nI 0)) 0 0 := by
  intro n1 n2 lv hn1 hn2 kk
  refine g_callVi (pc := 364) (q0 := 38) X (c_O_resize_b1 (m_l M) B a r R.tp R.kd R.rt R.fl R.tt R.cd x y h1) wd_920 wd_921 wd_922 wd_5 wd_923 hd_O_resize [38] rfl rfl [a] (fun _ => rfl) rfl rfl rfl (by rw [hR]; decide) ⟨hn1, hn2⟩ rfl (Nat.le_of_ble_eq_true rfl) d_law_364 (fun r9 _ hr9 => ?_)
  subst hr9
  dsimp only [wput, LW, List.set]
  exact kk

theorem kR_resize2 {B : Bx} {M : Mx} {Q : State → Prop} (X : CX B M code 8 "SpongeDigestsLaw") (hR : m_R M = room_1) (da a oa : Nat) (q r : Nat → Nat) (C : CS) (R : RS) (ot : Nat → Int64) (x y : Int32) (h1 : inR x (nI 0) (nI 7) = nI 1) (h2 : inR y (nI 0) (nI 8192) = nI 0) : CallS B M Q 364 [.int y, .int x, .ref a] (LW B da a oa q r C R ot) (LW B da a oa q r C ((R.tp, nI 1, R.kd, R.rt, R.fl, R.tt, R.fo, R.ln, R.g, R.ro, R.K, R.s2, R.s5, R.lm, R.pd, R.T, R.rn, R.S, R.o, R.c, R.w, R.bk, R.hk, R.nf) : RS) ot) (.int (nI 0)) 0 0 := by
  intro n1 n2 lv hn1 hn2 kk
  refine g_callVi (pc := 364) (q0 := 38) X (c_O_resize_b2 (m_l M) B a r R.tp R.kd R.rt R.fl R.tt R.cd x y h1 h2) wd_920 wd_921 wd_922 wd_5 wd_923 hd_O_resize [38] rfl rfl [a] (fun _ => rfl) rfl rfl rfl (by rw [hR]; decide) ⟨hn1, hn2⟩ rfl (Nat.le_of_ble_eq_true rfl) d_law_364 (fun r9 _ hr9 => ?_)
  subst hr9
  dsimp only [wput, LW, List.set]
  exact kk

theorem kR_alter {B : Bx} {M : Mx} {Q : State → Prop} (X : CX B M code 8 "SpongeDigestsLaw") (hR : m_R M = room_1) (da a oa : Nat) (q r : Nat → Nat) (C : CS) (R : RS) (ot : Nat → Int64) (i p v : Nat) (h1 : i < 8) (h2 : p < R.ln i) (h3 : R.ln i ≤ 8192) (h4 : v ≤ 255) : CallS B M Q 444 [.int (nI v), .int (nI p), .int (nI i), .ref a] (LW B da a oa q r C R ot) (LW B da a oa q r C ((R.tp, nI 0, R.kd, R.rt, R.fl, R.tt, R.fo, R.ln, va_up R.g i (va_up (R.g i) p (((R.g i) p).toInt32 ^^^ (nI v).toInt8.toInt32).toInt8), R.ro, R.K, R.s2, R.s5, R.lm, R.pd, R.T, R.rn, R.S, R.o, R.c, R.w, R.bk, R.hk, R.nf) : RS) ot) (.int ((va_up (R.g i) p (((R.g i) p).toInt32 ^^^ (nI v).toInt8.toInt32).toInt8 p).toInt32 &&& nI 255)) 0 0 := by
  intro n1 n2 lv hn1 hn2 kk
  rcases (show i = 0 ∨ i = 1 ∨ i = 2 ∨ i = 3 ∨ i = 4 ∨ i = 5 ∨ i = 6 ∨ i = 7 from by omega) with e9 | e9 | e9 | e9 | e9 | e9 | e9 | e9 <;> subst e9
  · refine g_callVi (pc := 444) (q0 := 38) X (c_O_alter_ok (m_l M) B a r R.tp R.kd R.rt R.fl R.tt R.cd R.ln 0 p v (R.g 0) (by omega) (by omega) (by omega) (by omega)) wd_924 wd_925 wd_926 wd_5 wd_927 hd_O_alter [38, 40, 57, 41] rfl rfl [a, r 1, r (20 + 0), r 2] (fun _ => rfl) rfl rfl rfl (by rw [hR]; decide) ⟨hn1, hn2⟩ rfl (Nat.le_of_ble_eq_true rfl) d_law_444 (fun r9 _ hr9 => ?_)
    subst hr9
    dsimp only [wput, LW, List.set]
    exact kk
  · refine g_callVi (pc := 444) (q0 := 38) X (c_O_alter_ok (m_l M) B a r R.tp R.kd R.rt R.fl R.tt R.cd R.ln 1 p v (R.g 1) (by omega) (by omega) (by omega) (by omega)) wd_924 wd_925 wd_926 wd_5 wd_927 hd_O_alter [38, 40, 58, 41] rfl rfl [a, r 1, r (20 + 1), r 2] (fun _ => rfl) rfl rfl rfl (by rw [hR]; decide) ⟨hn1, hn2⟩ rfl (Nat.le_of_ble_eq_true rfl) d_law_444 (fun r9 _ hr9 => ?_)
    subst hr9
    dsimp only [wput, LW, List.set]
    exact kk
  · refine g_callVi (pc := 444) (q0 := 38) X (c_O_alter_ok (m_l M) B a r R.tp R.kd R.rt R.fl R.tt R.cd R.ln 2 p v (R.g 2) (by omega) (by omega) (by omega) (by omega)) wd_924 wd_925 wd_926 wd_5 wd_927 hd_O_alter [38, 40, 59, 41] rfl rfl [a, r 1, r (20 + 2), r 2] (fun _ => rfl) rfl rfl rfl (by rw [hR]; decide) ⟨hn1, hn2⟩ rfl (Nat.le_of_ble_eq_true rfl) d_law_444 (fun r9 _ hr9 => ?_)
    subst hr9
    dsimp only [wput, LW, List.set]
    exact kk
  · refine g_callVi (pc := 444) (q0 := 38) X (c_O_alter_ok (m_l M) B a r R.tp R.kd R.rt R.fl R.tt R.cd R.ln 3 p v (R.g 3) (by omega) (by omega) (by omega) (by omega)) wd_924 wd_925 wd_926 wd_5 wd_927 hd_O_alter [38, 40, 60, 41] rfl rfl [a, r 1, r (20 + 3), r 2] (fun _ => rfl) rfl rfl rfl (by rw [hR]; decide) ⟨hn1, hn2⟩ rfl (Nat.le_of_ble_eq_true rfl) d_law_444 (fun r9 _ hr9 => ?_)
    subst hr9
    dsimp only [wput, LW, List.set]
    exact kk
  · refine g_callVi (pc := 444) (q0 := 38) X (c_O_alter_ok (m_l M) B a r R.tp R.kd R.rt R.fl R.tt R.cd R.ln 4 p v (R.g 4) (by omega) (by omega) (by omega) (by omega)) wd_924 wd_925 wd_926 wd_5 wd_927 hd_O_alter [38, 40, 61, 41] rfl rfl [a, r 1, r (20 + 4), r 2] (fun _ => rfl) rfl rfl rfl (by rw [hR]; decide) ⟨hn1, hn2⟩ rfl (Nat.le_of_ble_eq_true rfl) d_law_444 (fun r9 _ hr9 => ?_)
    subst hr9
    dsimp only [wput, LW, List.set]
    exact kk
  · refine g_callVi (pc := 444) (q0 := 38) X (c_O_alter_ok (m_l M) B a r R.tp R.kd R.rt R.fl R.tt R.cd R.ln 5 p v (R.g 5) (by omega) (by omega) (by omega) (by omega)) wd_924 wd_925 wd_926 wd_5 wd_927 hd_O_alter [38, 40, 62, 41] rfl rfl [a, r 1, r (20 + 5), r 2] (fun _ => rfl) rfl rfl rfl (by rw [hR]; decide) ⟨hn1, hn2⟩ rfl (Nat.le_of_ble_eq_true rfl) d_law_444 (fun r9 _ hr9 => ?_)
    subst hr9
    dsimp only [wput, LW, List.set]
    exact kk
  · refine g_callVi (pc := 444) (q0 := 38) X (c_O_alter_ok (m_l M) B a r R.tp R.kd R.rt R.fl R.tt R.cd R.ln 6 p v (R.g 6) (by omega) (by omega) (by omega) (by omega)) wd_924 wd_925 wd_926 wd_5 wd_927 hd_O_alter [38, 40, 63, 41] rfl rfl [a, r 1, r (20 + 6), r 2] (fun _ => rfl) rfl rfl rfl (by rw [hR]; decide) ⟨hn1, hn2⟩ rfl (Nat.le_of_ble_eq_true rfl) d_law_444 (fun r9 _ hr9 => ?_)
    subst hr9
    dsimp only [wput, LW, List.set]
    exact kk
  · refine g_callVi (pc := 444) (q0 := 38) X (c_O_alter_ok (m_l M) B a r R.tp R.kd R.rt R.fl R.tt R.cd R.ln 7 p v (R.g 7) (by omega) (by omega) (by omega) (by omega)) wd_924 wd_925 wd_926 wd_5 wd_927 hd_O_alter [38, 40, 64, 41] rfl rfl [a, r 1, r (20 + 7), r 2] (fun _ => rfl) rfl rfl rfl (by rw [hR]; decide) ⟨hn1, hn2⟩ rfl (Nat.le_of_ble_eq_true rfl) d_law_444 (fun r9 _ hr9 => ?_)
    subst hr9
    dsimp only [wput, LW, List.set]
    exact kk

theorem kR_alter1 {B : Bx} {M : Mx} {Q : State → Prop} (X : CX B M code 8 "SpongeDigestsLaw") (hR : m_R M = room_1) (da a oa : Nat) (q r : Nat → Nat) (C : CS) (R : RS) (ot : Nat → Int64) (x y z : Int32) (h1 : inR x (nI 0) (nI 7) = nI 0) : CallS B M Q 444 [.int z, .int y, .int x, .ref a] (LW B da a oa q r C R ot) (LW B da a oa q r C ((R.tp, nI 1, R.kd, R.rt, R.fl, R.tt, R.fo, R.ln, R.g, R.ro, R.K, R.s2, R.s5, R.lm, R.pd, R.T, R.rn, R.S, R.o, R.c, R.w, R.bk, R.hk, R.nf) : RS) ot) (.int (nI 0)) 0 0 := by
  intro n1 n2 lv hn1 hn2 kk
  refine g_callVi (pc := 444) (q0 := 38) X (c_O_alter_b1 (m_l M) B a r R.tp R.kd R.rt R.fl R.tt R.cd x y z h1) wd_924 wd_925 wd_926 wd_5 wd_927 hd_O_alter [38] rfl rfl [a] (fun _ => rfl) rfl rfl rfl (by rw [hR]; decide) ⟨hn1, hn2⟩ rfl (Nat.le_of_ble_eq_true rfl) d_law_444 (fun r9 _ hr9 => ?_)
  subst hr9
  dsimp only [wput, LW, List.set]
  exact kk

theorem kR_alter2 {B : Bx} {M : Mx} {Q : State → Prop} (X : CX B M code 8 "SpongeDigestsLaw") (hR : m_R M = room_1) (da a oa : Nat) (q r : Nat → Nat) (C : CS) (R : RS) (ot : Nat → Int64) (x y z : Int32) (h1 : inR x (nI 0) (nI 7) = nI 1) (h2 : inR z (nI 0) (nI 255) = nI 0) : CallS B M Q 444 [.int z, .int y, .int x, .ref a] (LW B da a oa q r C R ot) (LW B da a oa q r C ((R.tp, nI 1, R.kd, R.rt, R.fl, R.tt, R.fo, R.ln, R.g, R.ro, R.K, R.s2, R.s5, R.lm, R.pd, R.T, R.rn, R.S, R.o, R.c, R.w, R.bk, R.hk, R.nf) : RS) ot) (.int (nI 0)) 0 0 := by
  intro n1 n2 lv hn1 hn2 kk
  refine g_callVi (pc := 444) (q0 := 38) X (c_O_alter_b2 (m_l M) B a r R.tp R.kd R.rt R.fl R.tt R.cd x y z h1 h2) wd_924 wd_925 wd_926 wd_5 wd_927 hd_O_alter [38] rfl rfl [a] (fun _ => rfl) rfl rfl rfl (by rw [hR]; decide) ⟨hn1, hn2⟩ rfl (Nat.le_of_ble_eq_true rfl) d_law_444 (fun r9 _ hr9 => ?_)
  subst hr9
  dsimp only [wput, LW, List.set]
  exact kk

theorem kR_alter3 {B : Bx} {M : Mx} {Q : State → Prop} (X : CX B M code 8 "SpongeDigestsLaw") (hR : m_R M = room_1) (da a oa : Nat) (q r : Nat → Nat) (C : CS) (R : RS) (ot : Nat → Int64) (i : Nat) (y z : Int32) (h1 : i < 8) (h3 : inR z (nI 0) (nI 255) = nI 1) (h2 : inR y (nI 0) (nI (R.ln i) - nI 1) = nI 0) : CallS B M Q 444 [.int z, .int y, .int (nI i), .ref a] (LW B da a oa q r C R ot) (LW B da a oa q r C ((R.tp, nI 2, R.kd, R.rt, R.fl, R.tt, R.fo, R.ln, R.g, R.ro, R.K, R.s2, R.s5, R.lm, R.pd, R.T, R.rn, R.S, R.o, R.c, R.w, R.bk, R.hk, R.nf) : RS) ot) (.int (nI 0)) 0 0 := by
  intro n1 n2 lv hn1 hn2 kk
  refine g_callVi (pc := 444) (q0 := 38) X (c_O_alter_b3 (m_l M) B a r R.tp R.kd R.rt R.fl R.tt R.cd R.ln i y z (by omega) h3 h2) wd_924 wd_925 wd_926 wd_5 wd_927 hd_O_alter [38, 41] rfl rfl [a, r 2] (fun _ => rfl) rfl rfl rfl (by rw [hR]; decide) ⟨hn1, hn2⟩ rfl (Nat.le_of_ble_eq_true rfl) d_law_444 (fun r9 _ hr9 => ?_)
  subst hr9
  dsimp only [wput, LW, List.set]
  exact kk

theorem kR_length {B : Bx} {M : Mx} {Q : State → Prop} (X : CX B M code 8 "SpongeDigestsLaw") (hR : m_R M = room_1) (da a oa : Nat) (q r : Nat → Nat) (C : CS) (R : RS) (ot : Nat → Int64) (i : Nat) (h1 : i < 8) : CallS B M Q 500 [.int (nI i), .ref a] (LW B da a oa q r C R ot) (LW B da a oa q r C ((R.tp, nI 0, R.kd, R.rt, R.fl, R.tt, R.fo, R.ln, R.g, R.ro, R.K, R.s2, R.s5, R.lm, R.pd, R.T, R.rn, R.S, R.o, R.c, R.w, R.bk, R.hk, R.nf) : RS) ot) (.int (nI (R.ln i))) 0 0 := by
  intro n1 n2 lv hn1 hn2 kk
  refine g_callVi (pc := 500) (q0 := 38) X (c_O_length_ok (m_l M) B a r R.tp R.kd R.rt R.fl R.tt R.cd R.ln i (by omega)) wd_928 wd_929 wd_930 wd_5 wd_931 hd_O_length [38, 41] rfl rfl [a, r 2] (fun _ => rfl) rfl rfl rfl (by rw [hR]; decide) ⟨hn1, hn2⟩ rfl (Nat.le_of_ble_eq_true rfl) d_law_500 (fun r9 _ hr9 => ?_)
  subst hr9
  dsimp only [wput, LW, List.set]
  exact kk

theorem kR_length1 {B : Bx} {M : Mx} {Q : State → Prop} (X : CX B M code 8 "SpongeDigestsLaw") (hR : m_R M = room_1) (da a oa : Nat) (q r : Nat → Nat) (C : CS) (R : RS) (ot : Nat → Int64) (x : Int32) (h1 : inR x (nI 0) (nI 7) = nI 0) : CallS B M Q 500 [.int x, .ref a] (LW B da a oa q r C R ot) (LW B da a oa q r C ((R.tp, nI 1, R.kd, R.rt, R.fl, R.tt, R.fo, R.ln, R.g, R.ro, R.K, R.s2, R.s5, R.lm, R.pd, R.T, R.rn, R.S, R.o, R.c, R.w, R.bk, R.hk, R.nf) : RS) ot) (.int (nI 0)) 0 0 := by
  intro n1 n2 lv hn1 hn2 kk
  refine g_callVi (pc := 500) (q0 := 38) X (c_O_length_b1 (m_l M) B a r R.tp R.kd R.rt R.fl R.tt R.cd x h1) wd_928 wd_929 wd_930 wd_5 wd_931 hd_O_length [38] rfl rfl [a] (fun _ => rfl) rfl rfl rfl (by rw [hR]; decide) ⟨hn1, hn2⟩ rfl (Nat.le_of_ble_eq_true rfl) d_law_500 (fun r9 _ hr9 => ?_)
  subst hr9
  dsimp only [wput, LW, List.set]
  exact kk

theorem kR_word {B : Bx} {M : Mx} {Q : State → Prop} (X : CX B M code 8 "SpongeDigestsLaw") (hR : m_R M = room_1) (da a oa : Nat) (q r : Nat → Nat) (C : CS) (R : RS) (ot : Nat → Int64) (i p : Nat) (h1 : i < 8) (h2 : p < R.ln i) (h3 : R.ln i ≤ 8192) : CallS B M Q 568 [.int (nI p), .int (nI i), .ref a] (LW B da a oa q r C R ot) (LW B da a oa q r C ((R.tp, nI 0, R.kd, R.rt, R.fl, R.tt, R.fo, R.ln, R.g, R.ro, R.K, R.s2, R.s5, R.lm, R.pd, R.T, R.rn, R.S, R.o, R.c, R.w, R.bk, R.hk, R.nf) : RS) ot) (.long (it (wdR (R.g i) (R.ln i) p) 8 0)) 0 0 := by
  intro n1 n2 lv hn1 hn2 kk
  rcases (show i = 0 ∨ i = 1 ∨ i = 2 ∨ i = 3 ∨ i = 4 ∨ i = 5 ∨ i = 6 ∨ i = 7 from by omega) with e9 | e9 | e9 | e9 | e9 | e9 | e9 | e9 <;> subst e9
  · refine g_callVl (pc := 568) (q0 := 38) X (c_O_word2_ok (m_l M) B a r R.tp R.kd R.rt R.fl R.tt R.cd R.ln 0 p (R.g 0) (by omega) (by omega) (by omega)) wd_932 wd_933 wd_934 wd_5 wd_935 hd_O_word2 [38, 40, 57, 41] rfl rfl [a, r 1, r (20 + 0), r 2] (fun _ => rfl) rfl rfl rfl (by rw [hR]; decide) ⟨hn1, hn2⟩ rfl (Nat.le_of_ble_eq_true rfl) d_law_568 (fun r9 _ hr9 => ?_)
    subst hr9
    dsimp only [wput, LW, List.set]
    exact kk
  · refine g_callVl (pc := 568) (q0 := 38) X (c_O_word2_ok (m_l M) B a r R.tp R.kd R.rt R.fl R.tt R.cd R.ln 1 p (R.g 1) (by omega) (by omega) (by omega)) wd_932 wd_933 wd_934 wd_5 wd_935 hd_O_word2 [38, 40, 58, 41] rfl rfl [a, r 1, r (20 + 1), r 2] (fun _ => rfl) rfl rfl rfl (by rw [hR]; decide) ⟨hn1, hn2⟩ rfl (Nat.le_of_ble_eq_true rfl) d_law_568 (fun r9 _ hr9 => ?_)
    subst hr9
    dsimp only [wput, LW, List.set]
    exact kk
  · refine g_callVl (pc := 568) (q0 := 38) X (c_O_word2_ok (m_l M) B a r R.tp R.kd R.rt R.fl R.tt R.cd R.ln 2 p (R.g 2) (by omega) (by omega) (by omega)) wd_932 wd_933 wd_934 wd_5 wd_935 hd_O_word2 [38, 40, 59, 41] rfl rfl [a, r 1, r (20 + 2), r 2] (fun _ => rfl) rfl rfl rfl (by rw [hR]; decide) ⟨hn1, hn2⟩ rfl (Nat.le_of_ble_eq_true rfl) d_law_568 (fun r9 _ hr9 => ?_)
    subst hr9
    dsimp only [wput, LW, List.set]
    exact kk
  · refine g_callVl (pc := 568) (q0 := 38) X (c_O_word2_ok (m_l M) B a r R.tp R.kd R.rt R.fl R.tt R.cd R.ln 3 p (R.g 3) (by omega) (by omega) (by omega)) wd_932 wd_933 wd_934 wd_5 wd_935 hd_O_word2 [38, 40, 60, 41] rfl rfl [a, r 1, r (20 + 3), r 2] (fun _ => rfl) rfl rfl rfl (by rw [hR]; decide) ⟨hn1, hn2⟩ rfl (Nat.le_of_ble_eq_true rfl) d_law_568 (fun r9 _ hr9 => ?_)
    subst hr9
    dsimp only [wput, LW, List.set]
    exact kk
  · refine g_callVl (pc := 568) (q0 := 38) X (c_O_word2_ok (m_l M) B a r R.tp R.kd R.rt R.fl R.tt R.cd R.ln 4 p (R.g 4) (by omega) (by omega) (by omega)) wd_932 wd_933 wd_934 wd_5 wd_935 hd_O_word2 [38, 40, 61, 41] rfl rfl [a, r 1, r (20 + 4), r 2] (fun _ => rfl) rfl rfl rfl (by rw [hR]; decide) ⟨hn1, hn2⟩ rfl (Nat.le_of_ble_eq_true rfl) d_law_568 (fun r9 _ hr9 => ?_)
    subst hr9
    dsimp only [wput, LW, List.set]
    exact kk
  · refine g_callVl (pc := 568) (q0 := 38) X (c_O_word2_ok (m_l M) B a r R.tp R.kd R.rt R.fl R.tt R.cd R.ln 5 p (R.g 5) (by omega) (by omega) (by omega)) wd_932 wd_933 wd_934 wd_5 wd_935 hd_O_word2 [38, 40, 62, 41] rfl rfl [a, r 1, r (20 + 5), r 2] (fun _ => rfl) rfl rfl rfl (by rw [hR]; decide) ⟨hn1, hn2⟩ rfl (Nat.le_of_ble_eq_true rfl) d_law_568 (fun r9 _ hr9 => ?_)
    subst hr9
    dsimp only [wput, LW, List.set]
    exact kk
  · refine g_callVl (pc := 568) (q0 := 38) X (c_O_word2_ok (m_l M) B a r R.tp R.kd R.rt R.fl R.tt R.cd R.ln 6 p (R.g 6) (by omega) (by omega) (by omega)) wd_932 wd_933 wd_934 wd_5 wd_935 hd_O_word2 [38, 40, 63, 41] rfl rfl [a, r 1, r (20 + 6), r 2] (fun _ => rfl) rfl rfl rfl (by rw [hR]; decide) ⟨hn1, hn2⟩ rfl (Nat.le_of_ble_eq_true rfl) d_law_568 (fun r9 _ hr9 => ?_)
    subst hr9
    dsimp only [wput, LW, List.set]
    exact kk
  · refine g_callVl (pc := 568) (q0 := 38) X (c_O_word2_ok (m_l M) B a r R.tp R.kd R.rt R.fl R.tt R.cd R.ln 7 p (R.g 7) (by omega) (by omega) (by omega)) wd_932 wd_933 wd_934 wd_5 wd_935 hd_O_word2 [38, 40, 64, 41] rfl rfl [a, r 1, r (20 + 7), r 2] (fun _ => rfl) rfl rfl rfl (by rw [hR]; decide) ⟨hn1, hn2⟩ rfl (Nat.le_of_ble_eq_true rfl) d_law_568 (fun r9 _ hr9 => ?_)
    subst hr9
    dsimp only [wput, LW, List.set]
    exact kk

theorem kR_word1 {B : Bx} {M : Mx} {Q : State → Prop} (X : CX B M code 8 "SpongeDigestsLaw") (hR : m_R M = room_1) (da a oa : Nat) (q r : Nat → Nat) (C : CS) (R : RS) (ot : Nat → Int64) (x y : Int32) (h1 : inR x (nI 0) (nI 7) = nI 0) : CallS B M Q 568 [.int y, .int x, .ref a] (LW B da a oa q r C R ot) (LW B da a oa q r C ((R.tp, nI 1, R.kd, R.rt, R.fl, R.tt, R.fo, R.ln, R.g, R.ro, R.K, R.s2, R.s5, R.lm, R.pd, R.T, R.rn, R.S, R.o, R.c, R.w, R.bk, R.hk, R.nf) : RS) ot) (.long 0) 0 0 := by
  intro n1 n2 lv hn1 hn2 kk
  refine g_callVl (pc := 568) (q0 := 38) X (c_O_word2_b1 (m_l M) B a r R.tp R.kd R.rt R.fl R.tt R.cd x y h1) wd_932 wd_933 wd_934 wd_5 wd_935 hd_O_word2 [38] rfl rfl [a] (fun _ => rfl) rfl rfl rfl (by rw [hR]; decide) ⟨hn1, hn2⟩ rfl (Nat.le_of_ble_eq_true rfl) d_law_568 (fun r9 _ hr9 => ?_)
  subst hr9
  dsimp only [wput, LW, List.set]
  exact kk

theorem kR_word2 {B : Bx} {M : Mx} {Q : State → Prop} (X : CX B M code 8 "SpongeDigestsLaw") (hR : m_R M = room_1) (da a oa : Nat) (q r : Nat → Nat) (C : CS) (R : RS) (ot : Nat → Int64) (i : Nat) (y : Int32) (h1 : i < 8) (h2 : inR y (nI 0) (nI (R.ln i) - nI 1) = nI 0) : CallS B M Q 568 [.int y, .int (nI i), .ref a] (LW B da a oa q r C R ot) (LW B da a oa q r C ((R.tp, nI 2, R.kd, R.rt, R.fl, R.tt, R.fo, R.ln, R.g, R.ro, R.K, R.s2, R.s5, R.lm, R.pd, R.T, R.rn, R.S, R.o, R.c, R.w, R.bk, R.hk, R.nf) : RS) ot) (.long 0) 0 0 := by
  intro n1 n2 lv hn1 hn2 kk
  refine g_callVl (pc := 568) (q0 := 38) X (c_O_word2_b2 (m_l M) B a r R.tp R.kd R.rt R.fl R.tt R.cd R.ln i y (by omega) h2) wd_932 wd_933 wd_934 wd_5 wd_935 hd_O_word2 [38, 41] rfl rfl [a, r 2] (fun _ => rfl) rfl rfl rfl (by rw [hR]; decide) ⟨hn1, hn2⟩ rfl (Nat.le_of_ble_eq_true rfl) d_law_568 (fun r9 _ hr9 => ?_)
  subst hr9
  dsimp only [wput, LW, List.set]
  exact kk

theorem kR_same {B : Bx} {M : Mx} {Q : State → Prop} (X : CX B M code 8 "SpongeDigestsLaw") (hR : m_R M = room_1) (da a oa : Nat) (q r : Nat → Nat) (C : CS) (R : RS) (ot : Nat → Int64) (i j : Nat) (h1 : i < 8) (h2 : j < 8) (hne : i ≠ j) (h3 : R.ln i ≤ 8192) (h4 : R.ln i = R.ln j) : CallS B M Q 635 [.int (nI j), .int (nI i), .ref a] (LW B da a oa q r C R ot) (LW B da a oa q r C ((R.tp, nI 0, R.kd, R.rt, R.fl, R.tt, R.fo, R.ln, R.g, R.ro, R.K, R.s2, R.s5, R.lm, R.pd, R.T, R.rn, R.S, R.o, R.c, R.w, R.bk, R.hk, R.nf) : RS) ot) (.int (it (smR (R.g i) (R.g j)) (R.ln i) (nI 1))) 0 0 := by
  intro n1 n2 lv hn1 hn2 kk
  rcases (show i = 0 ∨ i = 1 ∨ i = 2 ∨ i = 3 ∨ i = 4 ∨ i = 5 ∨ i = 6 ∨ i = 7 from by omega) with e9 | e9 | e9 | e9 | e9 | e9 | e9 | e9 <;> subst e9
  · rcases (show j = 1 ∨ j = 2 ∨ j = 3 ∨ j = 4 ∨ j = 5 ∨ j = 6 ∨ j = 7 from by omega) with e9 | e9 | e9 | e9 | e9 | e9 | e9 <;> subst e9
    · refine g_callVi (pc := 635) (q0 := 38) X (c_O_same_ok (m_l M) B a r R.tp R.kd R.rt R.fl R.tt R.cd R.ln 0 1 (R.g 0) (R.g 1) (by omega) (by omega) (by omega) h4) wd_936 wd_937 wd_938 wd_5 wd_939 hd_O_same [38, 40, 57, 58, 41] rfl rfl [a, r 1, r (20 + 0), r (20 + 1), r 2] (fun _ => rfl) rfl rfl rfl (by rw [hR]; decide) ⟨hn1, hn2⟩ rfl (Nat.le_of_ble_eq_true rfl) d_law_635 (fun r9 _ hr9 => ?_)
      subst hr9
      dsimp only [wput, LW, List.set]
      exact kk
    · refine g_callVi (pc := 635) (q0 := 38) X (c_O_same_ok (m_l M) B a r R.tp R.kd R.rt R.fl R.tt R.cd R.ln 0 2 (R.g 0) (R.g 2) (by omega) (by omega) (by omega) h4) wd_936 wd_937 wd_938 wd_5 wd_939 hd_O_same [38, 40, 57, 59, 41] rfl rfl [a, r 1, r (20 + 0), r (20 + 2), r 2] (fun _ => rfl) rfl rfl rfl (by rw [hR]; decide) ⟨hn1, hn2⟩ rfl (Nat.le_of_ble_eq_true rfl) d_law_635 (fun r9 _ hr9 => ?_)
      subst hr9
      dsimp only [wput, LW, List.set]
      exact kk
    · refine g_callVi (pc := 635) (q0 := 38) X (c_O_same_ok (m_l M) B a r R.tp R.kd R.rt R.fl R.tt R.cd R.ln 0 3 (R.g 0) (R.g 3) (by omega) (by omega) (by omega) h4) wd_936 wd_937 wd_938 wd_5 wd_939 hd_O_same [38, 40, 57, 60, 41] rfl rfl [a, r 1, r (20 + 0), r (20 + 3), r 2] (fun _ => rfl) rfl rfl rfl (by rw [hR]; decide) ⟨hn1, hn2⟩ rfl (Nat.le_of_ble_eq_true rfl) d_law_635 (fun r9 _ hr9 => ?_)
      subst hr9
      dsimp only [wput, LW, List.set]
      exact kk
    · refine g_callVi (pc := 635) (q0 := 38) X (c_O_same_ok (m_l M) B a r R.tp R.kd R.rt R.fl R.tt R.cd R.ln 0 4 (R.g 0) (R.g 4) (by omega) (by omega) (by omega) h4) wd_936 wd_937 wd_938 wd_5 wd_939 hd_O_same [38, 40, 57, 61, 41] rfl rfl [a, r 1, r (20 + 0), r (20 + 4), r 2] (fun _ => rfl) rfl rfl rfl (by rw [hR]; decide) ⟨hn1, hn2⟩ rfl (Nat.le_of_ble_eq_true rfl) d_law_635 (fun r9 _ hr9 => ?_)
      subst hr9
      dsimp only [wput, LW, List.set]
      exact kk
    · refine g_callVi (pc := 635) (q0 := 38) X (c_O_same_ok (m_l M) B a r R.tp R.kd R.rt R.fl R.tt R.cd R.ln 0 5 (R.g 0) (R.g 5) (by omega) (by omega) (by omega) h4) wd_936 wd_937 wd_938 wd_5 wd_939 hd_O_same [38, 40, 57, 62, 41] rfl rfl [a, r 1, r (20 + 0), r (20 + 5), r 2] (fun _ => rfl) rfl rfl rfl (by rw [hR]; decide) ⟨hn1, hn2⟩ rfl (Nat.le_of_ble_eq_true rfl) d_law_635 (fun r9 _ hr9 => ?_)
      subst hr9
      dsimp only [wput, LW, List.set]
      exact kk
    · refine g_callVi (pc := 635) (q0 := 38) X (c_O_same_ok (m_l M) B a r R.tp R.kd R.rt R.fl R.tt R.cd R.ln 0 6 (R.g 0) (R.g 6) (by omega) (by omega) (by omega) h4) wd_936 wd_937 wd_938 wd_5 wd_939 hd_O_same [38, 40, 57, 63, 41] rfl rfl [a, r 1, r (20 + 0), r (20 + 6), r 2] (fun _ => rfl) rfl rfl rfl (by rw [hR]; decide) ⟨hn1, hn2⟩ rfl (Nat.le_of_ble_eq_true rfl) d_law_635 (fun r9 _ hr9 => ?_)
      subst hr9
      dsimp only [wput, LW, List.set]
      exact kk
    · refine g_callVi (pc := 635) (q0 := 38) X (c_O_same_ok (m_l M) B a r R.tp R.kd R.rt R.fl R.tt R.cd R.ln 0 7 (R.g 0) (R.g 7) (by omega) (by omega) (by omega) h4) wd_936 wd_937 wd_938 wd_5 wd_939 hd_O_same [38, 40, 57, 64, 41] rfl rfl [a, r 1, r (20 + 0), r (20 + 7), r 2] (fun _ => rfl) rfl rfl rfl (by rw [hR]; decide) ⟨hn1, hn2⟩ rfl (Nat.le_of_ble_eq_true rfl) d_law_635 (fun r9 _ hr9 => ?_)
      subst hr9
      dsimp only [wput, LW, List.set]
      exact kk
  · rcases (show j = 0 ∨ j = 2 ∨ j = 3 ∨ j = 4 ∨ j = 5 ∨ j = 6 ∨ j = 7 from by omega) with e9 | e9 | e9 | e9 | e9 | e9 | e9 <;> subst e9
    · refine g_callVi (pc := 635) (q0 := 38) X (c_O_same_ok (m_l M) B a r R.tp R.kd R.rt R.fl R.tt R.cd R.ln 1 0 (R.g 1) (R.g 0) (by omega) (by omega) (by omega) h4) wd_936 wd_937 wd_938 wd_5 wd_939 hd_O_same [38, 40, 58, 57, 41] rfl rfl [a, r 1, r (20 + 1), r (20 + 0), r 2] (fun _ => rfl) rfl rfl rfl (by rw [hR]; decide) ⟨hn1, hn2⟩ rfl (Nat.le_of_ble_eq_true rfl) d_law_635 (fun r9 _ hr9 => ?_)
      subst hr9
      dsimp only [wput, LW, List.set]
      exact kk
    · refine g_callVi (pc := 635) (q0 := 38) X (c_O_same_ok (m_l M) B a r R.tp R.kd R.rt R.fl R.tt R.cd R.ln 1 2 (R.g 1) (R.g 2) (by omega) (by omega) (by omega) h4) wd_936 wd_937 wd_938 wd_5 wd_939 hd_O_same [38, 40, 58, 59, 41] rfl rfl [a, r 1, r (20 + 1), r (20 + 2), r 2] (fun _ => rfl) rfl rfl rfl (by rw [hR]; decide) ⟨hn1, hn2⟩ rfl (Nat.le_of_ble_eq_true rfl) d_law_635 (fun r9 _ hr9 => ?_)
      subst hr9
      dsimp only [wput, LW, List.set]
      exact kk
    · refine g_callVi (pc := 635) (q0 := 38) X (c_O_same_ok (m_l M) B a r R.tp R.kd R.rt R.fl R.tt R.cd R.ln 1 3 (R.g 1) (R.g 3) (by omega) (by omega) (by omega) h4) wd_936 wd_937 wd_938 wd_5 wd_939 hd_O_same [38, 40, 58, 60, 41] rfl rfl [a, r 1, r (20 + 1), r (20 + 3), r 2] (fun _ => rfl) rfl rfl rfl (by rw [hR]; decide) ⟨hn1, hn2⟩ rfl (Nat.le_of_ble_eq_true rfl) d_law_635 (fun r9 _ hr9 => ?_)
      subst hr9
      dsimp only [wput, LW, List.set]
      exact kk
    · refine g_callVi (pc := 635) (q0 := 38) X (c_O_same_ok (m_l M) B a r R.tp R.kd R.rt R.fl R.tt R.cd R.ln 1 4 (R.g 1) (R.g 4) (by omega) (by omega) (by omega) h4) wd_936 wd_937 wd_938 wd_5 wd_939 hd_O_same [38, 40, 58, 61, 41] rfl rfl [a, r 1, r (20 + 1), r (20 + 4), r 2] (fun _ => rfl) rfl rfl rfl (by rw [hR]; decide) ⟨hn1, hn2⟩ rfl (Nat.le_of_ble_eq_true rfl) d_law_635 (fun r9 _ hr9 => ?_)
      subst hr9
      dsimp only [wput, LW, List.set]
      exact kk
    · refine g_callVi (pc := 635) (q0 := 38) X (c_O_same_ok (m_l M) B a r R.tp R.kd R.rt R.fl R.tt R.cd R.ln 1 5 (R.g 1) (R.g 5) (by omega) (by omega) (by omega) h4) wd_936 wd_937 wd_938 wd_5 wd_939 hd_O_same [38, 40, 58, 62, 41] rfl rfl [a, r 1, r (20 + 1), r (20 + 5), r 2] (fun _ => rfl) rfl rfl rfl (by rw [hR]; decide) ⟨hn1, hn2⟩ rfl (Nat.le_of_ble_eq_true rfl) d_law_635 (fun r9 _ hr9 => ?_)
      subst hr9
      dsimp only [wput, LW, List.set]
      exact kk
    · refine g_callVi (pc := 635) (q0 := 38) X (c_O_same_ok (m_l M) B a r R.tp R.kd R.rt R.fl R.tt R.cd R.ln 1 6 (R.g 1) (R.g 6) (by omega) (by omega) (by omega) h4) wd_936 wd_937 wd_938 wd_5 wd_939 hd_O_same [38, 40, 58, 63, 41] rfl rfl [a, r 1, r (20 + 1), r (20 + 6), r 2] (fun _ => rfl) rfl rfl rfl (by rw [hR]; decide) ⟨hn1, hn2⟩ rfl (Nat.le_of_ble_eq_true rfl) d_law_635 (fun r9 _ hr9 => ?_)
      subst hr9
      dsimp only [wput, LW, List.set]
      exact kk
    · refine g_callVi (pc := 635) (q0 := 38) X (c_O_same_ok (m_l M) B a r R.tp R.kd R.rt R.fl R.tt R.cd R.ln 1 7 (R.g 1) (R.g 7) (by omega) (by omega) (by omega) h4) wd_936 wd_937 wd_938 wd_5 wd_939 hd_O_same [38, 40, 58, 64, 41] rfl rfl [a, r 1, r (20 + 1), r (20 + 7), r 2] (fun _ => rfl) rfl rfl rfl (by rw [hR]; decide) ⟨hn1, hn2⟩ rfl (Nat.le_of_ble_eq_true rfl) d_law_635 (fun r9 _ hr9 => ?_)
      subst hr9
      dsimp only [wput, LW, List.set]
      exact kk
  · rcases (show j = 0 ∨ j = 1 ∨ j = 3 ∨ j = 4 ∨ j = 5 ∨ j = 6 ∨ j = 7 from by omega) with e9 | e9 | e9 | e9 | e9 | e9 | e9 <;> subst e9
    · refine g_callVi (pc := 635) (q0 := 38) X (c_O_same_ok (m_l M) B a r R.tp R.kd R.rt R.fl R.tt R.cd R.ln 2 0 (R.g 2) (R.g 0) (by omega) (by omega) (by omega) h4) wd_936 wd_937 wd_938 wd_5 wd_939 hd_O_same [38, 40, 59, 57, 41] rfl rfl [a, r 1, r (20 + 2), r (20 + 0), r 2] (fun _ => rfl) rfl rfl rfl (by rw [hR]; decide) ⟨hn1, hn2⟩ rfl (Nat.le_of_ble_eq_true rfl) d_law_635 (fun r9 _ hr9 => ?_)
      subst hr9
      dsimp only [wput, LW, List.set]
      exact kk
    · refine g_callVi (pc := 635) (q0 := 38) X (c_O_same_ok (m_l M) B a r R.tp R.kd R.rt R.fl R.tt R.cd R.ln 2 1 (R.g 2) (R.g 1) (by omega) (by omega) (by omega) h4) wd_936 wd_937 wd_938 wd_5 wd_939 hd_O_same [38, 40, 59, 58, 41] rfl rfl [a, r 1, r (20 + 2), r (20 + 1), r 2] (fun _ => rfl) rfl rfl rfl (by rw [hR]; decide) ⟨hn1, hn2⟩ rfl (Nat.le_of_ble_eq_true rfl) d_law_635 (fun r9 _ hr9 => ?_)
      subst hr9
      dsimp only [wput, LW, List.set]
      exact kk
    · refine g_callVi (pc := 635) (q0 := 38) X (c_O_same_ok (m_l M) B a r R.tp R.kd R.rt R.fl R.tt R.cd R.ln 2 3 (R.g 2) (R.g 3) (by omega) (by omega) (by omega) h4) wd_936 wd_937 wd_938 wd_5 wd_939 hd_O_same [38, 40, 59, 60, 41] rfl rfl [a, r 1, r (20 + 2), r (20 + 3), r 2] (fun _ => rfl) rfl rfl rfl (by rw [hR]; decide) ⟨hn1, hn2⟩ rfl (Nat.le_of_ble_eq_true rfl) d_law_635 (fun r9 _ hr9 => ?_)
      subst hr9
      dsimp only [wput, LW, List.set]
      exact kk
    · refine g_callVi (pc := 635) (q0 := 38) X (c_O_same_ok (m_l M) B a r R.tp R.kd R.rt R.fl R.tt R.cd R.ln 2 4 (R.g 2) (R.g 4) (by omega) (by omega) (by omega) h4) wd_936 wd_937 wd_938 wd_5 wd_939 hd_O_same [38, 40, 59, 61, 41] rfl rfl [a, r 1, r (20 + 2), r (20 + 4), r 2] (fun _ => rfl) rfl rfl rfl (by rw [hR]; decide) ⟨hn1, hn2⟩ rfl (Nat.le_of_ble_eq_true rfl) d_law_635 (fun r9 _ hr9 => ?_)
      subst hr9
      dsimp only [wput, LW, List.set]
      exact kk
    · refine g_callVi (pc := 635) (q0 := 38) X (c_O_same_ok (m_l M) B a r R.tp R.kd R.rt R.fl R.tt R.cd R.ln 2 5 (R.g 2) (R.g 5) (by omega) (by omega) (by omega) h4) wd_936 wd_937 wd_938 wd_5 wd_939 hd_O_same [38, 40, 59, 62, 41] rfl rfl [a, r 1, r (20 + 2), r (20 + 5), r 2] (fun _ => rfl) rfl rfl rfl (by rw [hR]; decide) ⟨hn1, hn2⟩ rfl (Nat.le_of_ble_eq_true rfl) d_law_635 (fun r9 _ hr9 => ?_)
      subst hr9
      dsimp only [wput, LW, List.set]
      exact kk
    · refine g_callVi (pc := 635) (q0 := 38) X (c_O_same_ok (m_l M) B a r R.tp R.kd R.rt R.fl R.tt R.cd R.ln 2 6 (R.g 2) (R.g 6) (by omega) (by omega) (by omega) h4) wd_936 wd_937 wd_938 wd_5 wd_939 hd_O_same [38, 40, 59, 63, 41] rfl rfl [a, r 1, r (20 + 2), r (20 + 6), r 2] (fun _ => rfl) rfl rfl rfl (by rw [hR]; decide) ⟨hn1, hn2⟩ rfl (Nat.le_of_ble_eq_true rfl) d_law_635 (fun r9 _ hr9 => ?_)
      subst hr9
      dsimp only [wput, LW, List.set]
      exact kk
    · refine g_callVi (pc := 635) (q0 := 38) X (c_O_same_ok (m_l M) B a r R.tp R.kd R.rt R.fl R.tt R.cd R.ln 2 7 (R.g 2) (R.g 7) (by omega) (by omega) (by omega) h4) wd_936 wd_937 wd_938 wd_5 wd_939 hd_O_same [38, 40, 59, 64, 41] rfl rfl [a, r 1, r (20 + 2), r (20 + 7), r 2] (fun _ => rfl) rfl rfl rfl (by rw [hR]; decide) ⟨hn1, hn2⟩ rfl (Nat.le_of_ble_eq_true rfl) d_law_635 (fun r9 _ hr9 => ?_)
      subst hr9
      dsimp only [wput, LW, List.set]
      exact kk
  · rcases (show j = 0 ∨ j = 1 ∨ j = 2 ∨ j = 4 ∨ j = 5 ∨ j = 6 ∨ j = 7 from by omega) with e9 | e9 | e9 | e9 | e9 | e9 | e9 <;> subst e9
    · refine g_callVi (pc := 635) (q0 := 38) X (c_O_same_ok (m_l M) B a r R.tp R.kd R.rt R.fl R.tt R.cd R.ln 3 0 (R.g 3) (R.g 0) (by omega) (by omega) (by omega) h4) wd_936 wd_937 wd_938 wd_5 wd_939 hd_O_same [38, 40, 60, 57, 41] rfl rfl [a, r 1, r (20 + 3), r (20 + 0), r 2] (fun _ => rfl) rfl rfl rfl (by rw [hR]; decide) ⟨hn1, hn2⟩ rfl (Nat.le_of_ble_eq_true rfl) d_law_635 (fun r9 _ hr9 => ?_)
      subst hr9
      dsimp only [wput, LW, List.set]
      exact kk
    · refine g_callVi (pc := 635) (q0 := 38) X (c_O_same_ok (m_l M) B a r R.tp R.kd R.rt R.fl R.tt R.cd R.ln 3 1 (R.g 3) (R.g 1) (by omega) (by omega) (by omega) h4) wd_936 wd_937 wd_938 wd_5 wd_939 hd_O_same [38, 40, 60, 58, 41] rfl rfl [a, r 1, r (20 + 3), r (20 + 1), r 2] (fun _ => rfl) rfl rfl rfl (by rw [hR]; decide) ⟨hn1, hn2⟩ rfl (Nat.le_of_ble_eq_true rfl) d_law_635 (fun r9 _ hr9 => ?_)
      subst hr9
      dsimp only [wput, LW, List.set]
      exact kk
    · refine g_callVi (pc := 635) (q0 := 38) X (c_O_same_ok (m_l M) B a r R.tp R.kd R.rt R.fl R.tt R.cd R.ln 3 2 (R.g 3) (R.g 2) (by omega) (by omega) (by omega) h4) wd_936 wd_937 wd_938 wd_5 wd_939 hd_O_same [38, 40, 60, 59, 41] rfl rfl [a, r 1, r (20 + 3), r (20 + 2), r 2] (fun _ => rfl) rfl rfl rfl (by rw [hR]; decide) ⟨hn1, hn2⟩ rfl (Nat.le_of_ble_eq_true rfl) d_law_635 (fun r9 _ hr9 => ?_)
      subst hr9
      dsimp only [wput, LW, List.set]
      exact kk
    · refine g_callVi (pc := 635) (q0 := 38) X (c_O_same_ok (m_l M) B a r R.tp R.kd R.rt R.fl R.tt R.cd R.ln 3 4 (R.g 3) (R.g 4) (by omega) (by omega) (by omega) h4) wd_936 wd_937 wd_938 wd_5 wd_939 hd_O_same [38, 40, 60, 61, 41] rfl rfl [a, r 1, r (20 + 3), r (20 + 4), r 2] (fun _ => rfl) rfl rfl rfl (by rw [hR]; decide) ⟨hn1, hn2⟩ rfl (Nat.le_of_ble_eq_true rfl) d_law_635 (fun r9 _ hr9 => ?_)
      subst hr9
      dsimp only [wput, LW, List.set]
      exact kk
    · refine g_callVi (pc := 635) (q0 := 38) X (c_O_same_ok (m_l M) B a r R.tp R.kd R.rt R.fl R.tt R.cd R.ln 3 5 (R.g 3) (R.g 5) (by omega) (by omega) (by omega) h4) wd_936 wd_937 wd_938 wd_5 wd_939 hd_O_same [38, 40, 60, 62, 41] rfl rfl [a, r 1, r (20 + 3), r (20 + 5), r 2] (fun _ => rfl) rfl rfl rfl (by rw [hR]; decide) ⟨hn1, hn2⟩ rfl (Nat.le_of_ble_eq_true rfl) d_law_635 (fun r9 _ hr9 => ?_)
      subst hr9
      dsimp only [wput, LW, List.set]
      exact kk
    · refine g_callVi (pc := 635) (q0 := 38) X (c_O_same_ok (m_l M) B a r R.tp R.kd R.rt R.fl R.tt R.cd R.ln 3 6 (R.g 3) (R.g 6) (by omega) (by omega) (by omega) h4) wd_936 wd_937 wd_938 wd_5 wd_939 hd_O_same [38, 40, 60, 63, 41] rfl rfl [a, r 1, r (20 + 3), r (20 + 6), r 2] (fun _ => rfl) rfl rfl rfl (by rw [hR]; decide) ⟨hn1, hn2⟩ rfl (Nat.le_of_ble_eq_true rfl) d_law_635 (fun r9 _ hr9 => ?_)
      subst hr9
      dsimp only [wput, LW, List.set]
      exact kk
    · refine g_callVi (pc := 635) (q0 := 38) X (c_O_same_ok (m_l M) B a r R.tp R.kd R.rt R.fl R.tt R.cd R.ln 3 7 (R.g 3) (R.g 7) (by omega) (by omega) (by omega) h4) wd_936 wd_937 wd_938 wd_5 wd_939 hd_O_same [38, 40, 60, 64, 41] rfl rfl [a, r 1, r (20 + 3), r (20 + 7), r 2] (fun _ => rfl) rfl rfl rfl (by rw [hR]; decide) ⟨hn1, hn2⟩ rfl (Nat.le_of_ble_eq_true rfl) d_law_635 (fun r9 _ hr9 => ?_)
      subst hr9
      dsimp only [wput, LW, List.set]
      exact kk
  · rcases (show j = 0 ∨ j = 1 ∨ j = 2 ∨ j = 3 ∨ j = 5 ∨ j = 6 ∨ j = 7 from by omega) with e9 | e9 | e9 | e9 | e9 | e9 | e9 <;> subst e9
    · refine g_callVi (pc := 635) (q0 := 38) X (c_O_same_ok (m_l M) B a r R.tp R.kd R.rt R.fl R.tt R.cd R.ln 4 0 (R.g 4) (R.g 0) (by omega) (by omega) (by omega) h4) wd_936 wd_937 wd_938 wd_5 wd_939 hd_O_same [38, 40, 61, 57, 41] rfl rfl [a, r 1, r (20 + 4), r (20 + 0), r 2] (fun _ => rfl) rfl rfl rfl (by rw [hR]; decide) ⟨hn1, hn2⟩ rfl (Nat.le_of_ble_eq_true rfl) d_law_635 (fun r9 _ hr9 => ?_)
      subst hr9
      dsimp only [wput, LW, List.set]
      exact kk
    · refine g_callVi (pc := 635) (q0 := 38) X (c_O_same_ok (m_l M) B a r R.tp R.kd R.rt R.fl R.tt R.cd R.ln 4 1 (R.g 4) (R.g 1) (by omega) (by omega) (by omega) h4) wd_936 wd_937 wd_938 wd_5 wd_939 hd_O_same [38, 40, 61, 58, 41] rfl rfl [a, r 1, r (20 + 4), r (20 + 1), r 2] (fun _ => rfl) rfl rfl rfl (by rw [hR]; decide) ⟨hn1, hn2⟩ rfl (Nat.le_of_ble_eq_true rfl) d_law_635 (fun r9 _ hr9 => ?_)
      subst hr9
      dsimp only [wput, LW, List.set]
      exact kk
    · refine g_callVi (pc := 635) (q0 := 38) X (c_O_same_ok (m_l M) B a r R.tp R.kd R.rt R.fl R.tt R.cd R.ln 4 2 (R.g 4) (R.g 2) (by omega) (by omega) (by omega) h4) wd_936 wd_937 wd_938 wd_5 wd_939 hd_O_same [38, 40, 61, 59, 41] rfl rfl [a, r 1, r (20 + 4), r (20 + 2), r 2] (fun _ => rfl) rfl rfl rfl (by rw [hR]; decide) ⟨hn1, hn2⟩ rfl (Nat.le_of_ble_eq_true rfl) d_law_635 (fun r9 _ hr9 => ?_)
      subst hr9
      dsimp only [wput, LW, List.set]
      exact kk
    · refine g_callVi (pc := 635) (q0 := 38) X (c_O_same_ok (m_l M) B a r R.tp R.kd R.rt R.fl R.tt R.cd R.ln 4 3 (R.g 4) (R.g 3) (by omega) (by omega) (by omega) h4) wd_936 wd_937 wd_938 wd_5 wd_939 hd_O_same [38, 40, 61, 60, 41] rfl rfl [a, r 1, r (20 + 4), r (20 + 3), r 2] (fun _ => rfl) rfl rfl rfl (by rw [hR]; decide) ⟨hn1, hn2⟩ rfl (Nat.le_of_ble_eq_true rfl) d_law_635 (fun r9 _ hr9 => ?_)
      subst hr9
      dsimp only [wput, LW, List.set]
      exact kk
    · refine g_callVi (pc := 635) (q0 := 38) X (c_O_same_ok (m_l M) B a r R.tp R.kd R.rt R.fl R.tt R.cd R.ln 4 5 (R.g 4) (R.g 5) (by omega) (by omega) (by omega) h4) wd_936 wd_937 wd_938 wd_5 wd_939 hd_O_same [38, 40, 61, 62, 41] rfl rfl [a, r 1, r (20 + 4), r (20 + 5), r 2] (fun _ => rfl) rfl rfl rfl (by rw [hR]; decide) ⟨hn1, hn2⟩ rfl (Nat.le_of_ble_eq_true rfl) d_law_635 (fun r9 _ hr9 => ?_)
      subst hr9
      dsimp only [wput, LW, List.set]
      exact kk
    · refine g_callVi (pc := 635) (q0 := 38) X (c_O_same_ok (m_l M) B a r R.tp R.kd R.rt R.fl R.tt R.cd R.ln 4 6 (R.g 4) (R.g 6) (by omega) (by omega) (by omega) h4) wd_936 wd_937 wd_938 wd_5 wd_939 hd_O_same [38, 40, 61, 63, 41] rfl rfl [a, r 1, r (20 + 4), r (20 + 6), r 2] (fun _ => rfl) rfl rfl rfl (by rw [hR]; decide) ⟨hn1, hn2⟩ rfl (Nat.le_of_ble_eq_true rfl) d_law_635 (fun r9 _ hr9 => ?_)
      subst hr9
      dsimp only [wput, LW, List.set]
      exact kk
    · refine g_callVi (pc := 635) (q0 := 38) X (c_O_same_ok (m_l M) B a r R.tp R.kd R.rt R.fl R.tt R.cd R.ln 4 7 (R.g 4) (R.g 7) (by omega) (by omega) (by omega) h4) wd_936 wd_937 wd_938 wd_5 wd_939 hd_O_same [38, 40, 61, 64, 41] rfl rfl [a, r 1, r (20 + 4), r (20 + 7), r 2] (fun _ => rfl) rfl rfl rfl (by rw [hR]; decide) ⟨hn1, hn2⟩ rfl (Nat.le_of_ble_eq_true rfl) d_law_635 (fun r9 _ hr9 => ?_)
      subst hr9
      dsimp only [wput, LW, List.set]
      exact kk
  · rcases (show j = 0 ∨ j = 1 ∨ j = 2 ∨ j = 3 ∨ j = 4 ∨ j = 6 ∨ j = 7 from by omega) with e9 | e9 | e9 | e9 | e9 | e9 | e9 <;> subst e9
    · refine g_callVi (pc := 635) (q0 := 38) X (c_O_same_ok (m_l M) B a r R.tp R.kd R.rt R.fl R.tt R.cd R.ln 5 0 (R.g 5) (R.g 0) (by omega) (by omega) (by omega) h4) wd_936 wd_937 wd_938 wd_5 wd_939 hd_O_same [38, 40, 62, 57, 41] rfl rfl [a, r 1, r (20 + 5), r (20 + 0), r 2] (fun _ => rfl) rfl rfl rfl (by rw [hR]; decide) ⟨hn1, hn2⟩ rfl (Nat.le_of_ble_eq_true rfl) d_law_635 (fun r9 _ hr9 => ?_)
      subst hr9
      dsimp only [wput, LW, List.set]
      exact kk
    · refine g_callVi (pc := 635) (q0 := 38) X (c_O_same_ok (m_l M) B a r R.tp R.kd R.rt R.fl R.tt R.cd R.ln 5 1 (R.g 5) (R.g 1) (by omega) (by omega) (by omega) h4) wd_936 wd_937 wd_938 wd_5 wd_939 hd_O_same [38, 40, 62, 58, 41] rfl rfl [a, r 1, r (20 + 5), r (20 + 1), r 2] (fun _ => rfl) rfl rfl rfl (by rw [hR]; decide) ⟨hn1, hn2⟩ rfl (Nat.le_of_ble_eq_true rfl) d_law_635 (fun r9 _ hr9 => ?_)
      subst hr9
      dsimp only [wput, LW, List.set]
      exact kk
    · refine g_callVi (pc := 635) (q0 := 38) X (c_O_same_ok (m_l M) B a r R.tp R.kd R.rt R.fl R.tt R.cd R.ln 5 2 (R.g 5) (R.g 2) (by omega) (by omega) (by omega) h4) wd_936 wd_937 wd_938 wd_5 wd_939 hd_O_same [38, 40, 62, 59, 41] rfl rfl [a, r 1, r (20 + 5), r (20 + 2), r 2] (fun _ => rfl) rfl rfl rfl (by rw [hR]; decide) ⟨hn1, hn2⟩ rfl (Nat.le_of_ble_eq_true rfl) d_law_635 (fun r9 _ hr9 => ?_)
      subst hr9
      dsimp only [wput, LW, List.set]
      exact kk
    · refine g_callVi (pc := 635) (q0 := 38) X (c_O_same_ok (m_l M) B a r R.tp R.kd R.rt R.fl R.tt R.cd R.ln 5 3 (R.g 5) (R.g 3) (by omega) (by omega) (by omega) h4) wd_936 wd_937 wd_938 wd_5 wd_939 hd_O_same [38, 40, 62, 60, 41] rfl rfl [a, r 1, r (20 + 5), r (20 + 3), r 2] (fun _ => rfl) rfl rfl rfl (by rw [hR]; decide) ⟨hn1, hn2⟩ rfl (Nat.le_of_ble_eq_true rfl) d_law_635 (fun r9 _ hr9 => ?_)
      subst hr9
      dsimp only [wput, LW, List.set]
      exact kk
    · refine g_callVi (pc := 635) (q0 := 38) X (c_O_same_ok (m_l M) B a r R.tp R.kd R.rt R.fl R.tt R.cd R.ln 5 4 (R.g 5) (R.g 4) (by omega) (by omega) (by omega) h4) wd_936 wd_937 wd_938 wd_5 wd_939 hd_O_same [38, 40, 62, 61, 41] rfl rfl [a, r 1, r (20 + 5), r (20 + 4), r 2] (fun _ => rfl) rfl rfl rfl (by rw [hR]; decide) ⟨hn1, hn2⟩ rfl (Nat.le_of_ble_eq_true rfl) d_law_635 (fun r9 _ hr9 => ?_)
      subst hr9
      dsimp only [wput, LW, List.set]
      exact kk
    · refine g_callVi (pc := 635) (q0 := 38) X (c_O_same_ok (m_l M) B a r R.tp R.kd R.rt R.fl R.tt R.cd R.ln 5 6 (R.g 5) (R.g 6) (by omega) (by omega) (by omega) h4) wd_936 wd_937 wd_938 wd_5 wd_939 hd_O_same [38, 40, 62, 63, 41] rfl rfl [a, r 1, r (20 + 5), r (20 + 6), r 2] (fun _ => rfl) rfl rfl rfl (by rw [hR]; decide) ⟨hn1, hn2⟩ rfl (Nat.le_of_ble_eq_true rfl) d_law_635 (fun r9 _ hr9 => ?_)
      subst hr9
      dsimp only [wput, LW, List.set]
      exact kk
    · refine g_callVi (pc := 635) (q0 := 38) X (c_O_same_ok (m_l M) B a r R.tp R.kd R.rt R.fl R.tt R.cd R.ln 5 7 (R.g 5) (R.g 7) (by omega) (by omega) (by omega) h4) wd_936 wd_937 wd_938 wd_5 wd_939 hd_O_same [38, 40, 62, 64, 41] rfl rfl [a, r 1, r (20 + 5), r (20 + 7), r 2] (fun _ => rfl) rfl rfl rfl (by rw [hR]; decide) ⟨hn1, hn2⟩ rfl (Nat.le_of_ble_eq_true rfl) d_law_635 (fun r9 _ hr9 => ?_)
      subst hr9
      dsimp only [wput, LW, List.set]
      exact kk
  · rcases (show j = 0 ∨ j = 1 ∨ j = 2 ∨ j = 3 ∨ j = 4 ∨ j = 5 ∨ j = 7 from by omega) with e9 | e9 | e9 | e9 | e9 | e9 | e9 <;> subst e9
    · refine g_callVi (pc := 635) (q0 := 38) X (c_O_same_ok (m_l M) B a r R.tp R.kd R.rt R.fl R.tt R.cd R.ln 6 0 (R.g 6) (R.g 0) (by omega) (by omega) (by omega) h4) wd_936 wd_937 wd_938 wd_5 wd_939 hd_O_same [38, 40, 63, 57, 41] rfl rfl [a, r 1, r (20 + 6), r (20 + 0), r 2] (fun _ => rfl) rfl rfl rfl (by rw [hR]; decide) ⟨hn1, hn2⟩ rfl (Nat.le_of_ble_eq_true rfl) d_law_635 (fun r9 _ hr9 => ?_)
      subst hr9
      dsimp only [wput, LW, List.set]
      exact kk
    · refine g_callVi (pc := 635) (q0 := 38) X (c_O_same_ok (m_l M) B a r R.tp R.kd R.rt R.fl R.tt R.cd R.ln 6 1 (R.g 6) (R.g 1) (by omega) (by omega) (by omega) h4) wd_936 wd_937 wd_938 wd_5 wd_939 hd_O_same [38, 40, 63, 58, 41] rfl rfl [a, r 1, r (20 + 6), r (20 + 1), r 2] (fun _ => rfl) rfl rfl rfl (by rw [hR]; decide) ⟨hn1, hn2⟩ rfl (Nat.le_of_ble_eq_true rfl) d_law_635 (fun r9 _ hr9 => ?_)
      subst hr9
      dsimp only [wput, LW, List.set]
      exact kk
    · refine g_callVi (pc := 635) (q0 := 38) X (c_O_same_ok (m_l M) B a r R.tp R.kd R.rt R.fl R.tt R.cd R.ln 6 2 (R.g 6) (R.g 2) (by omega) (by omega) (by omega) h4) wd_936 wd_937 wd_938 wd_5 wd_939 hd_O_same [38, 40, 63, 59, 41] rfl rfl [a, r 1, r (20 + 6), r (20 + 2), r 2] (fun _ => rfl) rfl rfl rfl (by rw [hR]; decide) ⟨hn1, hn2⟩ rfl (Nat.le_of_ble_eq_true rfl) d_law_635 (fun r9 _ hr9 => ?_)
      subst hr9
      dsimp only [wput, LW, List.set]
      exact kk
    · refine g_callVi (pc := 635) (q0 := 38) X (c_O_same_ok (m_l M) B a r R.tp R.kd R.rt R.fl R.tt R.cd R.ln 6 3 (R.g 6) (R.g 3) (by omega) (by omega) (by omega) h4) wd_936 wd_937 wd_938 wd_5 wd_939 hd_O_same [38, 40, 63, 60, 41] rfl rfl [a, r 1, r (20 + 6), r (20 + 3), r 2] (fun _ => rfl) rfl rfl rfl (by rw [hR]; decide) ⟨hn1, hn2⟩ rfl (Nat.le_of_ble_eq_true rfl) d_law_635 (fun r9 _ hr9 => ?_)
      subst hr9
      dsimp only [wput, LW, List.set]
      exact kk
    · refine g_callVi (pc := 635) (q0 := 38) X (c_O_same_ok (m_l M) B a r R.tp R.kd R.rt R.fl R.tt R.cd R.ln 6 4 (R.g 6) (R.g 4) (by omega) (by omega) (by omega) h4) wd_936 wd_937 wd_938 wd_5 wd_939 hd_O_same [38, 40, 63, 61, 41] rfl rfl [a, r 1, r (20 + 6), r (20 + 4), r 2] (fun _ => rfl) rfl rfl rfl (by rw [hR]; decide) ⟨hn1, hn2⟩ rfl (Nat.le_of_ble_eq_true rfl) d_law_635 (fun r9 _ hr9 => ?_)
      subst hr9
      dsimp only [wput, LW, List.set]
      exact kk
    · refine g_callVi (pc := 635) (q0 := 38) X (c_O_same_ok (m_l M) B a r R.tp R.kd R.rt R.fl R.tt R.cd R.ln 6 5 (R.g 6) (R.g 5) (by omega) (by omega) (by omega) h4) wd_936 wd_937 wd_938 wd_5 wd_939 hd_O_same [38, 40, 63, 62, 41] rfl rfl [a, r 1, r (20 + 6), r (20 + 5), r 2] (fun _ => rfl) rfl rfl rfl (by rw [hR]; decide) ⟨hn1, hn2⟩ rfl (Nat.le_of_ble_eq_true rfl) d_law_635 (fun r9 _ hr9 => ?_)
      subst hr9
      dsimp only [wput, LW, List.set]
      exact kk
    · refine g_callVi (pc := 635) (q0 := 38) X (c_O_same_ok (m_l M) B a r R.tp R.kd R.rt R.fl R.tt R.cd R.ln 6 7 (R.g 6) (R.g 7) (by omega) (by omega) (by omega) h4) wd_936 wd_937 wd_938 wd_5 wd_939 hd_O_same [38, 40, 63, 64, 41] rfl rfl [a, r 1, r (20 + 6), r (20 + 7), r 2] (fun _ => rfl) rfl rfl rfl (by rw [hR]; decide) ⟨hn1, hn2⟩ rfl (Nat.le_of_ble_eq_true rfl) d_law_635 (fun r9 _ hr9 => ?_)
      subst hr9
      dsimp only [wput, LW, List.set]
      exact kk
  · rcases (show j = 0 ∨ j = 1 ∨ j = 2 ∨ j = 3 ∨ j = 4 ∨ j = 5 ∨ j = 6 from by omega) with e9 | e9 | e9 | e9 | e9 | e9 | e9 <;> subst e9
    · refine g_callVi (pc := 635) (q0 := 38) X (c_O_same_ok (m_l M) B a r R.tp R.kd R.rt R.fl R.tt R.cd R.ln 7 0 (R.g 7) (R.g 0) (by omega) (by omega) (by omega) h4) wd_936 wd_937 wd_938 wd_5 wd_939 hd_O_same [38, 40, 64, 57, 41] rfl rfl [a, r 1, r (20 + 7), r (20 + 0), r 2] (fun _ => rfl) rfl rfl rfl (by rw [hR]; decide) ⟨hn1, hn2⟩ rfl (Nat.le_of_ble_eq_true rfl) d_law_635 (fun r9 _ hr9 => ?_)
      subst hr9
      dsimp only [wput, LW, List.set]
      exact kk
    · refine g_callVi (pc := 635) (q0 := 38) X (c_O_same_ok (m_l M) B a r R.tp R.kd R.rt R.fl R.tt R.cd R.ln 7 1 (R.g 7) (R.g 1) (by omega) (by omega) (by omega) h4) wd_936 wd_937 wd_938 wd_5 wd_939 hd_O_same [38, 40, 64, 58, 41] rfl rfl [a, r 1, r (20 + 7), r (20 + 1), r 2] (fun _ => rfl) rfl rfl rfl (by rw [hR]; decide) ⟨hn1, hn2⟩ rfl (Nat.le_of_ble_eq_true rfl) d_law_635 (fun r9 _ hr9 => ?_)
      subst hr9
      dsimp only [wput, LW, List.set]
      exact kk
    · refine g_callVi (pc := 635) (q0 := 38) X (c_O_same_ok (m_l M) B a r R.tp R.kd R.rt R.fl R.tt R.cd R.ln 7 2 (R.g 7) (R.g 2) (by omega) (by omega) (by omega) h4) wd_936 wd_937 wd_938 wd_5 wd_939 hd_O_same [38, 40, 64, 59, 41] rfl rfl [a, r 1, r (20 + 7), r (20 + 2), r 2] (fun _ => rfl) rfl rfl rfl (by rw [hR]; decide) ⟨hn1, hn2⟩ rfl (Nat.le_of_ble_eq_true rfl) d_law_635 (fun r9 _ hr9 => ?_)
      subst hr9
      dsimp only [wput, LW, List.set]
      exact kk
    · refine g_callVi (pc := 635) (q0 := 38) X (c_O_same_ok (m_l M) B a r R.tp R.kd R.rt R.fl R.tt R.cd R.ln 7 3 (R.g 7) (R.g 3) (by omega) (by omega) (by omega) h4) wd_936 wd_937 wd_938 wd_5 wd_939 hd_O_same [38, 40, 64, 60, 41] rfl rfl [a, r 1, r (20 + 7), r (20 + 3), r 2] (fun _ => rfl) rfl rfl rfl (by rw [hR]; decide) ⟨hn1, hn2⟩ rfl (Nat.le_of_ble_eq_true rfl) d_law_635 (fun r9 _ hr9 => ?_)
      subst hr9
      dsimp only [wput, LW, List.set]
      exact kk
    · refine g_callVi (pc := 635) (q0 := 38) X (c_O_same_ok (m_l M) B a r R.tp R.kd R.rt R.fl R.tt R.cd R.ln 7 4 (R.g 7) (R.g 4) (by omega) (by omega) (by omega) h4) wd_936 wd_937 wd_938 wd_5 wd_939 hd_O_same [38, 40, 64, 61, 41] rfl rfl [a, r 1, r (20 + 7), r (20 + 4), r 2] (fun _ => rfl) rfl rfl rfl (by rw [hR]; decide) ⟨hn1, hn2⟩ rfl (Nat.le_of_ble_eq_true rfl) d_law_635 (fun r9 _ hr9 => ?_)
      subst hr9
      dsimp only [wput, LW, List.set]
      exact kk
    · refine g_callVi (pc := 635) (q0 := 38) X (c_O_same_ok (m_l M) B a r R.tp R.kd R.rt R.fl R.tt R.cd R.ln 7 5 (R.g 7) (R.g 5) (by omega) (by omega) (by omega) h4) wd_936 wd_937 wd_938 wd_5 wd_939 hd_O_same [38, 40, 64, 62, 41] rfl rfl [a, r 1, r (20 + 7), r (20 + 5), r 2] (fun _ => rfl) rfl rfl rfl (by rw [hR]; decide) ⟨hn1, hn2⟩ rfl (Nat.le_of_ble_eq_true rfl) d_law_635 (fun r9 _ hr9 => ?_)
      subst hr9
      dsimp only [wput, LW, List.set]
      exact kk
    · refine g_callVi (pc := 635) (q0 := 38) X (c_O_same_ok (m_l M) B a r R.tp R.kd R.rt R.fl R.tt R.cd R.ln 7 6 (R.g 7) (R.g 6) (by omega) (by omega) (by omega) h4) wd_936 wd_937 wd_938 wd_5 wd_939 hd_O_same [38, 40, 64, 63, 41] rfl rfl [a, r 1, r (20 + 7), r (20 + 6), r 2] (fun _ => rfl) rfl rfl rfl (by rw [hR]; decide) ⟨hn1, hn2⟩ rfl (Nat.le_of_ble_eq_true rfl) d_law_635 (fun r9 _ hr9 => ?_)
      subst hr9
      dsimp only [wput, LW, List.set]
      exact kk

theorem kR_sames {B : Bx} {M : Mx} {Q : State → Prop} (X : CX B M code 8 "SpongeDigestsLaw") (hR : m_R M = room_1) (da a oa : Nat) (q r : Nat → Nat) (C : CS) (R : RS) (ot : Nat → Int64) (i : Nat) (h1 : i < 8) (h3 : R.ln i ≤ 8192) : CallS B M Q 635 [.int (nI i), .int (nI i), .ref a] (LW B da a oa q r C R ot) (LW B da a oa q r C ((R.tp, nI 0, R.kd, R.rt, R.fl, R.tt, R.fo, R.ln, R.g, R.ro, R.K, R.s2, R.s5, R.lm, R.pd, R.T, R.rn, R.S, R.o, R.c, R.w, R.bk, R.hk, R.nf) : RS) ot) (.int (it (smR (R.g i) (R.g i)) (R.ln i) (nI 1))) 0 0 := by
  intro n1 n2 lv hn1 hn2 kk
  rcases (show i = 0 ∨ i = 1 ∨ i = 2 ∨ i = 3 ∨ i = 4 ∨ i = 5 ∨ i = 6 ∨ i = 7 from by omega) with e9 | e9 | e9 | e9 | e9 | e9 | e9 | e9 <;> subst e9
  · refine g_callVi (pc := 635) (q0 := 38) X (c_O_same_self (m_l M) B a r R.tp R.kd R.rt R.fl R.tt R.cd R.ln 0 (R.g 0) (by omega) (by omega)) wd_936 wd_937 wd_938 wd_5 wd_939 hd_O_same [38, 40, 57, 41] rfl rfl [a, r 1, r (20 + 0), r 2] (fun _ => rfl) rfl rfl rfl (by rw [hR]; decide) ⟨hn1, hn2⟩ rfl (Nat.le_of_ble_eq_true rfl) d_law_635 (fun r9 _ hr9 => ?_)
    subst hr9
    dsimp only [wput, LW, List.set]
    exact kk
  · refine g_callVi (pc := 635) (q0 := 38) X (c_O_same_self (m_l M) B a r R.tp R.kd R.rt R.fl R.tt R.cd R.ln 1 (R.g 1) (by omega) (by omega)) wd_936 wd_937 wd_938 wd_5 wd_939 hd_O_same [38, 40, 58, 41] rfl rfl [a, r 1, r (20 + 1), r 2] (fun _ => rfl) rfl rfl rfl (by rw [hR]; decide) ⟨hn1, hn2⟩ rfl (Nat.le_of_ble_eq_true rfl) d_law_635 (fun r9 _ hr9 => ?_)
    subst hr9
    dsimp only [wput, LW, List.set]
    exact kk
  · refine g_callVi (pc := 635) (q0 := 38) X (c_O_same_self (m_l M) B a r R.tp R.kd R.rt R.fl R.tt R.cd R.ln 2 (R.g 2) (by omega) (by omega)) wd_936 wd_937 wd_938 wd_5 wd_939 hd_O_same [38, 40, 59, 41] rfl rfl [a, r 1, r (20 + 2), r 2] (fun _ => rfl) rfl rfl rfl (by rw [hR]; decide) ⟨hn1, hn2⟩ rfl (Nat.le_of_ble_eq_true rfl) d_law_635 (fun r9 _ hr9 => ?_)
    subst hr9
    dsimp only [wput, LW, List.set]
    exact kk
  · refine g_callVi (pc := 635) (q0 := 38) X (c_O_same_self (m_l M) B a r R.tp R.kd R.rt R.fl R.tt R.cd R.ln 3 (R.g 3) (by omega) (by omega)) wd_936 wd_937 wd_938 wd_5 wd_939 hd_O_same [38, 40, 60, 41] rfl rfl [a, r 1, r (20 + 3), r 2] (fun _ => rfl) rfl rfl rfl (by rw [hR]; decide) ⟨hn1, hn2⟩ rfl (Nat.le_of_ble_eq_true rfl) d_law_635 (fun r9 _ hr9 => ?_)
    subst hr9
    dsimp only [wput, LW, List.set]
    exact kk
  · refine g_callVi (pc := 635) (q0 := 38) X (c_O_same_self (m_l M) B a r R.tp R.kd R.rt R.fl R.tt R.cd R.ln 4 (R.g 4) (by omega) (by omega)) wd_936 wd_937 wd_938 wd_5 wd_939 hd_O_same [38, 40, 61, 41] rfl rfl [a, r 1, r (20 + 4), r 2] (fun _ => rfl) rfl rfl rfl (by rw [hR]; decide) ⟨hn1, hn2⟩ rfl (Nat.le_of_ble_eq_true rfl) d_law_635 (fun r9 _ hr9 => ?_)
    subst hr9
    dsimp only [wput, LW, List.set]
    exact kk
  · refine g_callVi (pc := 635) (q0 := 38) X (c_O_same_self (m_l M) B a r R.tp R.kd R.rt R.fl R.tt R.cd R.ln 5 (R.g 5) (by omega) (by omega)) wd_936 wd_937 wd_938 wd_5 wd_939 hd_O_same [38, 40, 62, 41] rfl rfl [a, r 1, r (20 + 5), r 2] (fun _ => rfl) rfl rfl rfl (by rw [hR]; decide) ⟨hn1, hn2⟩ rfl (Nat.le_of_ble_eq_true rfl) d_law_635 (fun r9 _ hr9 => ?_)
    subst hr9
    dsimp only [wput, LW, List.set]
    exact kk
  · refine g_callVi (pc := 635) (q0 := 38) X (c_O_same_self (m_l M) B a r R.tp R.kd R.rt R.fl R.tt R.cd R.ln 6 (R.g 6) (by omega) (by omega)) wd_936 wd_937 wd_938 wd_5 wd_939 hd_O_same [38, 40, 63, 41] rfl rfl [a, r 1, r (20 + 6), r 2] (fun _ => rfl) rfl rfl rfl (by rw [hR]; decide) ⟨hn1, hn2⟩ rfl (Nat.le_of_ble_eq_true rfl) d_law_635 (fun r9 _ hr9 => ?_)
    subst hr9
    dsimp only [wput, LW, List.set]
    exact kk
  · refine g_callVi (pc := 635) (q0 := 38) X (c_O_same_self (m_l M) B a r R.tp R.kd R.rt R.fl R.tt R.cd R.ln 7 (R.g 7) (by omega) (by omega)) wd_936 wd_937 wd_938 wd_5 wd_939 hd_O_same [38, 40, 64, 41] rfl rfl [a, r 1, r (20 + 7), r 2] (fun _ => rfl) rfl rfl rfl (by rw [hR]; decide) ⟨hn1, hn2⟩ rfl (Nat.le_of_ble_eq_true rfl) d_law_635 (fun r9 _ hr9 => ?_)
    subst hr9
    dsimp only [wput, LW, List.set]
    exact kk

theorem kR_samen {B : Bx} {M : Mx} {Q : State → Prop} (X : CX B M code 8 "SpongeDigestsLaw") (hR : m_R M = room_1) (da a oa : Nat) (q r : Nat → Nat) (C : CS) (R : RS) (ot : Nat → Int64) (i j : Nat) (h1 : i < 8) (h2 : j < 8) (h3 : R.ln i ≤ 8192) (h5 : R.ln j ≤ 8192) (h4 : R.ln i ≠ R.ln j) : CallS B M Q 635 [.int (nI j), .int (nI i), .ref a] (LW B da a oa q r C R ot) (LW B da a oa q r C ((R.tp, nI 0, R.kd, R.rt, R.fl, R.tt, R.fo, R.ln, R.g, R.ro, R.K, R.s2, R.s5, R.lm, R.pd, R.T, R.rn, R.S, R.o, R.c, R.w, R.bk, R.hk, R.nf) : RS) ot) (.int (nI 0)) 0 0 := by
  intro n1 n2 lv hn1 hn2 kk
  refine g_callVi (pc := 635) (q0 := 38) X (c_O_same_ne (m_l M) B a r R.tp R.kd R.rt R.fl R.tt R.cd R.ln i j (by omega) (by omega) (by omega) (by omega) h4) wd_936 wd_937 wd_938 wd_5 wd_939 hd_O_same [38, 41] rfl rfl [a, r 2] (fun _ => rfl) rfl rfl rfl (by rw [hR]; decide) ⟨hn1, hn2⟩ rfl (Nat.le_of_ble_eq_true rfl) d_law_635 (fun r9 _ hr9 => ?_)
  subst hr9
  dsimp only [wput, LW, List.set]
  exact kk

theorem kR_same1 {B : Bx} {M : Mx} {Q : State → Prop} (X : CX B M code 8 "SpongeDigestsLaw") (hR : m_R M = room_1) (da a oa : Nat) (q r : Nat → Nat) (C : CS) (R : RS) (ot : Nat → Int64) (x y : Int32) (h1 : inR x (nI 0) (nI 7) = nI 0) : CallS B M Q 635 [.int y, .int x, .ref a] (LW B da a oa q r C R ot) (LW B da a oa q r C ((R.tp, nI 1, R.kd, R.rt, R.fl, R.tt, R.fo, R.ln, R.g, R.ro, R.K, R.s2, R.s5, R.lm, R.pd, R.T, R.rn, R.S, R.o, R.c, R.w, R.bk, R.hk, R.nf) : RS) ot) (.int (nI 0)) 0 0 := by
  intro n1 n2 lv hn1 hn2 kk
  refine g_callVi (pc := 635) (q0 := 38) X (c_O_same_b1 (m_l M) B a r R.tp R.kd R.rt R.fl R.tt R.cd x y h1) wd_936 wd_937 wd_938 wd_5 wd_939 hd_O_same [38] rfl rfl [a] (fun _ => rfl) rfl rfl rfl (by rw [hR]; decide) ⟨hn1, hn2⟩ rfl (Nat.le_of_ble_eq_true rfl) d_law_635 (fun r9 _ hr9 => ?_)
  subst hr9
  dsimp only [wput, LW, List.set]
  exact kk

theorem kR_same2 {B : Bx} {M : Mx} {Q : State → Prop} (X : CX B M code 8 "SpongeDigestsLaw") (hR : m_R M = room_1) (da a oa : Nat) (q r : Nat → Nat) (C : CS) (R : RS) (ot : Nat → Int64) (x y : Int32) (h1 : inR x (nI 0) (nI 7) = nI 1) (h2 : inR y (nI 0) (nI 7) = nI 0) : CallS B M Q 635 [.int y, .int x, .ref a] (LW B da a oa q r C R ot) (LW B da a oa q r C ((R.tp, nI 1, R.kd, R.rt, R.fl, R.tt, R.fo, R.ln, R.g, R.ro, R.K, R.s2, R.s5, R.lm, R.pd, R.T, R.rn, R.S, R.o, R.c, R.w, R.bk, R.hk, R.nf) : RS) ot) (.int (nI 0)) 0 0 := by
  intro n1 n2 lv hn1 hn2 kk
  refine g_callVi (pc := 635) (q0 := 38) X (c_O_same_b2 (m_l M) B a r R.tp R.kd R.rt R.fl R.tt R.cd x y h1 h2) wd_936 wd_937 wd_938 wd_5 wd_939 hd_O_same [38] rfl rfl [a] (fun _ => rfl) rfl rfl rfl (by rw [hR]; decide) ⟨hn1, hn2⟩ rfl (Nat.le_of_ble_eq_true rfl) d_law_635 (fun r9 _ hr9 => ?_)
  subst hr9
  dsimp only [wput, LW, List.set]
  exact kk
