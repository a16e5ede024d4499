/-! what the law's loop keeps -/
def CON (R : RS) : Prop := (∀ i, i < 16 → R.ro i = rtT i) ∧ (∀ t, t < 80 → R.K t = s_l 8 t) ∧ (∀ i, i < 8 → R.s2 i = s_l 6 i) ∧ (∀ i, i < 8 → R.s5 i = s_l 7 i) ∧ (∀ j, j < 25 → R.T j = s_i 10 j) ∧ (∀ i, i < 24 → R.rn i = s_l 9 i)
def INV (C : CS) (R : RS) : Prop := C.tp = R.tp ∧ C.tp ≤ 8192 ∧ (∀ i, i < 8 → C.n i = R.ln i ∧ C.n i ≤ 8192 ∧ ∀ j, j < C.n i → C.f i j = R.g i j) ∧ (∀ j, j < C.tp → C.ft j = R.fo j) ∧ CON R
theorem INV_mk {C : CS} {R : RS} (h1 : C.tp = R.tp) (h2 : C.tp ≤ 8192) (h3 : ∀ i, i < 8 → C.n i = R.ln i ∧ C.n i ≤ 8192 ∧ ∀ j, j < C.n i → C.f i j = R.g i j) (h4 : ∀ j, j < C.tp → C.ft j = R.fo j) (h5 : CON R) : INV C R := ⟨h1, h2, h3, h4, h5⟩
theorem SL_set {n ln : Nat → Nat} {f g : Nat → Nat → Int8} (h : ∀ i, i < 8 → n i = ln i ∧ n i ≤ 8192 ∧ ∀ j, j < n i → f i j = g i j) (i : Nat) {m m2 : Nat} {F Gf : Nat → Int8} (hm : m ≤ 8192) (e : m = m2) (hF : ∀ j, j < m → F j = Gf j) : ∀ z, z < 8 → va_up n i m z = va_up ln i m2 z ∧ va_up n i m z ≤ 8192 ∧ ∀ j, j < va_up n i m z → va_up f i F z j = va_up g i Gf z j := by
  intro z hz
  unfold va_up
  by_cases c : z = i
  · rw [if_pos c, if_pos c, if_pos c, if_pos c]
    exact ⟨e, hm, hF⟩
  · rw [if_neg c, if_neg c, if_neg c, if_neg c]
    exact h z hz
theorem SL_setn {n ln : Nat → Nat} {f g : Nat → Nat → Int8} (h : ∀ i, i < 8 → n i = ln i ∧ n i ≤ 8192 ∧ ∀ j, j < n i → f i j = g i j) (i : Nat) {m m2 : Nat} (hm : m ≤ 8192) (e : m = m2) (hF : ∀ j, j < m → f i j = g i j) : ∀ z, z < 8 → va_up n i m z = va_up ln i m2 z ∧ va_up n i m z ≤ 8192 ∧ ∀ j, j < va_up n i m z → f z j = g z j := by
  intro z hz
  unfold va_up
  by_cases c : z = i
  · rw [if_pos c, if_pos c]
    exact ⟨e, hm, by rw [c]; exact hF⟩
  · rw [if_neg c, if_neg c]
    exact h z hz
theorem SL_setf {n ln : Nat → Nat} {f g : Nat → Nat → Int8} (h : ∀ i, i < 8 → n i = ln i ∧ n i ≤ 8192 ∧ ∀ j, j < n i → f i j = g i j) (i : Nat) {F Gf : Nat → Int8} (hF : ∀ j, j < n i → F j = Gf j) : ∀ z, z < 8 → n z = ln z ∧ n z ≤ 8192 ∧ ∀ j, j < n z → va_up f i F z j = va_up g i Gf z j := by
  intro z hz
  unfold va_up
  by_cases c : z = i
  · rw [if_pos c, if_pos c]
    subst c
    exact ⟨(h z hz).1, (h z hz).2.1, hF⟩
  · rw [if_neg c, if_neg c]
    exact h z hz
theorem hq_n {ot : Nat → Int64} {n m : Nat} (h : n = m) (hm : m < 2 ^ 31) : va_up ot 0 (lN n) 0 = (nI m).toInt64 := by rw [va_up_self, nI_l hm, h]
theorem n12 {n1 m : Nat} (h : n1 + 1 ≤ m) : n1 + 0 ≤ m := by omega
theorem n26 {n1 m : Nat} (h : n1 + 6 ≤ m) : n1 + 0 ≤ m := by omega

theorem SL_setS {n ln : Nat → Nat} {f g : Nat → Nat → Int8} (h : ∀ i, i < 8 → n i = ln i ∧ n i ≤ 8192 ∧ ∀ j, j < n i → f i j = g i j) (i : Nat) {F : Nat → Int8} (hF : ∀ j, j < n i → F j = g i j) : ∀ z, z < 8 → n z = va_up ln i (ln i) z ∧ n z ≤ 8192 ∧ ∀ j, j < n z → va_up f i F z j = g z j := by
  intro z hz
  rw [up_id]
  unfold va_up
  by_cases c : z = i
  · rw [if_pos c]
    subst c
    exact ⟨(h z hz).1, (h z hz).2.1, hF⟩
  · rw [if_neg c]
    exact h z hz

theorem step_0 {B : Bx} {M : Mx} {Q : State → Prop} (X : CX B M code 8 "SpongeDigestsLaw") (hR : m_R M = room_1) (hst : (m_l M).stackTraces = false) {b L : Nat} {xs : Nat → Int32} (hs : SCR M b L xs) (hL : L ≤ 3072) {da a oa : Nat} {q r : Nat → Nat} {C : CS} {R : RS} {ot : Nat → Int64} {k n1 n2 : Nat} (hk : 6 * k + 6 ≤ L) (hn1 : n1 + 1 ≤ (m_R M).cells) (hn2 : n2 + 6 ≤ (m_R M).slots) (hI : INV C R)
    (kk : ∀ (C2 : CS) (R2 : RS) (ot2 : Nat → Int64), INV C2 R2 → G B M 8 (n1 + 1) (n2 + 6) Q (LW B da a oa q r C2 R2 ot2) [(0, .ref b), (1, .ref da), (2, .ref a), (3, .ref oa), (4, .int (nI (6 * k)))] 746 []) : G B M 8 n1 n2 Q (LW B da a oa q r C R ot) [(0, .ref b), (1, .ref da), (2, .ref a), (3, .ref oa), (4, .int (nI (6 * k)))] 92 [] := by
  obtain ⟨i1, i2, i3, i4, i5⟩ := hI
  by_cases c : C.tp + 20 ≤ 8192
  · have hm := m_feed i4 (xs (6 * k + 1)) (xs (6 * k + 2)) (xs (6 * k + 3)) (xs (6 * k + 4)) (xs (6 * k + 5))
    rw [i1] at hm
    exact body_0 X hR hs hL rfl rfl rfl rfl rfl hk (Nat.zero_le 2) (n12 hn1) (n26 hn2) (kC_feed X hR da a oa q r C R ot (xs (6 * k + 1)) (xs (6 * k + 2)) (xs (6 * k + 3)) (xs (6 * k + 4)) (xs (6 * k + 5)) c) (kR_feed X hR da a oa q r _ R _ (xs (6 * k + 1)) (xs (6 * k + 2)) (xs (6 * k + 3)) (xs (6 * k + 4)) (xs (6 * k + 5)) (by rw [← i1]; exact c)) rfl (fun _ => (hq_n (by rw [i1]) (by omega))) (g_widen (n1 + 1) (n2 + 6) (Nat.le_succ _) (Nat.le_add_right _ 6) (kk _ _ _ (INV_mk (by show C.tp + 20 = R.tp + 20; rw [i1]) c i3 (by show ∀ j, j < C.tp + 20 → _; rw [i1]; exact hm) i5)))
  · exact body_0 X hR hs hL rfl rfl rfl rfl rfl hk (by decide) hn1 hn2 (kC_feedx X hR da a oa q r C R ot (xs (6 * k + 1)) (xs (6 * k + 2)) (xs (6 * k + 3)) (xs (6 * k + 4)) (xs (6 * k + 5)) hst (by omega) i2) (kR_feedx X hR da a oa q r C R ot (xs (6 * k + 1)) (xs (6 * k + 2)) (xs (6 * k + 3)) (xs (6 * k + 4)) (xs (6 * k + 5)) (by rw [← i1]; omega) (by rw [← i1]; exact i2)) rfl (fun h0 => absurd h0 (by decide)) (kk _ _ _ (INV_mk i1 i2 i3 i4 i5))
theorem step_1 {B : Bx} {M : Mx} {Q : State → Prop} (X : CX B M code 8 "SpongeDigestsLaw") (hR : m_R M = room_1) (hst : (m_l M).stackTraces = false) {b L : Nat} {xs : Nat → Int32} (hs : SCR M b L xs) (hL : L ≤ 3072) {da a oa : Nat} {q r : Nat → Nat} {C : CS} {R : RS} {ot : Nat → Int64} {k n1 n2 : Nat} (hk : 6 * k + 6 ≤ L) (hn1 : n1 + 1 ≤ (m_R M).cells) (hn2 : n2 + 6 ≤ (m_R M).slots) (hI : INV C R)
    (kk : ∀ (C2 : CS) (R2 : RS) (ot2 : Nat → Int64), INV C2 R2 → G B M 8 (n1 + 1) (n2 + 6) Q (LW B da a oa q r C2 R2 ot2) [(0, .ref b), (1, .ref da), (2, .ref a), (3, .ref oa), (4, .int (nI (6 * k)))] 746 []) : G B M 8 n1 n2 Q (LW B da a oa q r C R ot) [(0, .ref b), (1, .ref da), (2, .ref a), (3, .ref oa), (4, .int (nI (6 * k)))] 196 [] := by
  obtain ⟨i1, i2, i3, i4, i5⟩ := hI
  rcases inR_c (xs (6 * k + 1)) (lo := 0) (hi := 7) (by decide) (by decide) with h | ⟨i, e1, -, hi7⟩
  · exact body_1 X hR hs hL rfl rfl hk (by decide) hn1 hn2 (kC_end1 X hR da a oa q r C R ot (xs (6 * k + 1)) (xs (6 * k + 2)) hst h) (kR_end1 X hR da a oa q r C R ot (xs (6 * k + 1)) (xs (6 * k + 2)) h) rfl (fun h0 => absurd h0 (by decide)) (kk _ _ _ (INV_mk i1 i2 i3 i4 i5))
  · have h1 : i < 8 := by omega
    obtain ⟨s1, s2, s3⟩ := i3 i h1
    have h11 : inR (nI i) (nI 0) (nI 7) = nI 1 := inR_n (by omega) (by omega) (by omega)
    rcases inR_c (xs (6 * k + 2)) (lo := 0) (hi := 8192) (by decide) (by decide) with h | ⟨n, e2, -, hn⟩
    · exact body_1 X hR hs hL e1 rfl hk (by decide) hn1 hn2 (kC_end2 X hR da a oa q r C R ot i (xs (6 * k + 2)) hst h1 h) (kR_end2 X hR da a oa q r C R ot (nI i) (xs (6 * k + 2)) h11 h) rfl (fun h0 => absurd h0 (by decide)) (kk _ _ _ (INV_mk i1 i2 i3 i4 i5))
    · by_cases c : n ≤ C.tp
      · exact body_1 X hR hs hL e1 e2 hk (Nat.zero_le 2) (n12 hn1) (n26 hn2) (kC_end X hR da a oa q r C R ot i n h1 hn c i2) (kR_end X hR da a oa q r _ R _ i n h1 hn (by rw [← i1]; exact c) (by rw [← i1]; exact i2)) rfl (fun _ => (hq_n rfl (by omega))) (g_widen (n1 + 1) (n2 + 6) (Nat.le_succ _) (Nat.le_add_right _ 6) (kk _ _ _ (INV_mk rfl (Nat.zero_le _) (SL_set i3 i hn rfl (m_cpy (fun j hj => i4 j (by omega)))) (fun j hj => absurd hj (Nat.not_lt_zero j)) i5)))
      · exact body_1 X hR hs hL e1 e2 hk (by decide) hn1 hn2 (kC_end3 X hR da a oa q r C R ot i n hst h1 hn (by omega)) (kR_end3 X hR da a oa q r C R ot (nI i) n h11 hn (by rw [← i1]; omega)) rfl (fun h0 => absurd h0 (by decide)) (kk _ _ _ (INV_mk i1 i2 i3 i4 i5))
theorem step_2 {B : Bx} {M : Mx} {Q : State → Prop} (X : CX B M code 8 "SpongeDigestsLaw") (hR : m_R M = room_1) (hst : (m_l M).stackTraces = false) {b L : Nat} {xs : Nat → Int32} (hs : SCR M b L xs) (hL : L ≤ 3072) {da a oa : Nat} {q r : Nat → Nat} {C : CS} {R : RS} {ot : Nat → Int64} {k n1 n2 : Nat} (hk : 6 * k + 6 ≤ L) (hn1 : n1 + 1 ≤ (m_R M).cells) (hn2 : n2 + 6 ≤ (m_R M).slots) (hI : INV C R)
    (kk : ∀ (C2 : CS) (R2 : RS) (ot2 : Nat → Int64), INV C2 R2 → G B M 8 (n1 + 1) (n2 + 6) Q (LW B da a oa q r C2 R2 ot2) [(0, .ref b), (1, .ref da), (2, .ref a), (3, .ref oa), (4, .int (nI (6 * k)))] 746 []) : G B M 8 n1 n2 Q (LW B da a oa q r C R ot) [(0, .ref b), (1, .ref da), (2, .ref a), (3, .ref oa), (4, .int (nI (6 * k)))] 264 [] := by
  obtain ⟨i1, i2, i3, i4, i5⟩ := hI
  rcases inR_c (xs (6 * k + 1)) (lo := 0) (hi := 7) (by decide) (by decide) with h | ⟨i, e1, -, hi7⟩
  · exact body_2 X hR hs hL rfl rfl hk (by decide) hn1 hn2 (kC_copy1 X hR da a oa q r C R ot (xs (6 * k + 1)) (xs (6 * k + 2)) hst h) (kR_copy1 X hR da a oa q r C R ot (xs (6 * k + 1)) (xs (6 * k + 2)) h) rfl (fun h0 => absurd h0 (by decide)) (kk _ _ _ (INV_mk i1 i2 i3 i4 i5))
  · have h1 : i < 8 := by omega
    obtain ⟨s1, s2, s3⟩ := i3 i h1
    have h11 : inR (nI i) (nI 0) (nI 7) = nI 1 := inR_n (by omega) (by omega) (by omega)
    rcases inR_c (xs (6 * k + 2)) (lo := 0) (hi := 7) (by decide) (by decide) with h | ⟨j, e2, -, hj7⟩
    · exact body_2 X hR hs hL e1 rfl hk (by decide) hn1 hn2 (kC_copy2 X hR da a oa q r C R ot i (xs (6 * k + 2)) hst h1 h) (kR_copy2 X hR da a oa q r C R ot (nI i) (xs (6 * k + 2)) h11 h) rfl (fun h0 => absurd h0 (by decide)) (kk _ _ _ (INV_mk i1 i2 i3 i4 i5))
    · have h2 : j < 8 := by omega
      obtain ⟨t1, t2, t3⟩ := i3 j h2
      by_cases c : i = j
      · subst c
        exact body_2 X hR hs hL e1 e2 hk (Nat.zero_le 2) (n12 hn1) (n26 hn2) (kC_copys X hR da a oa q r C R ot i h1 s2) (kR_copys X hR da a oa q r _ R _ i h1 (by rw [← s1]; exact s2)) rfl (fun _ => (hq_n s1 (by omega))) (g_widen (n1 + 1) (n2 + 6) (Nat.le_succ _) (Nat.le_add_right _ 6) (kk _ _ _ (INV_mk i1 i2 (SL_setS i3 i (m_cpys s3)) i4 i5)))
      · exact body_2 X hR hs hL e1 e2 hk (Nat.zero_le 2) (n12 hn1) (n26 hn2) (kC_copy X hR da a oa q r C R ot i j h1 h2 c s2) (kR_copy X hR da a oa q r _ R _ i j h1 h2 c (by rw [← s1]; exact s2)) rfl (fun _ => (hq_n s1 (by omega))) (g_widen (n1 + 1) (n2 + 6) (Nat.le_succ _) (Nat.le_add_right _ 6) (kk _ _ _ (INV_mk i1 i2 (SL_set i3 j s2 s1 (by rw [← s1]; exact m_cpy s3)) i4 i5)))
theorem step_3 {B : Bx} {M : Mx} {Q : State → Prop} (X : CX B M code 8 "SpongeDigestsLaw") (hR : m_R M = room_1) (hst : (m_l M).stackTraces = false) {b L : Nat} {xs : Nat → Int32} (hs : SCR M b L xs) (hL : L ≤ 3072) {da a oa : Nat} {q r : Nat → Nat} {C : CS} {R : RS} {ot : Nat → Int64} {k n1 n2 : Nat} (hk : 6 * k + 6 ≤ L) (hn1 : n1 + 1 ≤ (m_R M).cells) (hn2 : n2 + 6 ≤ (m_R M).slots) (hI : INV C R)
    (kk : ∀ (C2 : CS) (R2 : RS) (ot2 : Nat → Int64), INV C2 R2 → G B M 8 (n1 + 1) (n2 + 6) Q (LW B da a oa q r C2 R2 ot2) [(0, .ref b), (1, .ref da), (2, .ref a), (3, .ref oa), (4, .int (nI (6 * k)))] 746 []) : G B M 8 n1 n2 Q (LW B da a oa q r C R ot) [(0, .ref b), (1, .ref da), (2, .ref a), (3, .ref oa), (4, .int (nI (6 * k)))] 332 [] := by
  obtain ⟨i1, i2, i3, i4, i5⟩ := hI
  rcases inR_c (xs (6 * k + 1)) (lo := 0) (hi := 7) (by decide) (by decide) with h | ⟨i, e1, -, hi7⟩
  · exact body_3 X hR hs hL rfl rfl hk (by decide) hn1 hn2 (kC_resize1 X hR da a oa q r C R ot (xs (6 * k + 1)) (xs (6 * k + 2)) hst h) (kR_resize1 X hR da a oa q r C R ot (xs (6 * k + 1)) (xs (6 * k + 2)) h) rfl (fun h0 => absurd h0 (by decide)) (kk _ _ _ (INV_mk i1 i2 i3 i4 i5))
  · have h1 : i < 8 := by omega
    obtain ⟨s1, s2, s3⟩ := i3 i h1
    have h11 : inR (nI i) (nI 0) (nI 7) = nI 1 := inR_n (by omega) (by omega) (by omega)
    rcases inR_c (xs (6 * k + 2)) (lo := 0) (hi := 8192) (by decide) (by decide) with h | ⟨n, e2, -, hn⟩
    · exact body_3 X hR hs hL e1 rfl hk (by decide) hn1 hn2 (kC_resize2 X hR da a oa q r C R ot i (xs (6 * k + 2)) hst h1 h) (kR_resize2 X hR da a oa q r C R ot (nI i) (xs (6 * k + 2)) h11 h) rfl (fun h0 => absurd h0 (by decide)) (kk _ _ _ (INV_mk i1 i2 i3 i4 i5))
    · exact body_3 X hR hs hL e1 e2 hk (Nat.zero_le 2) (n12 hn1) (n26 hn2) (kC_resize X hR da a oa q r C R ot i n h1 hn s2) (kR_resize X hR da a oa q r _ R _ i n h1 hn (by rw [← s1]; exact s2)) rfl (fun _ => (hq_n s1 (by omega))) (g_widen (n1 + 1) (n2 + 6) (Nat.le_succ _) (Nat.le_add_right _ 6) (kk _ _ _ (INV_mk i1 i2 (SL_set i3 i hn rfl (by rw [← s1]; exact m_resize n s3)) i4 i5)))
theorem step_4 {B : Bx} {M : Mx} {Q : State → Prop} (X : CX B M code 8 "SpongeDigestsLaw") (hR : m_R M = room_1) (hst : (m_l M).stackTraces = false) {b L : Nat} {xs : Nat → Int32} (hs : SCR M b L xs) (hL : L ≤ 3072) {da a oa : Nat} {q r : Nat → Nat} {C : CS} {R : RS} {ot : Nat → Int64} {k n1 n2 : Nat} (hk : 6 * k + 6 ≤ L) (hn1 : n1 + 1 ≤ (m_R M).cells) (hn2 : n2 + 6 ≤ (m_R M).slots) (hI : INV C R)
    (kk : ∀ (C2 : CS) (R2 : RS) (ot2 : Nat → Int64), INV C2 R2 → G B M 8 (n1 + 1) (n2 + 6) Q (LW B da a oa q r C2 R2 ot2) [(0, .ref b), (1, .ref da), (2, .ref a), (3, .ref oa), (4, .int (nI (6 * k)))] 746 []) : G B M 8 n1 n2 Q (LW B da a oa q r C R ot) [(0, .ref b), (1, .ref da), (2, .ref a), (3, .ref oa), (4, .int (nI (6 * k)))] 400 [] := by
  obtain ⟨i1, i2, i3, i4, i5⟩ := hI
  rcases inR_c (xs (6 * k + 1)) (lo := 0) (hi := 7) (by decide) (by decide) with h | ⟨i, e1, -, hi7⟩
  · exact body_4 X hR hs hL rfl rfl rfl hk (by decide) hn1 hn2 (kC_alter1 X hR da a oa q r C R ot (xs (6 * k + 1)) (xs (6 * k + 2)) (xs (6 * k + 3)) hst h) (kR_alter1 X hR da a oa q r C R ot (xs (6 * k + 1)) (xs (6 * k + 2)) (xs (6 * k + 3)) h) rfl (fun h0 => absurd h0 (by decide)) (kk _ _ _ (INV_mk i1 i2 i3 i4 i5))
  · have h1 : i < 8 := by omega
    obtain ⟨s1, s2, s3⟩ := i3 i h1
    have h11 : inR (nI i) (nI 0) (nI 7) = nI 1 := inR_n (by omega) (by omega) (by omega)
    rcases inR_c (xs (6 * k + 3)) (lo := 0) (hi := 255) (by decide) (by decide) with h | ⟨v, e3, -, hv⟩
    · exact body_4 X hR hs hL e1 rfl rfl hk (by decide) hn1 hn2 (kC_alter2 X hR da a oa q r C R ot i (xs (6 * k + 2)) (xs (6 * k + 3)) hst h1 h) (kR_alter2 X hR da a oa q r C R ot (nI i) (xs (6 * k + 2)) (xs (6 * k + 3)) h11 h) rfl (fun h0 => absurd h0 (by decide)) (kk _ _ _ (INV_mk i1 i2 i3 i4 i5))
    · rcases inR_d (xs (6 * k + 2)) s2 with h | ⟨p, e2, hp⟩
      · exact body_4 X hR hs hL e1 rfl e3 hk (by decide) hn1 hn2 (kC_alter3 X hR da a oa q r C R ot i v (xs (6 * k + 2)) hst h1 hv s2 h) (kR_alter3 X hR da a oa q r C R ot i (xs (6 * k + 2)) (nI v) h1 (inR_n (by omega) (by omega) (by omega)) (by rw [← s1]; exact h)) rfl (fun h0 => absurd h0 (by decide)) (kk _ _ _ (INV_mk i1 i2 i3 i4 i5))
      · have hm := m_alter (nI v) hp s3
        exact body_4 X hR hs hL e1 e2 e3 hk (Nat.zero_le 2) (n12 hn1) (n26 hn2) (kC_alter X hR da a oa q r C R ot i p v h1 hp s2 hv) (kR_alter X hR da a oa q r _ R _ i p v h1 (by rw [← s1]; exact hp) (by rw [← s1]; exact s2) hv) rfl (fun _ => (by rw [va_up_self, hm p hp])) (g_widen (n1 + 1) (n2 + 6) (Nat.le_succ _) (Nat.le_add_right _ 6) (kk _ _ _ (INV_mk i1 i2 (SL_setf i3 i hm) i4 i5)))
theorem step_5 {B : Bx} {M : Mx} {Q : State → Prop} (X : CX B M code 8 "SpongeDigestsLaw") (hR : m_R M = room_1) (hst : (m_l M).stackTraces = false) {b L : Nat} {xs : Nat → Int32} (hs : SCR M b L xs) (hL : L ≤ 3072) {da a oa : Nat} {q r : Nat → Nat} {C : CS} {R : RS} {ot : Nat → Int64} {k n1 n2 : Nat} (hk : 6 * k + 6 ≤ L) (hn1 : n1 + 1 ≤ (m_R M).cells) (hn2 : n2 + 6 ≤ (m_R M).slots) (hI : INV C R)
    (kk : ∀ (C2 : CS) (R2 : RS) (ot2 : Nat → Int64), INV C2 R2 → G B M 8 (n1 + 1) (n2 + 6) Q (LW B da a oa q r C2 R2 ot2) [(0, .ref b), (1, .ref da), (2, .ref a), (3, .ref oa), (4, .int (nI (6 * k)))] 746 []) : G B M 8 n1 n2 Q (LW B da a oa q r C R ot) [(0, .ref b), (1, .ref da), (2, .ref a), (3, .ref oa), (4, .int (nI (6 * k)))] 480 [] := by
  obtain ⟨i1, i2, i3, i4, i5⟩ := hI
  rcases inR_c (xs (6 * k + 1)) (lo := 0) (hi := 7) (by decide) (by decide) with h | ⟨i, e1, -, hi7⟩
  · exact body_5 X hR hs hL rfl hk (by decide) hn1 hn2 (kC_length1 X hR da a oa q r C R ot (xs (6 * k + 1)) hst h) (kR_length1 X hR da a oa q r C R ot (xs (6 * k + 1)) h) rfl (fun h0 => absurd h0 (by decide)) (kk _ _ _ (INV_mk i1 i2 i3 i4 i5))
  · have h1 : i < 8 := by omega
    obtain ⟨s1, s2, s3⟩ := i3 i h1
    have h11 : inR (nI i) (nI 0) (nI 7) = nI 1 := inR_n (by omega) (by omega) (by omega)
    exact body_5 X hR hs hL e1 hk (Nat.zero_le 2) (n12 hn1) (n26 hn2) (kC_length X hR da a oa q r C R ot i h1 s2) (kR_length X hR da a oa q r _ R _ i h1) rfl (fun _ => (hq_n s1 (by omega))) (g_widen (n1 + 1) (n2 + 6) (Nat.le_succ _) (Nat.le_add_right _ 6) (kk _ _ _ (INV_mk i1 i2 i3 i4 i5)))
theorem step_6 {B : Bx} {M : Mx} {Q : State → Prop} (X : CX B M code 8 "SpongeDigestsLaw") (hR : m_R M = room_1) (hst : (m_l M).stackTraces = false) {b L : Nat} {xs : Nat → Int32} (hs : SCR M b L xs) (hL : L ≤ 3072) {da a oa : Nat} {q r : Nat → Nat} {C : CS} {R : RS} {ot : Nat → Int64} {k n1 n2 : Nat} (hk : 6 * k + 6 ≤ L) (hn1 : n1 + 1 ≤ (m_R M).cells) (hn2 : n2 + 6 ≤ (m_R M).slots) (hI : INV C R)
    (kk : ∀ (C2 : CS) (R2 : RS) (ot2 : Nat → Int64), INV C2 R2 → G B M 8 (n1 + 1) (n2 + 6) Q (LW B da a oa q r C2 R2 ot2) [(0, .ref b), (1, .ref da), (2, .ref a), (3, .ref oa), (4, .int (nI (6 * k)))] 746 []) : G B M 8 n1 n2 Q (LW B da a oa q r C R ot) [(0, .ref b), (1, .ref da), (2, .ref a), (3, .ref oa), (4, .int (nI (6 * k)))] 536 [] := by
  obtain ⟨i1, i2, i3, i4, i5⟩ := hI
  rcases inR_c (xs (6 * k + 1)) (lo := 0) (hi := 7) (by decide) (by decide) with h | ⟨i, e1, -, hi7⟩
  · exact body_6 X hR hs hL rfl rfl hk (by decide) hn1 hn2 (kC_word1 X hR da a oa q r C R ot (xs (6 * k + 1)) (xs (6 * k + 2)) hst h) (kR_word1 X hR da a oa q r C R ot (xs (6 * k + 1)) (xs (6 * k + 2)) h) rfl (fun h0 => absurd h0 (by decide)) (kk _ _ _ (INV_mk i1 i2 i3 i4 i5))
  · have h1 : i < 8 := by omega
    obtain ⟨s1, s2, s3⟩ := i3 i h1
    have h11 : inR (nI i) (nI 0) (nI 7) = nI 1 := inR_n (by omega) (by omega) (by omega)
    rcases inR_d (xs (6 * k + 2)) s2 with h | ⟨p, e2, hp⟩
    · exact body_6 X hR hs hL e1 rfl hk (by decide) hn1 hn2 (kC_word2 X hR da a oa q r C R ot i (xs (6 * k + 2)) hst h1 s2 h) (kR_word2 X hR da a oa q r C R ot i (xs (6 * k + 2)) h1 (by rw [← s1]; exact h)) rfl (fun h0 => absurd h0 (by decide)) (kk _ _ _ (INV_mk i1 i2 i3 i4 i5))
    · have hm := m_word p s3
      exact body_6 X hR hs hL e1 e2 hk (Nat.zero_le 2) (n12 hn1) (n26 hn2) (kC_word X hR da a oa q r C R ot i p h1 hp s2) (kR_word X hR da a oa q r _ R _ i p h1 (by rw [← s1]; exact hp) (by rw [← s1]; exact s2)) rfl (fun _ => (by rw [va_up_self, ← s1]; exact hm)) (g_widen (n1 + 1) (n2 + 6) (Nat.le_succ _) (Nat.le_add_right _ 6) (kk _ _ _ (INV_mk i1 i2 i3 i4 i5)))
theorem step_7 {B : Bx} {M : Mx} {Q : State → Prop} (X : CX B M code 8 "SpongeDigestsLaw") (hR : m_R M = room_1) (hst : (m_l M).stackTraces = false) {b L : Nat} {xs : Nat → Int32} (hs : SCR M b L xs) (hL : L ≤ 3072) {da a oa : Nat} {q r : Nat → Nat} {C : CS} {R : RS} {ot : Nat → Int64} {k n1 n2 : Nat} (hk : 6 * k + 6 ≤ L) (hn1 : n1 + 1 ≤ (m_R M).cells) (hn2 : n2 + 6 ≤ (m_R M).slots) (hI : INV C R)
    (kk : ∀ (C2 : CS) (R2 : RS) (ot2 : Nat → Int64), INV C2 R2 → G B M 8 (n1 + 1) (n2 + 6) Q (LW B da a oa q r C2 R2 ot2) [(0, .ref b), (1, .ref da), (2, .ref a), (3, .ref oa), (4, .int (nI (6 * k)))] 746 []) : G B M 8 n1 n2 Q (LW B da a oa q r C R ot) [(0, .ref b), (1, .ref da), (2, .ref a), (3, .ref oa), (4, .int (nI (6 * k)))] 603 [] := by
  obtain ⟨i1, i2, i3, i4, i5⟩ := hI
  rcases inR_c (xs (6 * k + 1)) (lo := 0) (hi := 7) (by decide) (by decide) with h | ⟨i, e1, -, hi7⟩
  · exact body_7 X hR hs hL rfl rfl hk (by decide) hn1 hn2 (kC_same1 X hR da a oa q r C R ot (xs (6 * k + 1)) (xs (6 * k + 2)) hst h) (kR_same1 X hR da a oa q r C R ot (xs (6 * k + 1)) (xs (6 * k + 2)) h) rfl (fun h0 => absurd h0 (by decide)) (kk _ _ _ (INV_mk i1 i2 i3 i4 i5))
  · have h1 : i < 8 := by omega
    obtain ⟨s1, s2, s3⟩ := i3 i h1
    have h11 : inR (nI i) (nI 0) (nI 7) = nI 1 := inR_n (by omega) (by omega) (by omega)
    rcases inR_c (xs (6 * k + 2)) (lo := 0) (hi := 7) (by decide) (by decide) with h | ⟨j, e2, -, hj7⟩
    · exact body_7 X hR hs hL e1 rfl hk (by decide) hn1 hn2 (kC_same2 X hR da a oa q r C R ot i (xs (6 * k + 2)) hst h1 h) (kR_same2 X hR da a oa q r C R ot (nI i) (xs (6 * k + 2)) h11 h) rfl (fun h0 => absurd h0 (by decide)) (kk _ _ _ (INV_mk i1 i2 i3 i4 i5))
    · have h2 : j < 8 := by omega
      obtain ⟨t1, t2, t3⟩ := i3 j h2
      by_cases c : i = j
      · subst c
        exact body_7 X hR hs hL e1 e2 hk (Nat.zero_le 2) (n12 hn1) (n26 hn2) (kC_sames X hR da a oa q r C R ot i h1 s2) (kR_sames X hR da a oa q r _ R _ i h1 (by rw [← s1]; exact s2)) rfl (fun _ => (by rw [va_up_self, m_same rfl s3 s3, s1])) (g_widen (n1 + 1) (n2 + 6) (Nat.le_succ _) (Nat.le_add_right _ 6) (kk _ _ _ (INV_mk i1 i2 i3 i4 i5)))
      · by_cases c2 : C.n i = C.n j
        · exact body_7 X hR hs hL e1 e2 hk (Nat.zero_le 2) (n12 hn1) (n26 hn2) (kC_same X hR da a oa q r C R ot i j h1 h2 c s2 t2) (kR_same X hR da a oa q r _ R _ i j h1 h2 c (by rw [← s1]; exact s2) (by rw [← s1, ← t1]; exact c2)) rfl (fun _ => (by rw [va_up_self, m_same c2 s3 t3, s1])) (g_widen (n1 + 1) (n2 + 6) (Nat.le_succ _) (Nat.le_add_right _ 6) (kk _ _ _ (INV_mk i1 i2 i3 i4 i5)))
        · exact body_7 X hR hs hL e1 e2 hk (Nat.zero_le 2) (n12 hn1) (n26 hn2) (kC_same X hR da a oa q r C R ot i j h1 h2 c s2 t2) (kR_samen X hR da a oa q r _ R _ i j h1 h2 (by rw [← s1]; exact s2) (by rw [← t1]; exact t2) (by rw [← s1, ← t1]; exact c2)) rfl (fun _ => (by rw [va_up_self, mtC_ln c2])) (g_widen (n1 + 1) (n2 + 6) (Nat.le_succ _) (Nat.le_add_right _ 6) (kk _ _ _ (INV_mk i1 i2 i3 i4 i5)))
theorem step_8_1 {B : Bx} {M : Mx} {Q : State → Prop} (X : CX B M code 8 "SpongeDigestsLaw") (hR : m_R M = room_1) (hst : (m_l M).stackTraces = false) {b L : Nat} {xs : Nat → Int32} (hs : SCR M b L xs) (hL : L ≤ 3072) {da a oa : Nat} {q r : Nat → Nat} {C : CS} {R : RS} {ot : Nat → Int64} {k n1 n2 : Nat} (hk : 6 * k + 6 ≤ L) (hn1 : n1 + 1 ≤ (m_R M).cells) (hn2 : n2 + 6 ≤ (m_R M).slots) (hI : INV C R) (kx n : Nat) (e1 : xs (6 * k + 1) = nI kx) (e2 : xs (6 * k + 2) = nI n) (hn : n ≤ 8192) (ek : kx = 1)
    (kk : ∀ (C2 : CS) (R2 : RS) (ot2 : Nat → Int64), INV C2 R2 → G B M 8 (n1 + 1) (n2 + 6) Q (LW B da a oa q r C2 R2 ot2) [(0, .ref b), (1, .ref da), (2, .ref a), (3, .ref oa), (4, .int (nI (6 * k)))] 746 []) : G B M 8 n1 n2 Q (LW B da a oa q r C R ot) [(0, .ref b), (1, .ref da), (2, .ref a), (3, .ref oa), (4, .int (nI (6 * k)))] 678 [] := by
  obtain ⟨i1, i2, i3, i4, i5⟩ := hI
  obtain ⟨c1, c2, c3, c4, c5, c6⟩ := i5
  have i5 : CON R := ⟨c1, c2, c3, c4, c5, c6⟩
  obtain ⟨g1, g2, g3⟩ := i3 3 (by decide)
  have hd : dgN kx = 32 := by rw [ek]; rfl
  have hb : ∀ i, i < 8 → s_l 2 i = rl false (bgV kx R.ro R.s2 R.s5 i) := by rw [ek]; exact (bg_1 c1)
  have hr : rtN kx = 16 * wbN false := by rw [ek]; rfl
  exact body_8 X hR hs hL e1 e2 hk (Nat.zero_le 2) (n12 hn1) (n26 hn2) (kC_digest_1 X hR da a oa q r C R ot n kx g2 hn ek) (kR_dig_b X hR da a oa q r _ R _ kx n (by omega) (by omega) (by rw [← g1]; exact g2) hn) rfl (fun _ => (hq_n hd.symm (by omega))) (g_widen (n1 + 1) (n2 + 6) (Nat.le_succ _) (Nat.le_add_right _ 6) (kk _ _ _ (INV_mk i1 i2 (SL_set i3 6 (by decide) hd.symm (by rw [hd, ← g1]; exact dig_b c2 hb hr (C.n 3) 32 (by decide) g3 _ _ _ _)) i4 i5)))
theorem step_8_2 {B : Bx} {M : Mx} {Q : State → Prop} (X : CX B M code 8 "SpongeDigestsLaw") (hR : m_R M = room_1) (hst : (m_l M).stackTraces = false) {b L : Nat} {xs : Nat → Int32} (hs : SCR M b L xs) (hL : L ≤ 3072) {da a oa : Nat} {q r : Nat → Nat} {C : CS} {R : RS} {ot : Nat → Int64} {k n1 n2 : Nat} (hk : 6 * k + 6 ≤ L) (hn1 : n1 + 1 ≤ (m_R M).cells) (hn2 : n2 + 6 ≤ (m_R M).slots) (hI : INV C R) (kx n : Nat) (e1 : xs (6 * k + 1) = nI kx) (e2 : xs (6 * k + 2) = nI n) (hn : n ≤ 8192) (ek : kx = 2)
    (kk : ∀ (C2 : CS) (R2 : RS) (ot2 : Nat → Int64), INV C2 R2 → G B M 8 (n1 + 1) (n2 + 6) Q (LW B da a oa q r C2 R2 ot2) [(0, .ref b), (1, .ref da), (2, .ref a), (3, .ref oa), (4, .int (nI (6 * k)))] 746 []) : G B M 8 n1 n2 Q (LW B da a oa q r C R ot) [(0, .ref b), (1, .ref da), (2, .ref a), (3, .ref oa), (4, .int (nI (6 * k)))] 678 [] := by
  obtain ⟨i1, i2, i3, i4, i5⟩ := hI
  obtain ⟨c1, c2, c3, c4, c5, c6⟩ := i5
  have i5 : CON R := ⟨c1, c2, c3, c4, c5, c6⟩
  obtain ⟨g1, g2, g3⟩ := i3 3 (by decide)
  have hd : dgN kx = 48 := by rw [ek]; rfl
  have hb : ∀ i, i < 8 → s_l 5 i = rl true (bgV kx R.ro R.s2 R.s5 i) := by rw [ek]; exact (bg_2 c1)
  have hr : rtN kx = 16 * wbN true := by rw [ek]; rfl
  exact body_8 X hR hs hL e1 e2 hk (Nat.zero_le 2) (n12 hn1) (n26 hn2) (kC_digest_2 X hR da a oa q r C R ot n kx g2 hn ek) (kR_dig_b X hR da a oa q r _ R _ kx n (by omega) (by omega) (by rw [← g1]; exact g2) hn) rfl (fun _ => (hq_n hd.symm (by omega))) (g_widen (n1 + 1) (n2 + 6) (Nat.le_succ _) (Nat.le_add_right _ 6) (kk _ _ _ (INV_mk i1 i2 (SL_set i3 6 (by decide) hd.symm (by rw [hd, ← g1]; exact dig_b c2 hb hr (C.n 3) 48 (by decide) g3 _ _ _ _)) i4 i5)))
theorem step_8_3 {B : Bx} {M : Mx} {Q : State → Prop} (X : CX B M code 8 "SpongeDigestsLaw") (hR : m_R M = room_1) (hst : (m_l M).stackTraces = false) {b L : Nat} {xs : Nat → Int32} (hs : SCR M b L xs) (hL : L ≤ 3072) {da a oa : Nat} {q r : Nat → Nat} {C : CS} {R : RS} {ot : Nat → Int64} {k n1 n2 : Nat} (hk : 6 * k + 6 ≤ L) (hn1 : n1 + 1 ≤ (m_R M).cells) (hn2 : n2 + 6 ≤ (m_R M).slots) (hI : INV C R) (kx n : Nat) (e1 : xs (6 * k + 1) = nI kx) (e2 : xs (6 * k + 2) = nI n) (hn : n ≤ 8192) (ek : kx = 3)
    (kk : ∀ (C2 : CS) (R2 : RS) (ot2 : Nat → Int64), INV C2 R2 → G B M 8 (n1 + 1) (n2 + 6) Q (LW B da a oa q r C2 R2 ot2) [(0, .ref b), (1, .ref da), (2, .ref a), (3, .ref oa), (4, .int (nI (6 * k)))] 746 []) : G B M 8 n1 n2 Q (LW B da a oa q r C R ot) [(0, .ref b), (1, .ref da), (2, .ref a), (3, .ref oa), (4, .int (nI (6 * k)))] 678 [] := by
  obtain ⟨i1, i2, i3, i4, i5⟩ := hI
  obtain ⟨c1, c2, c3, c4, c5, c6⟩ := i5
  have i5 : CON R := ⟨c1, c2, c3, c4, c5, c6⟩
  obtain ⟨g1, g2, g3⟩ := i3 3 (by decide)
  have hd : dgN kx = 64 := by rw [ek]; rfl
  have hb : ∀ i, i < 8 → s_l 4 i = rl true (bgV kx R.ro R.s2 R.s5 i) := by rw [ek]; exact (bg_3 c1)
  have hr : rtN kx = 16 * wbN true := by rw [ek]; rfl
  exact body_8 X hR hs hL e1 e2 hk (Nat.zero_le 2) (n12 hn1) (n26 hn2) (kC_digest_3 X hR da a oa q r C R ot n kx g2 hn ek) (kR_dig_b X hR da a oa q r _ R _ kx n (by omega) (by omega) (by rw [← g1]; exact g2) hn) rfl (fun _ => (hq_n hd.symm (by omega))) (g_widen (n1 + 1) (n2 + 6) (Nat.le_succ _) (Nat.le_add_right _ 6) (kk _ _ _ (INV_mk i1 i2 (SL_set i3 6 (by decide) hd.symm (by rw [hd, ← g1]; exact dig_b c2 hb hr (C.n 3) 64 (by decide) g3 _ _ _ _)) i4 i5)))
theorem step_8_4 {B : Bx} {M : Mx} {Q : State → Prop} (X : CX B M code 8 "SpongeDigestsLaw") (hR : m_R M = room_1) (hst : (m_l M).stackTraces = false) {b L : Nat} {xs : Nat → Int32} (hs : SCR M b L xs) (hL : L ≤ 3072) {da a oa : Nat} {q r : Nat → Nat} {C : CS} {R : RS} {ot : Nat → Int64} {k n1 n2 : Nat} (hk : 6 * k + 6 ≤ L) (hn1 : n1 + 1 ≤ (m_R M).cells) (hn2 : n2 + 6 ≤ (m_R M).slots) (hI : INV C R) (kx n : Nat) (e1 : xs (6 * k + 1) = nI kx) (e2 : xs (6 * k + 2) = nI n) (hn : n ≤ 8192) (ek : kx = 4)
    (kk : ∀ (C2 : CS) (R2 : RS) (ot2 : Nat → Int64), INV C2 R2 → G B M 8 (n1 + 1) (n2 + 6) Q (LW B da a oa q r C2 R2 ot2) [(0, .ref b), (1, .ref da), (2, .ref a), (3, .ref oa), (4, .int (nI (6 * k)))] 746 []) : G B M 8 n1 n2 Q (LW B da a oa q r C R ot) [(0, .ref b), (1, .ref da), (2, .ref a), (3, .ref oa), (4, .int (nI (6 * k)))] 678 [] := by
  obtain ⟨i1, i2, i3, i4, i5⟩ := hI
  obtain ⟨c1, c2, c3, c4, c5, c6⟩ := i5
  have i5 : CON R := ⟨c1, c2, c3, c4, c5, c6⟩
  obtain ⟨g1, g2, g3⟩ := i3 3 (by decide)
  have hd : dgN kx = 28 := by rw [ek]; rfl
  have hb : ∀ i, i < 8 → s_l 3 i = rl false (bgV kx R.ro R.s2 R.s5 i) := by rw [ek]; exact (bg_4 c1)
  have hr : rtN kx = 16 * wbN false := by rw [ek]; rfl
  exact body_8 X hR hs hL e1 e2 hk (Nat.zero_le 2) (n12 hn1) (n26 hn2) (kC_digest_4 X hR da a oa q r C R ot n kx g2 hn ek) (kR_dig_b X hR da a oa q r _ R _ kx n (by omega) (by omega) (by rw [← g1]; exact g2) hn) rfl (fun _ => (hq_n hd.symm (by omega))) (g_widen (n1 + 1) (n2 + 6) (Nat.le_succ _) (Nat.le_add_right _ 6) (kk _ _ _ (INV_mk i1 i2 (SL_set i3 6 (by decide) hd.symm (by rw [hd, ← g1]; exact dig_b c2 hb hr (C.n 3) 28 (by decide) g3 _ _ _ _)) i4 i5)))
theorem step_8_5 {B : Bx} {M : Mx} {Q : State → Prop} (X : CX B M code 8 "SpongeDigestsLaw") (hR : m_R M = room_1) (hst : (m_l M).stackTraces = false) {b L : Nat} {xs : Nat → Int32} (hs : SCR M b L xs) (hL : L ≤ 3072) {da a oa : Nat} {q r : Nat → Nat} {C : CS} {R : RS} {ot : Nat → Int64} {k n1 n2 : Nat} (hk : 6 * k + 6 ≤ L) (hn1 : n1 + 1 ≤ (m_R M).cells) (hn2 : n2 + 6 ≤ (m_R M).slots) (hI : INV C R) (kx n : Nat) (e1 : xs (6 * k + 1) = nI kx) (e2 : xs (6 * k + 2) = nI n) (hn : n ≤ 8192) (ek : kx = 5)
    (kk : ∀ (C2 : CS) (R2 : RS) (ot2 : Nat → Int64), INV C2 R2 → G B M 8 (n1 + 1) (n2 + 6) Q (LW B da a oa q r C2 R2 ot2) [(0, .ref b), (1, .ref da), (2, .ref a), (3, .ref oa), (4, .int (nI (6 * k)))] 746 []) : G B M 8 n1 n2 Q (LW B da a oa q r C R ot) [(0, .ref b), (1, .ref da), (2, .ref a), (3, .ref oa), (4, .int (nI (6 * k)))] 678 [] := by
  obtain ⟨i1, i2, i3, i4, i5⟩ := hI
  obtain ⟨c1, c2, c3, c4, c5, c6⟩ := i5
  have i5 : CON R := ⟨c1, c2, c3, c4, c5, c6⟩
  obtain ⟨g1, g2, g3⟩ := i3 3 (by decide)
  have hd : dgN kx = 28 := by rw [ek]; rfl
  have hb : ∀ i, i < 8 → s_l 6 i = rl true (bgV kx R.ro R.s2 R.s5 i) := by rw [ek]; exact (bg_5 c3)
  have hr : rtN kx = 16 * wbN true := by rw [ek]; rfl
  exact body_8 X hR hs hL e1 e2 hk (Nat.zero_le 2) (n12 hn1) (n26 hn2) (kC_digest_5 X hR da a oa q r C R ot n kx g2 hn ek) (kR_dig_b X hR da a oa q r _ R _ kx n (by omega) (by omega) (by rw [← g1]; exact g2) hn) rfl (fun _ => (hq_n hd.symm (by omega))) (g_widen (n1 + 1) (n2 + 6) (Nat.le_succ _) (Nat.le_add_right _ 6) (kk _ _ _ (INV_mk i1 i2 (SL_set i3 6 (by decide) hd.symm (by rw [hd, ← g1]; exact dig_b c2 hb hr (C.n 3) 28 (by decide) g3 _ _ _ _)) i4 i5)))
theorem step_8_6 {B : Bx} {M : Mx} {Q : State → Prop} (X : CX B M code 8 "SpongeDigestsLaw") (hR : m_R M = room_1) (hst : (m_l M).stackTraces = false) {b L : Nat} {xs : Nat → Int32} (hs : SCR M b L xs) (hL : L ≤ 3072) {da a oa : Nat} {q r : Nat → Nat} {C : CS} {R : RS} {ot : Nat → Int64} {k n1 n2 : Nat} (hk : 6 * k + 6 ≤ L) (hn1 : n1 + 1 ≤ (m_R M).cells) (hn2 : n2 + 6 ≤ (m_R M).slots) (hI : INV C R) (kx n : Nat) (e1 : xs (6 * k + 1) = nI kx) (e2 : xs (6 * k + 2) = nI n) (hn : n ≤ 8192) (ek : kx = 6)
    (kk : ∀ (C2 : CS) (R2 : RS) (ot2 : Nat → Int64), INV C2 R2 → G B M 8 (n1 + 1) (n2 + 6) Q (LW B da a oa q r C2 R2 ot2) [(0, .ref b), (1, .ref da), (2, .ref a), (3, .ref oa), (4, .int (nI (6 * k)))] 746 []) : G B M 8 n1 n2 Q (LW B da a oa q r C R ot) [(0, .ref b), (1, .ref da), (2, .ref a), (3, .ref oa), (4, .int (nI (6 * k)))] 678 [] := by
  obtain ⟨i1, i2, i3, i4, i5⟩ := hI
  obtain ⟨c1, c2, c3, c4, c5, c6⟩ := i5
  have i5 : CON R := ⟨c1, c2, c3, c4, c5, c6⟩
  obtain ⟨g1, g2, g3⟩ := i3 3 (by decide)
  have hd : dgN kx = 32 := by rw [ek]; rfl
  have hb : ∀ i, i < 8 → s_l 7 i = rl true (bgV kx R.ro R.s2 R.s5 i) := by rw [ek]; exact (bg_6 c4)
  have hr : rtN kx = 16 * wbN true := by rw [ek]; rfl
  exact body_8 X hR hs hL e1 e2 hk (Nat.zero_le 2) (n12 hn1) (n26 hn2) (kC_digest_6 X hR da a oa q r C R ot n kx g2 hn ek) (kR_dig_b X hR da a oa q r _ R _ kx n (by omega) (by omega) (by rw [← g1]; exact g2) hn) rfl (fun _ => (hq_n hd.symm (by omega))) (g_widen (n1 + 1) (n2 + 6) (Nat.le_succ _) (Nat.le_add_right _ 6) (kk _ _ _ (INV_mk i1 i2 (SL_set i3 6 (by decide) hd.symm (by rw [hd, ← g1]; exact dig_b c2 hb hr (C.n 3) 32 (by decide) g3 _ _ _ _)) i4 i5)))
theorem step_8_7 {B : Bx} {M : Mx} {Q : State → Prop} (X : CX B M code 8 "SpongeDigestsLaw") (hR : m_R M = room_1) (hst : (m_l M).stackTraces = false) {b L : Nat} {xs : Nat → Int32} (hs : SCR M b L xs) (hL : L ≤ 3072) {da a oa : Nat} {q r : Nat → Nat} {C : CS} {R : RS} {ot : Nat → Int64} {k n1 n2 : Nat} (hk : 6 * k + 6 ≤ L) (hn1 : n1 + 1 ≤ (m_R M).cells) (hn2 : n2 + 6 ≤ (m_R M).slots) (hI : INV C R) (kx n : Nat) (e1 : xs (6 * k + 1) = nI kx) (e2 : xs (6 * k + 2) = nI n) (hn : n ≤ 8192) (ek : kx = 7)
    (kk : ∀ (C2 : CS) (R2 : RS) (ot2 : Nat → Int64), INV C2 R2 → G B M 8 (n1 + 1) (n2 + 6) Q (LW B da a oa q r C2 R2 ot2) [(0, .ref b), (1, .ref da), (2, .ref a), (3, .ref oa), (4, .int (nI (6 * k)))] 746 []) : G B M 8 n1 n2 Q (LW B da a oa q r C R ot) [(0, .ref b), (1, .ref da), (2, .ref a), (3, .ref oa), (4, .int (nI (6 * k)))] 678 [] := by
  obtain ⟨i1, i2, i3, i4, i5⟩ := hI
  obtain ⟨c1, c2, c3, c4, c5, c6⟩ := i5
  have i5 : CON R := ⟨c1, c2, c3, c4, c5, c6⟩
  obtain ⟨g1, g2, g3⟩ := i3 3 (by decide)
  have hd : sgN kx n = 28 := by rw [ek]; rfl
  have hr : rtN kx = 144 := by rw [ek]; rfl
  exact body_8 X hR hs hL e1 e2 hk (Nat.zero_le 2) (n12 hn1) (n26 hn2) (kC_digest_7 X hR da a oa q r C R ot n kx g2 hn ek) (kR_dig_s X hR da a oa q r _ R _ kx n (by omega) (by omega) (by rw [← g1]; exact g2) hn (by omega)) rfl (fun _ => (hq_n hd.symm (by omega))) (g_widen (n1 + 1) (n2 + 6) (Nat.le_succ _) (Nat.le_add_right _ 6) (kk _ _ _ (INV_mk i1 i2 (SL_set i3 6 (by decide) hd.symm (by rw [hd, ← g1]; exact dig_s c5 c6 (rate := 144) (by decide) (by decide) hr (C.n 3) 28 g3 _ _ _ _ _ (by rw [ek]; rfl) _ _)) i4 i5)))
theorem step_8_8 {B : Bx} {M : Mx} {Q : State → Prop} (X : CX B M code 8 "SpongeDigestsLaw") (hR : m_R M = room_1) (hst : (m_l M).stackTraces = false) {b L : Nat} {xs : Nat → Int32} (hs : SCR M b L xs) (hL : L ≤ 3072) {da a oa : Nat} {q r : Nat → Nat} {C : CS} {R : RS} {ot : Nat → Int64} {k n1 n2 : Nat} (hk : 6 * k + 6 ≤ L) (hn1 : n1 + 1 ≤ (m_R M).cells) (hn2 : n2 + 6 ≤ (m_R M).slots) (hI : INV C R) (kx n : Nat) (e1 : xs (6 * k + 1) = nI kx) (e2 : xs (6 * k + 2) = nI n) (hn : n ≤ 8192) (ek : kx = 8)
    (kk : ∀ (C2 : CS) (R2 : RS) (ot2 : Nat → Int64), INV C2 R2 → G B M 8 (n1 + 1) (n2 + 6) Q (LW B da a oa q r C2 R2 ot2) [(0, .ref b), (1, .ref da), (2, .ref a), (3, .ref oa), (4, .int (nI (6 * k)))] 746 []) : G B M 8 n1 n2 Q (LW B da a oa q r C R ot) [(0, .ref b), (1, .ref da), (2, .ref a), (3, .ref oa), (4, .int (nI (6 * k)))] 678 [] := by
  obtain ⟨i1, i2, i3, i4, i5⟩ := hI
  obtain ⟨c1, c2, c3, c4, c5, c6⟩ := i5
  have i5 : CON R := ⟨c1, c2, c3, c4, c5, c6⟩
  obtain ⟨g1, g2, g3⟩ := i3 3 (by decide)
  have hd : sgN kx n = 32 := by rw [ek]; rfl
  have hr : rtN kx = 136 := by rw [ek]; rfl
  exact body_8 X hR hs hL e1 e2 hk (Nat.zero_le 2) (n12 hn1) (n26 hn2) (kC_digest_8 X hR da a oa q r C R ot n kx g2 hn ek) (kR_dig_s X hR da a oa q r _ R _ kx n (by omega) (by omega) (by rw [← g1]; exact g2) hn (by omega)) rfl (fun _ => (hq_n hd.symm (by omega))) (g_widen (n1 + 1) (n2 + 6) (Nat.le_succ _) (Nat.le_add_right _ 6) (kk _ _ _ (INV_mk i1 i2 (SL_set i3 6 (by decide) hd.symm (by rw [hd, ← g1]; exact dig_s c5 c6 (rate := 136) (by decide) (by decide) hr (C.n 3) 32 g3 _ _ _ _ _ (by rw [ek]; rfl) _ _)) i4 i5)))
theorem step_8_9 {B : Bx} {M : Mx} {Q : State → Prop} (X : CX B M code 8 "SpongeDigestsLaw") (hR : m_R M = room_1) (hst : (m_l M).stackTraces = false) {b L : Nat} {xs : Nat → Int32} (hs : SCR M b L xs) (hL : L ≤ 3072) {da a oa : Nat} {q r : Nat → Nat} {C : CS} {R : RS} {ot : Nat → Int64} {k n1 n2 : Nat} (hk : 6 * k + 6 ≤ L) (hn1 : n1 + 1 ≤ (m_R M).cells) (hn2 : n2 + 6 ≤ (m_R M).slots) (hI : INV C R) (kx n : Nat) (e1 : xs (6 * k + 1) = nI kx) (e2 : xs (6 * k + 2) = nI n) (hn : n ≤ 8192) (ek : kx = 9)
    (kk : ∀ (C2 : CS) (R2 : RS) (ot2 : Nat → Int64), INV C2 R2 → G B M 8 (n1 + 1) (n2 + 6) Q (LW B da a oa q r C2 R2 ot2) [(0, .ref b), (1, .ref da), (2, .ref a), (3, .ref oa), (4, .int (nI (6 * k)))] 746 []) : G B M 8 n1 n2 Q (LW B da a oa q r C R ot) [(0, .ref b), (1, .ref da), (2, .ref a), (3, .ref oa), (4, .int (nI (6 * k)))] 678 [] := by
  obtain ⟨i1, i2, i3, i4, i5⟩ := hI
  obtain ⟨c1, c2, c3, c4, c5, c6⟩ := i5
  have i5 : CON R := ⟨c1, c2, c3, c4, c5, c6⟩
  obtain ⟨g1, g2, g3⟩ := i3 3 (by decide)
  have hd : sgN kx n = 48 := by rw [ek]; rfl
  have hr : rtN kx = 104 := by rw [ek]; rfl
  exact body_8 X hR hs hL e1 e2 hk (Nat.zero_le 2) (n12 hn1) (n26 hn2) (kC_digest_9 X hR da a oa q r C R ot n kx g2 hn ek) (kR_dig_s X hR da a oa q r _ R _ kx n (by omega) (by omega) (by rw [← g1]; exact g2) hn (by omega)) rfl (fun _ => (hq_n hd.symm (by omega))) (g_widen (n1 + 1) (n2 + 6) (Nat.le_succ _) (Nat.le_add_right _ 6) (kk _ _ _ (INV_mk i1 i2 (SL_set i3 6 (by decide) hd.symm (by rw [hd, ← g1]; exact dig_s c5 c6 (rate := 104) (by decide) (by decide) hr (C.n 3) 48 g3 _ _ _ _ _ (by rw [ek]; rfl) _ _)) i4 i5)))
theorem step_8_10 {B : Bx} {M : Mx} {Q : State → Prop} (X : CX B M code 8 "SpongeDigestsLaw") (hR : m_R M = room_1) (hst : (m_l M).stackTraces = false) {b L : Nat} {xs : Nat → Int32} (hs : SCR M b L xs) (hL : L ≤ 3072) {da a oa : Nat} {q r : Nat → Nat} {C : CS} {R : RS} {ot : Nat → Int64} {k n1 n2 : Nat} (hk : 6 * k + 6 ≤ L) (hn1 : n1 + 1 ≤ (m_R M).cells) (hn2 : n2 + 6 ≤ (m_R M).slots) (hI : INV C R) (kx n : Nat) (e1 : xs (6 * k + 1) = nI kx) (e2 : xs (6 * k + 2) = nI n) (hn : n ≤ 8192) (ek : kx = 10)
    (kk : ∀ (C2 : CS) (R2 : RS) (ot2 : Nat → Int64), INV C2 R2 → G B M 8 (n1 + 1) (n2 + 6) Q (LW B da a oa q r C2 R2 ot2) [(0, .ref b), (1, .ref da), (2, .ref a), (3, .ref oa), (4, .int (nI (6 * k)))] 746 []) : G B M 8 n1 n2 Q (LW B da a oa q r C R ot) [(0, .ref b), (1, .ref da), (2, .ref a), (3, .ref oa), (4, .int (nI (6 * k)))] 678 [] := by
  obtain ⟨i1, i2, i3, i4, i5⟩ := hI
  obtain ⟨c1, c2, c3, c4, c5, c6⟩ := i5
  have i5 : CON R := ⟨c1, c2, c3, c4, c5, c6⟩
  obtain ⟨g1, g2, g3⟩ := i3 3 (by decide)
  have hd : sgN kx n = 64 := by rw [ek]; rfl
  have hr : rtN kx = 72 := by rw [ek]; rfl
  exact body_8 X hR hs hL e1 e2 hk (Nat.zero_le 2) (n12 hn1) (n26 hn2) (kC_digest_10 X hR da a oa q r C R ot n kx g2 hn ek) (kR_dig_s X hR da a oa q r _ R _ kx n (by omega) (by omega) (by rw [← g1]; exact g2) hn (by omega)) rfl (fun _ => (hq_n hd.symm (by omega))) (g_widen (n1 + 1) (n2 + 6) (Nat.le_succ _) (Nat.le_add_right _ 6) (kk _ _ _ (INV_mk i1 i2 (SL_set i3 6 (by decide) hd.symm (by rw [hd, ← g1]; exact dig_s c5 c6 (rate := 72) (by decide) (by decide) hr (C.n 3) 64 g3 _ _ _ _ _ (by rw [ek]; rfl) _ _)) i4 i5)))
theorem step_8_11 {B : Bx} {M : Mx} {Q : State → Prop} (X : CX B M code 8 "SpongeDigestsLaw") (hR : m_R M = room_1) (hst : (m_l M).stackTraces = false) {b L : Nat} {xs : Nat → Int32} (hs : SCR M b L xs) (hL : L ≤ 3072) {da a oa : Nat} {q r : Nat → Nat} {C : CS} {R : RS} {ot : Nat → Int64} {k n1 n2 : Nat} (hk : 6 * k + 6 ≤ L) (hn1 : n1 + 1 ≤ (m_R M).cells) (hn2 : n2 + 6 ≤ (m_R M).slots) (hI : INV C R) (kx n : Nat) (e1 : xs (6 * k + 1) = nI kx) (e2 : xs (6 * k + 2) = nI n) (hn : n ≤ 8192) (ek : kx = 11)
    (kk : ∀ (C2 : CS) (R2 : RS) (ot2 : Nat → Int64), INV C2 R2 → G B M 8 (n1 + 1) (n2 + 6) Q (LW B da a oa q r C2 R2 ot2) [(0, .ref b), (1, .ref da), (2, .ref a), (3, .ref oa), (4, .int (nI (6 * k)))] 746 []) : G B M 8 n1 n2 Q (LW B da a oa q r C R ot) [(0, .ref b), (1, .ref da), (2, .ref a), (3, .ref oa), (4, .int (nI (6 * k)))] 678 [] := by
  obtain ⟨i1, i2, i3, i4, i5⟩ := hI
  obtain ⟨c1, c2, c3, c4, c5, c6⟩ := i5
  have i5 : CON R := ⟨c1, c2, c3, c4, c5, c6⟩
  obtain ⟨g1, g2, g3⟩ := i3 3 (by decide)
  have hd : sgN kx n = n := by rw [ek]; rfl
  have hr : rtN kx = 168 := by rw [ek]; rfl
  exact body_8 X hR hs hL e1 e2 hk (Nat.zero_le 2) (n12 hn1) (n26 hn2) (kC_digest_11 X hR da a oa q r C R ot n kx g2 hn ek) (kR_dig_x X hR da a oa q r _ R _ kx n (by omega) (by omega) (by rw [← g1]; exact g2) hn (by omega)) rfl (fun _ => (hq_n hd.symm (by omega))) (g_widen (n1 + 1) (n2 + 6) (Nat.le_succ _) (Nat.le_add_right _ 6) (kk _ _ _ (INV_mk i1 i2 (SL_set i3 6 hn hd.symm (by rw [hd, ← g1]; exact dig_s c5 c6 (rate := 168) (by decide) (by decide) hr (C.n 3) n g3 _ _ _ _ _ (by rw [ek]; rfl) _ _)) i4 i5)))
theorem step_8_12 {B : Bx} {M : Mx} {Q : State → Prop} (X : CX B M code 8 "SpongeDigestsLaw") (hR : m_R M = room_1) (hst : (m_l M).stackTraces = false) {b L : Nat} {xs : Nat → Int32} (hs : SCR M b L xs) (hL : L ≤ 3072) {da a oa : Nat} {q r : Nat → Nat} {C : CS} {R : RS} {ot : Nat → Int64} {k n1 n2 : Nat} (hk : 6 * k + 6 ≤ L) (hn1 : n1 + 1 ≤ (m_R M).cells) (hn2 : n2 + 6 ≤ (m_R M).slots) (hI : INV C R) (kx n : Nat) (e1 : xs (6 * k + 1) = nI kx) (e2 : xs (6 * k + 2) = nI n) (hn : n ≤ 8192) (ek : kx = 12)
    (kk : ∀ (C2 : CS) (R2 : RS) (ot2 : Nat → Int64), INV C2 R2 → G B M 8 (n1 + 1) (n2 + 6) Q (LW B da a oa q r C2 R2 ot2) [(0, .ref b), (1, .ref da), (2, .ref a), (3, .ref oa), (4, .int (nI (6 * k)))] 746 []) : G B M 8 n1 n2 Q (LW B da a oa q r C R ot) [(0, .ref b), (1, .ref da), (2, .ref a), (3, .ref oa), (4, .int (nI (6 * k)))] 678 [] := by
  obtain ⟨i1, i2, i3, i4, i5⟩ := hI
  obtain ⟨c1, c2, c3, c4, c5, c6⟩ := i5
  have i5 : CON R := ⟨c1, c2, c3, c4, c5, c6⟩
  obtain ⟨g1, g2, g3⟩ := i3 3 (by decide)
  have hd : sgN kx n = n := by rw [ek]; rfl
  have hr : rtN kx = 136 := by rw [ek]; rfl
  exact body_8 X hR hs hL e1 e2 hk (Nat.zero_le 2) (n12 hn1) (n26 hn2) (kC_digest_12 X hR da a oa q r C R ot n kx g2 hn ek) (kR_dig_x X hR da a oa q r _ R _ kx n (by omega) (by omega) (by rw [← g1]; exact g2) hn (by omega)) rfl (fun _ => (hq_n hd.symm (by omega))) (g_widen (n1 + 1) (n2 + 6) (Nat.le_succ _) (Nat.le_add_right _ 6) (kk _ _ _ (INV_mk i1 i2 (SL_set i3 6 hn hd.symm (by rw [hd, ← g1]; exact dig_s c5 c6 (rate := 136) (by decide) (by decide) hr (C.n 3) n g3 _ _ _ _ _ (by rw [ek]; rfl) _ _)) i4 i5)))
theorem step_8_13 {B : Bx} {M : Mx} {Q : State → Prop} (X : CX B M code 8 "SpongeDigestsLaw") (hR : m_R M = room_1) (hst : (m_l M).stackTraces = false) {b L : Nat} {xs : Nat → Int32} (hs : SCR M b L xs) (hL : L ≤ 3072) {da a oa : Nat} {q r : Nat → Nat} {C : CS} {R : RS} {ot : Nat → Int64} {k n1 n2 : Nat} (hk : 6 * k + 6 ≤ L) (hn1 : n1 + 1 ≤ (m_R M).cells) (hn2 : n2 + 6 ≤ (m_R M).slots) (hI : INV C R) (kx n : Nat) (e1 : xs (6 * k + 1) = nI kx) (e2 : xs (6 * k + 2) = nI n) (hn : n ≤ 8192) (ek : kx = 13)
    (kk : ∀ (C2 : CS) (R2 : RS) (ot2 : Nat → Int64), INV C2 R2 → G B M 8 (n1 + 1) (n2 + 6) Q (LW B da a oa q r C2 R2 ot2) [(0, .ref b), (1, .ref da), (2, .ref a), (3, .ref oa), (4, .int (nI (6 * k)))] 746 []) : G B M 8 n1 n2 Q (LW B da a oa q r C R ot) [(0, .ref b), (1, .ref da), (2, .ref a), (3, .ref oa), (4, .int (nI (6 * k)))] 678 [] := by
  obtain ⟨i1, i2, i3, i4, i5⟩ := hI
  obtain ⟨c1, c2, c3, c4, c5, c6⟩ := i5
  have i5 : CON R := ⟨c1, c2, c3, c4, c5, c6⟩
  obtain ⟨g1, g2, g3⟩ := i3 3 (by decide)
  obtain ⟨f1, f2, f3⟩ := i3 0 (by decide)
  subst ek
  have hb : ∀ i, i < 8 → s_l 2 i = rl false (bgV 1 R.ro R.s2 R.s5 i) := bg_1 c1
  exact body_8 X hR hs hL e1 e2 hk (Nat.zero_le 2) (n12 hn1) (n26 hn2) (kC_digest_13 X hR da a oa q r C R ot n 13 f2 g2 hn rfl) (kR_dig_13 X hR da a oa q r _ R _ 1 n (by rw [← g1]; exact g2) (by rw [← f1]; exact f2) hn rfl) rfl (fun _ => (hq_n rfl (by decide))) (g_widen (n1 + 1) (n2 + 6) (Nat.le_succ _) (Nat.le_add_right _ 6) (kk _ _ _ (INV_mk i1 i2 (SL_set i3 6 (by decide) rfl (by rw [← g1, ← f1]; exact dig_k c2 hb rfl rfl rfl (C.n 3) (C.n 0) 32 (by decide) g3 f3 _ _ _ _ _ _ _ _ _)) i4 i5)))
theorem step_8_14 {B : Bx} {M : Mx} {Q : State → Prop} (X : CX B M code 8 "SpongeDigestsLaw") (hR : m_R M = room_1) (hst : (m_l M).stackTraces = false) {b L : Nat} {xs : Nat → Int32} (hs : SCR M b L xs) (hL : L ≤ 3072) {da a oa : Nat} {q r : Nat → Nat} {C : CS} {R : RS} {ot : Nat → Int64} {k n1 n2 : Nat} (hk : 6 * k + 6 ≤ L) (hn1 : n1 + 1 ≤ (m_R M).cells) (hn2 : n2 + 6 ≤ (m_R M).slots) (hI : INV C R) (kx n : Nat) (e1 : xs (6 * k + 1) = nI kx) (e2 : xs (6 * k + 2) = nI n) (hn : n ≤ 8192) (ek : kx = 14)
    (kk : ∀ (C2 : CS) (R2 : RS) (ot2 : Nat → Int64), INV C2 R2 → G B M 8 (n1 + 1) (n2 + 6) Q (LW B da a oa q r C2 R2 ot2) [(0, .ref b), (1, .ref da), (2, .ref a), (3, .ref oa), (4, .int (nI (6 * k)))] 746 []) : G B M 8 n1 n2 Q (LW B da a oa q r C R ot) [(0, .ref b), (1, .ref da), (2, .ref a), (3, .ref oa), (4, .int (nI (6 * k)))] 678 [] := by
  obtain ⟨i1, i2, i3, i4, i5⟩ := hI
  obtain ⟨c1, c2, c3, c4, c5, c6⟩ := i5
  have i5 : CON R := ⟨c1, c2, c3, c4, c5, c6⟩
  obtain ⟨g1, g2, g3⟩ := i3 3 (by decide)
  obtain ⟨f1, f2, f3⟩ := i3 0 (by decide)
  subst ek
  have hb : ∀ i, i < 8 → s_l 4 i = rl true (bgV 3 R.ro R.s2 R.s5 i) := bg_3 c1
  exact body_8 X hR hs hL e1 e2 hk (Nat.zero_le 2) (n12 hn1) (n26 hn2) (kC_digest_14 X hR da a oa q r C R ot n 14 f2 g2 hn rfl) (kR_dig_14 X hR da a oa q r _ R _ 3 n (by rw [← g1]; exact g2) (by rw [← f1]; exact f2) hn rfl) rfl (fun _ => (hq_n rfl (by decide))) (g_widen (n1 + 1) (n2 + 6) (Nat.le_succ _) (Nat.le_add_right _ 6) (kk _ _ _ (INV_mk i1 i2 (SL_set i3 6 (by decide) rfl (by rw [← g1, ← f1]; exact dig_k c2 hb rfl rfl rfl (C.n 3) (C.n 0) 64 (by decide) g3 f3 _ _ _ _ _ _ _ _ _)) i4 i5)))
theorem step_8_15 {B : Bx} {M : Mx} {Q : State → Prop} (X : CX B M code 8 "SpongeDigestsLaw") (hR : m_R M = room_1) (hst : (m_l M).stackTraces = false) {b L : Nat} {xs : Nat → Int32} (hs : SCR M b L xs) (hL : L ≤ 3072) {da a oa : Nat} {q r : Nat → Nat} {C : CS} {R : RS} {ot : Nat → Int64} {k n1 n2 : Nat} (hk : 6 * k + 6 ≤ L) (hn1 : n1 + 1 ≤ (m_R M).cells) (hn2 : n2 + 6 ≤ (m_R M).slots) (hI : INV C R) (kx n : Nat) (e1 : xs (6 * k + 1) = nI kx) (e2 : xs (6 * k + 2) = nI n) (hn : n ≤ 8192) (ek : kx = 15)
    (kk : ∀ (C2 : CS) (R2 : RS) (ot2 : Nat → Int64), INV C2 R2 → G B M 8 (n1 + 1) (n2 + 6) Q (LW B da a oa q r C2 R2 ot2) [(0, .ref b), (1, .ref da), (2, .ref a), (3, .ref oa), (4, .int (nI (6 * k)))] 746 []) : G B M 8 n1 n2 Q (LW B da a oa q r C R ot) [(0, .ref b), (1, .ref da), (2, .ref a), (3, .ref oa), (4, .int (nI (6 * k)))] 678 [] := by
  obtain ⟨i1, i2, i3, i4, i5⟩ := hI
  obtain ⟨c1, c2, c3, c4, c5, c6⟩ := i5
  have i5 : CON R := ⟨c1, c2, c3, c4, c5, c6⟩
  obtain ⟨g1, g2, g3⟩ := i3 3 (by decide)
  subst ek
  have hb : ∀ i, i < 8 → s_l 2 i = rl false (bgV 1 R.ro R.s2 R.s5 i) := bg_1 c1
  exact body_8 X hR hs hL e1 e2 hk (Nat.zero_le 2) (n12 hn1) (n26 hn2) (kC_digest_15 X hR da a oa q r C R ot n 15 g2 hn rfl) (kR_dig_15 X hR da a oa q r _ R _ 1 n (by rw [← g1]; exact g2) hn rfl) rfl (fun _ => (hq_n rfl (by omega))) (g_widen (n1 + 1) (n2 + 6) (Nat.le_succ _) (Nat.le_add_right _ 6) (kk _ _ _ (INV_mk i1 i2 (SL_set i3 6 hn rfl (by rw [← g1]; exact hc_eq c2 hb rfl rfl (C.n 3) n hn g3 _ _ _ _ _)) i4 i5)))
theorem step_8_16 {B : Bx} {M : Mx} {Q : State → Prop} (X : CX B M code 8 "SpongeDigestsLaw") (hR : m_R M = room_1) (hst : (m_l M).stackTraces = false) {b L : Nat} {xs : Nat → Int32} (hs : SCR M b L xs) (hL : L ≤ 3072) {da a oa : Nat} {q r : Nat → Nat} {C : CS} {R : RS} {ot : Nat → Int64} {k n1 n2 : Nat} (hk : 6 * k + 6 ≤ L) (hn1 : n1 + 1 ≤ (m_R M).cells) (hn2 : n2 + 6 ≤ (m_R M).slots) (hI : INV C R) (kx n : Nat) (e1 : xs (6 * k + 1) = nI kx) (e2 : xs (6 * k + 2) = nI n) (hn : n ≤ 8192) (ek : kx = 16)
    (kk : ∀ (C2 : CS) (R2 : RS) (ot2 : Nat → Int64), INV C2 R2 → G B M 8 (n1 + 1) (n2 + 6) Q (LW B da a oa q r C2 R2 ot2) [(0, .ref b), (1, .ref da), (2, .ref a), (3, .ref oa), (4, .int (nI (6 * k)))] 746 []) : G B M 8 n1 n2 Q (LW B da a oa q r C R ot) [(0, .ref b), (1, .ref da), (2, .ref a), (3, .ref oa), (4, .int (nI (6 * k)))] 678 [] := by
  obtain ⟨i1, i2, i3, i4, i5⟩ := hI
  obtain ⟨c1, c2, c3, c4, c5, c6⟩ := i5
  have i5 : CON R := ⟨c1, c2, c3, c4, c5, c6⟩
  obtain ⟨g1, g2, g3⟩ := i3 3 (by decide)
  subst ek
  have hb : ∀ i, i < 8 → s_l 4 i = rl true (bgV 3 R.ro R.s2 R.s5 i) := bg_3 c1
  exact body_8 X hR hs hL e1 e2 hk (Nat.zero_le 2) (n12 hn1) (n26 hn2) (kC_digest_16 X hR da a oa q r C R ot n 16 g2 hn rfl) (kR_dig_16 X hR da a oa q r _ R _ 3 n (by rw [← g1]; exact g2) hn rfl) rfl (fun _ => (hq_n rfl (by omega))) (g_widen (n1 + 1) (n2 + 6) (Nat.le_succ _) (Nat.le_add_right _ 6) (kk _ _ _ (INV_mk i1 i2 (SL_set i3 6 hn rfl (by rw [← g1]; exact hc_eq c2 hb rfl rfl (C.n 3) n hn g3 _ _ _ _ _)) i4 i5)))
theorem step_8 {B : Bx} {M : Mx} {Q : State → Prop} (X : CX B M code 8 "SpongeDigestsLaw") (hR : m_R M = room_1) (hst : (m_l M).stackTraces = false) {b L : Nat} {xs : Nat → Int32} (hs : SCR M b L xs) (hL : L ≤ 3072) {da a oa : Nat} {q r : Nat → Nat} {C : CS} {R : RS} {ot : Nat → Int64} {k n1 n2 : Nat} (hk : 6 * k + 6 ≤ L) (hn1 : n1 + 1 ≤ (m_R M).cells) (hn2 : n2 + 6 ≤ (m_R M).slots) (hI : INV C R)
    (kk : ∀ (C2 : CS) (R2 : RS) (ot2 : Nat → Int64), INV C2 R2 → G B M 8 (n1 + 1) (n2 + 6) Q (LW B da a oa q r C2 R2 ot2) [(0, .ref b), (1, .ref da), (2, .ref a), (3, .ref oa), (4, .int (nI (6 * k)))] 746 []) : G B M 8 n1 n2 Q (LW B da a oa q r C R ot) [(0, .ref b), (1, .ref da), (2, .ref a), (3, .ref oa), (4, .int (nI (6 * k)))] 678 [] := by
  rcases inR_c (xs (6 * k + 1)) (lo := 1) (hi := 16) (by decide) (by decide) with h | ⟨kx, e1, hk1, hk2⟩
  · obtain ⟨i1, i2, i3, i4, i5⟩ := hI
    exact body_8 X hR hs hL rfl rfl hk (by decide) hn1 hn2 (kC_digest1 X hR da a oa q r C R ot (xs (6 * k + 1)) (xs (6 * k + 2)) hst h) (kR_dig1 X hR da a oa q r C R ot (xs (6 * k + 1)) (xs (6 * k + 2)) h) rfl (fun h0 => absurd h0 (by decide)) (kk _ _ _ (INV_mk i1 i2 i3 i4 i5))
  · rcases inR_c (xs (6 * k + 2)) (lo := 0) (hi := 8192) (by decide) (by decide) with h | ⟨n, e2, -, hn⟩
    · obtain ⟨i1, i2, i3, i4, i5⟩ := hI
      exact body_8 X hR hs hL e1 rfl hk (by decide) hn1 hn2 (kC_digest2 X hR da a oa q r C R ot kx (xs (6 * k + 2)) hst hk1 hk2 h) (kR_dig2 X hR da a oa q r C R ot (nI kx) (xs (6 * k + 2)) (inR_n hk1 hk2 (by omega)) h) rfl (fun h0 => absurd h0 (by decide)) (kk _ _ _ (INV_mk i1 i2 i3 i4 i5))
    · rcases (show kx = 1 ∨ kx = 2 ∨ kx = 3 ∨ kx = 4 ∨ kx = 5 ∨ kx = 6 ∨ kx = 7 ∨ kx = 8 ∨ kx = 9 ∨ kx = 10 ∨ kx = 11 ∨ kx = 12 ∨ kx = 13 ∨ kx = 14 ∨ kx = 15 ∨ kx = 16 from by omega) with ek | ek | ek | ek | ek | ek | ek | ek | ek | ek | ek | ek | ek | ek | ek | ek
      · exact step_8_1 X hR hst hs hL hk hn1 hn2 hI kx n e1 e2 hn ek kk
      · exact step_8_2 X hR hst hs hL hk hn1 hn2 hI kx n e1 e2 hn ek kk
      · exact step_8_3 X hR hst hs hL hk hn1 hn2 hI kx n e1 e2 hn ek kk
      · exact step_8_4 X hR hst hs hL hk hn1 hn2 hI kx n e1 e2 hn ek kk
      · exact step_8_5 X hR hst hs hL hk hn1 hn2 hI kx n e1 e2 hn ek kk
      · exact step_8_6 X hR hst hs hL hk hn1 hn2 hI kx n e1 e2 hn ek kk
      · exact step_8_7 X hR hst hs hL hk hn1 hn2 hI kx n e1 e2 hn ek kk
      · exact step_8_8 X hR hst hs hL hk hn1 hn2 hI kx n e1 e2 hn ek kk
      · exact step_8_9 X hR hst hs hL hk hn1 hn2 hI kx n e1 e2 hn ek kk
      · exact step_8_10 X hR hst hs hL hk hn1 hn2 hI kx n e1 e2 hn ek kk
      · exact step_8_11 X hR hst hs hL hk hn1 hn2 hI kx n e1 e2 hn ek kk
      · exact step_8_12 X hR hst hs hL hk hn1 hn2 hI kx n e1 e2 hn ek kk
      · exact step_8_13 X hR hst hs hL hk hn1 hn2 hI kx n e1 e2 hn ek kk
      · exact step_8_14 X hR hst hs hL hk hn1 hn2 hI kx n e1 e2 hn ek kk
      · exact step_8_15 X hR hst hs hL hk hn1 hn2 hI kx n e1 e2 hn ek kk
      · exact step_8_16 X hR hst hs hL hk hn1 hn2 hI kx n e1 e2 hn ek kk
