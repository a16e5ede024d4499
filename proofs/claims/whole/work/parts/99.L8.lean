theorem and15 (x : Int32) : ∃ t : Nat, x &&& nI 15 = nI t ∧ t < 16 := by
  have h1 : (x &&& nI 15).toBitVec.toNat < 16 := by
    rw [Int32.toBitVec_and, BitVec.toNat_and]
    have : (nI 15).toBitVec.toNat = 2 ^ 4 - 1 := rfl
    rw [this, Nat.and_two_pow_sub_one_eq_mod]
    omega
  refine ⟨(x &&& nI 15).toBitVec.toNat, ?_, h1⟩
  apply Int32.toBitVec_inj.mp
  apply BitVec.eq_of_toNat_eq
  show _ = (BitVec.ofNat 32 _).toNat
  rw [BitVec.toNat_ofNat, Nat.mod_eq_of_lt (by omega)]
theorem end_gt {k L : Nat} (hL : L ≤ 3072) (hk : k ≤ 600) : (nI L - nI 6 < nI (6 * k)) ↔ L < 6 * k + 6 := by
  rw [Int32.lt_iff_toInt_lt, pk_sub_toInt (by omega) (by omega), nI_toInt (by omega)]
  omega
theorem law_iter {B : Bx} {M : Mx} {Q : State → Prop} (X : CX B M code 8 "SpongeDigestsLaw") (hR : m_R M = room_1) (hst : (m_l M).stackTraces = false) {b L : Nat} {xs : Nat → Int32} (hs : SCR M b L xs) (hL : L ≤ 3072) {da a oa : Nat} {q r : Nat → Nat} {C : CS} {R : RS} {ot : Nat → Int64} {k n1 n2 : Nat} (hk : 6 * k + 6 ≤ L) (hn1 : n1 + 1 ≤ (m_R M).cells) (hn2 : n2 + 6 ≤ (m_R M).slots) (hI : INV C R)
    (kk : ∀ (C2 : CS) (R2 : RS) (ot2 : Nat → Int64), INV C2 R2 → G B M 8 (n1 + 1) (n2 + 6) Q (LW B da a oa q r C2 R2 ot2) [(0, .ref b), (1, .ref da), (2, .ref a), (3, .ref oa), (4, .int (nI (6 * k)))] 746 []) : G B M 8 n1 n2 Q (LW B da a oa q r C R ot) [(0, .ref b), (1, .ref da), (2, .ref a), (3, .ref oa), (4, .int (nI (6 * k)))] 33 [] := by
  refine g_aload_n (pc := 33) X (i := 0) d_law_33 rfl rfl ?_
  refine g_iload (pc := 34) X d_law_34 rfl ?_
  refine g_sld (pc := 36) X hs (6 * k) rfl (by omega) (by omega) d_law_36 ?_
  refine g_bipush (pc := 37) X (v := nI 15) d_law_37 (by decide) ?_
  refine g_iand (pc := 39) X d_law_39 ?_
  obtain ⟨t, et, ht⟩ := and15 (xs (6 * k))
  refine g_seti (nI t) et ?_
  rcases (show t = 0 ∨ t = 1 ∨ t = 2 ∨ t = 3 ∨ t = 4 ∨ t = 5 ∨ t = 6 ∨ t = 7 ∨ t = 8 ∨ t = 9 ∨ t = 10 ∨ t = 11 ∨ t = 12 ∨ t = 13 ∨ t = 14 ∨ t = 15 from by omega) with h9 | h9 | h9 | h9 | h9 | h9 | h9 | h9 | h9 | h9 | h9 | h9 | h9 | h9 | h9 | h9 <;> subst h9
  · refine g_tableIn (pc := 40) X (tgt := 92) d_law_40 (by decide) (by decide) rfl (by decide) ?_
    exact step_0 X hR hst hs hL hk hn1 hn2 hI kk
  · refine g_tableIn (pc := 40) X (tgt := 196) d_law_40 (by decide) (by decide) rfl (by decide) ?_
    exact step_1 X hR hst hs hL hk hn1 hn2 hI kk
  · refine g_tableIn (pc := 40) X (tgt := 264) d_law_40 (by decide) (by decide) rfl (by decide) ?_
    exact step_2 X hR hst hs hL hk hn1 hn2 hI kk
  · refine g_tableIn (pc := 40) X (tgt := 332) d_law_40 (by decide) (by decide) rfl (by decide) ?_
    exact step_3 X hR hst hs hL hk hn1 hn2 hI kk
  · refine g_tableIn (pc := 40) X (tgt := 400) d_law_40 (by decide) (by decide) rfl (by decide) ?_
    exact step_4 X hR hst hs hL hk hn1 hn2 hI kk
  · refine g_tableIn (pc := 40) X (tgt := 480) d_law_40 (by decide) (by decide) rfl (by decide) ?_
    exact step_5 X hR hst hs hL hk hn1 hn2 hI kk
  · refine g_tableIn (pc := 40) X (tgt := 536) d_law_40 (by decide) (by decide) rfl (by decide) ?_
    exact step_6 X hR hst hs hL hk hn1 hn2 hI kk
  · refine g_tableIn (pc := 40) X (tgt := 603) d_law_40 (by decide) (by decide) rfl (by decide) ?_
    exact step_7 X hR hst hs hL hk hn1 hn2 hI kk
  · refine g_tableIn (pc := 40) X (tgt := 678) d_law_40 (by decide) (by decide) rfl (by decide) ?_
    exact step_8 X hR hst hs hL hk hn1 hn2 hI kk
  · refine g_tableOut (pc := 40) X (tgt := 746) d_law_40 (by decide) (by decide) ?_
    exact g_widen (n1 + 1) (n2 + 6) (Nat.le_succ _) (Nat.le_add_right _ 6) (kk C R ot hI)
  · refine g_tableOut (pc := 40) X (tgt := 746) d_law_40 (by decide) (by decide) ?_
    exact g_widen (n1 + 1) (n2 + 6) (Nat.le_succ _) (Nat.le_add_right _ 6) (kk C R ot hI)
  · refine g_tableOut (pc := 40) X (tgt := 746) d_law_40 (by decide) (by decide) ?_
    exact g_widen (n1 + 1) (n2 + 6) (Nat.le_succ _) (Nat.le_add_right _ 6) (kk C R ot hI)
  · refine g_tableOut (pc := 40) X (tgt := 746) d_law_40 (by decide) (by decide) ?_
    exact g_widen (n1 + 1) (n2 + 6) (Nat.le_succ _) (Nat.le_add_right _ 6) (kk C R ot hI)
  · refine g_tableOut (pc := 40) X (tgt := 746) d_law_40 (by decide) (by decide) ?_
    exact g_widen (n1 + 1) (n2 + 6) (Nat.le_succ _) (Nat.le_add_right _ 6) (kk C R ot hI)
  · refine g_tableOut (pc := 40) X (tgt := 746) d_law_40 (by decide) (by decide) ?_
    exact g_widen (n1 + 1) (n2 + 6) (Nat.le_succ _) (Nat.le_add_right _ 6) (kk C R ot hI)
  · refine g_tableOut (pc := 40) X (tgt := 746) d_law_40 (by decide) (by decide) ?_
    exact g_widen (n1 + 1) (n2 + 6) (Nat.le_succ _) (Nat.le_add_right _ 6) (kk C R ot hI)
theorem law_loop {B : Bx} {M : Mx} {Q : State → Prop} (X : CX B M code 8 "SpongeDigestsLaw") (hR : m_R M = room_1) (hst : (m_l M).stackTraces = false) {b L : Nat} {xs : Nat → Int32} (hs : SCR M b L xs) (hL : L ≤ 3072) {da a oa : Nat} {q r : Nat → Nat} {n1 n2 : Nat} (hn1 : n1 + 512 ≤ (m_R M).cells) (hn2 : n2 + 3072 ≤ (m_R M).slots)
    (kret : ∀ (n3 n4 : Nat) (w : va_W) (lv : List (Nat × Value)), n3 ≤ (m_R M).cells → n4 ≤ (m_R M).slots → G B M 8 n3 n4 Q w lv 753 [.int (nI 1)]) (C : CS) (R : RS) (ot : Nat → Int64) (hI : INV C R) : G B M 8 n1 n2 Q (LW B da a oa q r C R ot) [(0, .ref b), (1, .ref da), (2, .ref a), (3, .ref oa), (4, .int (nI (6 * 0)))] 23 [] := by
  have key := loopK (fun k => ∀ (C : CS) (R : RS) (ot : Nat → Int64), INV C R → G B M 8 (n1 + k) (n2 + 6 * k) Q (LW B da a oa q r C R ot) [(0, .ref b), (1, .ref da), (2, .ref a), (3, .ref oa), (4, .int (nI (6 * k)))] 23 []) (L / 6) ?_ ?_
  · exact key C R ot hI
  · intro k hk kk C R ot hI
    have hk6 : 6 * k + 6 ≤ L := by omega
    refine g_iload (pc := 23) X d_law_23 rfl ?_
    refine g_aload_n (pc := 25) X (i := 0) d_law_25 rfl rfl ?_
    refine g_slen (pc := 26) X hs d_law_26 ?_
    refine g_bipush (pc := 27) X (v := nI 6) d_law_27 (by decide) ?_
    refine g_isub (pc := 29) X d_law_29 ?_
    refine g_icmp_gt (pc := 30) X (tgt := 752) d_law_30 (by decide) (fun h => absurd ((end_gt hL (by omega)).mp h) (by omega)) (fun _ => ?_)
    refine law_iter X hR hst hs hL hk6 (by omega) (by omega) hI (fun C2 R2 ot2 hI2 => ?_)
    refine g_iincN (pc := 746) X (a := 6 * k) (6 * (k + 1)) d_law_746 rfl 6 rfl (by omega) (by decide) ?_
    refine g_lv [(0, .ref b), (1, .ref da), (2, .ref a), (3, .ref oa), (4, .int (nI (6 * (k + 1))))] rfl ?_
    refine g_goto (pc := 749) X (tgt := 23) d_law_749 (by decide) ?_
    exact kk C2 R2 ot2 hI2
  · intro C R ot hI
    refine g_iload (pc := 23) X d_law_23 rfl ?_
    refine g_aload_n (pc := 25) X (i := 0) d_law_25 rfl rfl ?_
    refine g_slen (pc := 26) X hs d_law_26 ?_
    refine g_bipush (pc := 27) X (v := nI 6) d_law_27 (by decide) ?_
    refine g_isub (pc := 29) X d_law_29 ?_
    refine g_icmp_gt (pc := 30) X (tgt := 752) d_law_30 (by decide) (fun _ => ?_) (fun h => absurd ((end_gt hL (by omega)).mpr (by omega)) h)
    refine g_iconst (pc := 752) X (v := nI 1) d_law_752 (by decide) ?_
    exact kret _ _ _ _ (by omega) (by omega)

