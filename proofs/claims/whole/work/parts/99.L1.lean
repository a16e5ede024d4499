section GL9
variable {B : Bx} {M : Mx} {cc : ByteArray} {nL n1 n2 : Nat} {own : String} {Q : State → Prop} {ws : va_W} {lv : List (Nat × Value)} {pc : Nat} {st rest : List Value}
def SCR (M : Mx) (b L : Nat) (xs : Nat → Int32) : Prop := va_X b L xs (m_s M) (m_s M).heap ∧ b < (m_s M).heap.size ∧ ¬ m_A M b
theorem g_sld (X : CX B M cc nL own) {b L : Nat} {xs : Nat → Int32} (hs : SCR M b L xs) (k : Nat) {i : Int32} (hi : i = nI k) (hk : k < L) (hL : L < 2 ^ 31) (hdg : decode cc pc = .ok (.iaload, 1))
    (kk : G B M nL n1 n2 Q ws lv (pc + 1) (.int (xs k) :: rest)) : G B M nL n1 n2 Q ws lv pc (.int i :: .ref b :: rest) := by
  intro H locs ls hP hD hS hl
  subst hi
  refine va_sld X.x X.b hs.1 hs.2.1 hs.2.2 hS (vp_in_nI hk hL) hdg ?_
  rw [nI_clamp (Nat.lt_trans hk hL)]
  exact kk H locs ls hP hD hS hl
theorem g_slen (X : CX B M cc nL own) {b L : Nat} {xs : Nat → Int32} (hs : SCR M b L xs) (hdg : decode cc pc = .ok (.arraylength, 1))
    (kk : G B M nL n1 n2 Q ws lv (pc + 1) (.int (nI L) :: rest)) : G B M nL n1 n2 Q ws lv pc (.ref b :: rest) :=
  fun H locs ls hP hD hS hl => va_slen X.x X.b hs.1 hs.2.1 hs.2.2 hS hdg (kk H locs ls hP hD hS hl)
theorem W0_goodW {y' : MethodName} {b' : ByteArray} {n' : Nat} {r' : Option FieldType} {hh : List (Nat × Nat × Nat × Nat)} {own : String} {index : Nat} (h : Cond.codeWith y' b' n' r' hh ∈ W0) (h1 : Cond.methodLink own index y' ∈ W0) (h2 : Cond.static y' ∈ W0) (h3 : Cond.initialized y'.cls ∈ W0) : GoodIn W0 (va_wsS own index y' (Cond.codeWith y' b' n' r' hh :: W0)) := by
  intro w hw
  have hm : w ∈ W0 := by
    simp only [va_wsS, List.mem_append, List.mem_cons, List.not_mem_nil, or_false] at hw
    rcases hw with hw | hw
    · rcases hw with rfl | rfl | rfl <;> assumption
    · rcases hw with rfl | hw
      · exact h
      · exact hw
  exact ⟨hm, good_of_word (List.mem_filter.mp hm).2⟩
theorem g_callSh {S : Type} (X : CX B M cc nL own) {ok : Int32 → S → Prop} {hh : List (Nat × Nat × Nat × Nat)} {ws1 : S → va_W} {y : MethodName} {b : ByteArray} {n index : Nat} {rm : Room} {As : List Value} {wc : va_W} (hM : Ch (m_l M) B y b n hh rm As wc ok ws1)
    (hlink : Cond.methodLink own index y ∈ W0) (hstat : Cond.static y ∈ W0) (hini : Cond.initialized y.cls ∈ W0) (hcode : Cond.codeWith y b n (some .int) hh ∈ W0) (hd : y.cls ≠ "java/lang/invoke/MethodHandle" ∧ y.cls ≠ "java/lang/invoke/VarHandle" ∧ (parseMethodDescriptor y.desc).map (fun d => d.parameters.length) = some As.length)
    (isC : List Nat) (hnC : va_nd isC = true) (hC : isC.map (fun i => ws[i]?) = wc.map some) (ad : List Nat) (hadr : ∀ u : S, (ws1 u).map Prod.fst = ad) (hadc : wc.map Prod.fst = ad)
    (hroom : rm.frames + 1 ≤ (m_R M).frames ∧ 8 + (n + 11) + rm.locals ≤ (m_R M).locals) (hcs : n1 + rm.cells ≤ (m_R M).cells ∧ n2 + rm.slots ≤ (m_R M).slots) (hst : st = As.reverse ++ rest) (hrs : (rest.map fun v => v.category).sum ≤ 8) (hdg : decode cc pc = .ok (.invokestatic index, 3))
    (kk : ∀ (r : Int32) (u : S), ok r u → G B M nL (n1 + rm.cells) (n2 + rm.slots) Q (wput ws isC (ws1 u)) lv (pc + 3) (.int r :: rest)) : G B M nL n1 n2 Q ws lv pc st := by
  intro H locs ls hP hD hS hl
  subst hst
  have hFc := va_free (wc := wc) hD hS X.A isC hC
  refine va_calli (vx_runSW (As := As) (rest := rest) ⟨X.x, X.b, X.n, X.o, X.t⟩ (hM H.size) (vx_cwSW (hh := hh) As.length X.t (W0_goodW hcode hlink hstat hini) rfl rfl rfl hd hroom) ⟨PreW.blind _ _ _, PreW.at X As hP hD hS hnC hC⟩ rfl rfl hl.1 rfl (lv_room hrs) hdg hcs) hS (fun q _ h => hFc q h) hFc (fun r u t H1 locs1 ht hvm hw hB hz1 hk1 hS1 => ?_)
  obtain ⟨hP1, hK1, hD1⟩ := hB
  rw [ht] at hP1
  obtain ⟨hP2, hD2⟩ := wput_join (w1 := ws1 u) hP hD isC hC ((hadr u).trans hadc.symm) hk1 hP1
  exact kk r u hw H1 locs1 ls hP2 hD2 hS1 hl
end GL9
abbrev CS : Type := (Nat → Nat) × (Nat → Nat → Int8) × Nat × (Nat → Int8) × S3 × H4 × Nat × Nat × (Nat → Int64) × H4 × Nat × Nat × (Nat → Int64) × (Nat → Int8) × (Nat → Int8) × (Nat → Int8) × (Nat → Int8)
abbrev CS.n (z : CS) : Nat → Nat := z.1
abbrev CS.f (z : CS) : Nat → Nat → Int8 := z.2.1
abbrev CS.tp (z : CS) : Nat := z.2.2.1
abbrev CS.ft (z : CS) : Nat → Int8 := z.2.2.2.1
abbrev CS.sp (z : CS) : S3 := z.2.2.2.2.1
abbrev CS.h1 (z : CS) : H4 := z.2.2.2.2.2.1
abbrev CS.t1 (z : CS) : Nat := z.2.2.2.2.2.2.1
abbrev CS.m1 (z : CS) : Nat := z.2.2.2.2.2.2.2.1
abbrev CS.s1 (z : CS) : Nat → Int64 := z.2.2.2.2.2.2.2.2.1
abbrev CS.h2 (z : CS) : H4 := z.2.2.2.2.2.2.2.2.2.1
abbrev CS.t2 (z : CS) : Nat := z.2.2.2.2.2.2.2.2.2.2.1
abbrev CS.m2 (z : CS) : Nat := z.2.2.2.2.2.2.2.2.2.2.2.1
abbrev CS.s2 (z : CS) : Nat → Int64 := z.2.2.2.2.2.2.2.2.2.2.2.2.1
abbrev CS.kf (z : CS) : Nat → Int8 := z.2.2.2.2.2.2.2.2.2.2.2.2.2.1
abbrev CS.pf (z : CS) : Nat → Int8 := z.2.2.2.2.2.2.2.2.2.2.2.2.2.2.1
abbrev CS.nf (z : CS) : Nat → Int8 := z.2.2.2.2.2.2.2.2.2.2.2.2.2.2.2.1
abbrev CS.cf (z : CS) : Nat → Int8 := z.2.2.2.2.2.2.2.2.2.2.2.2.2.2.2.2
abbrev RS : Type := Nat × Int32 × Nat × Nat × Nat × Nat × (Nat → Int8) × (Nat → Nat) × (Nat → Nat → Int8) × (Nat → Int64) × (Nat → Int64) × (Nat → Int64) × (Nat → Int64) × (Nat → Int64) × (Nat → Int64) × (Nat → Int32) × (Nat → Int64) × (Nat → Int64) × (Nat → Int64) × (Nat → Int64) × (Nat → Int64) × (Nat → Int8) × (Nat → Int8) × (Nat → Int8)
abbrev RS.tp (z : RS) : Nat := z.1
abbrev RS.cd (z : RS) : Int32 := z.2.1
abbrev RS.kd (z : RS) : Nat := z.2.2.1
abbrev RS.rt (z : RS) : Nat := z.2.2.2.1
abbrev RS.fl (z : RS) : Nat := z.2.2.2.2.1
abbrev RS.tt (z : RS) : Nat := z.2.2.2.2.2.1
abbrev RS.fo (z : RS) : Nat → Int8 := z.2.2.2.2.2.2.1
abbrev RS.ln (z : RS) : Nat → Nat := z.2.2.2.2.2.2.2.1
abbrev RS.g (z : RS) : Nat → Nat → Int8 := z.2.2.2.2.2.2.2.2.1
abbrev RS.ro (z : RS) : Nat → Int64 := z.2.2.2.2.2.2.2.2.2.1
abbrev RS.K (z : RS) : Nat → Int64 := z.2.2.2.2.2.2.2.2.2.2.1
abbrev RS.s2 (z : RS) : Nat → Int64 := z.2.2.2.2.2.2.2.2.2.2.2.1
abbrev RS.s5 (z : RS) : Nat → Int64 := z.2.2.2.2.2.2.2.2.2.2.2.2.1
abbrev RS.lm (z : RS) : Nat → Int64 := z.2.2.2.2.2.2.2.2.2.2.2.2.2.1
abbrev RS.pd (z : RS) : Nat → Int64 := z.2.2.2.2.2.2.2.2.2.2.2.2.2.2.1
abbrev RS.T (z : RS) : Nat → Int32 := z.2.2.2.2.2.2.2.2.2.2.2.2.2.2.2.1
abbrev RS.rn (z : RS) : Nat → Int64 := z.2.2.2.2.2.2.2.2.2.2.2.2.2.2.2.2.1
abbrev RS.S (z : RS) : Nat → Int64 := z.2.2.2.2.2.2.2.2.2.2.2.2.2.2.2.2.2.1
abbrev RS.o (z : RS) : Nat → Int64 := z.2.2.2.2.2.2.2.2.2.2.2.2.2.2.2.2.2.2.1
abbrev RS.c (z : RS) : Nat → Int64 := z.2.2.2.2.2.2.2.2.2.2.2.2.2.2.2.2.2.2.2.1
abbrev RS.w (z : RS) : Nat → Int64 := z.2.2.2.2.2.2.2.2.2.2.2.2.2.2.2.2.2.2.2.2.1
abbrev RS.bk (z : RS) : Nat → Int8 := z.2.2.2.2.2.2.2.2.2.2.2.2.2.2.2.2.2.2.2.2.2.1
abbrev RS.hk (z : RS) : Nat → Int8 := z.2.2.2.2.2.2.2.2.2.2.2.2.2.2.2.2.2.2.2.2.2.2.1
abbrev RS.nf (z : RS) : Nat → Int8 := z.2.2.2.2.2.2.2.2.2.2.2.2.2.2.2.2.2.2.2.2.2.2.2
abbrev LW (B : Bx) (da a oa : Nat) (q r : Nat → Nat) (C : CS) (R : RS) (ot : Nat → Int64) : va_W := [co da 3 [.ref (q 0), .ref (q 1), .ref (q 3), .ref (q 7), .ref (q 12), .ref (q 17), .ref (q 18), .ref (q 19), .ref (q 20)], cr B (q 0) 8 (fun z9 => some (q (21 + 2 * z9))), co (q 1) 1 [.ref (q 2), .int (nI C.tp)], cb B (q 2) 8192 C.ft, co (q 3) 2 [.ref (q 4), .ref (q 5), .ref (q 6)], cj B (q 4) 25 C.sp.1, cj B (q 5) 25 C.sp.2.1, cj B (q 6) 5 C.sp.2.2, co (q 7) 0 [.int (nI (wbN false)), .int (nI (8 * wbN false)), .int (nI (rdN false)), .ref (b_t B (dk false)), .long (mk9 false), .int (nI (16 * wbN false)), .int (nI (8 * wbN false)), .ref (q 8), .ref (q 9), .ref (q 10), .ref (q 11), .int (nI C.h1.2.1), .long (lN C.t1), .long (lN C.m1)], cb B (q 8) (16 * wbN false) C.h1.1, cj B (q 9) 8 C.h1.2.2.1, cj B (q 10) (rdN false) C.h1.2.2.2, cj B (q 11) 8 C.s1, co (q 12) 0 [.int (nI (wbN true)), .int (nI (8 * wbN true)), .int (nI (rdN true)), .ref (b_t B (dk true)), .long (mk9 true), .int (nI (16 * wbN true)), .int (nI (8 * wbN true)), .ref (q 13), .ref (q 14), .ref (q 15), .ref (q 16), .int (nI C.h2.2.1), .long (lN C.t2), .long (lN C.m2)], cb B (q 13) (16 * wbN true) C.h2.1, cj B (q 14) 8 C.h2.2.2.1, cj B (q 15) (rdN true) C.h2.2.2.2, cj B (q 16) 8 C.s2, cb B (q 17) 128 C.kf, cb B (q 18) 128 C.pf, cb B (q 19) 64 C.nf, cb B (q 20) 4 C.cf, co (q (21 + 2 * 0)) 1 [.ref (q (22 + 2 * 0)), .int (nI (C.n 0))], cb B (q (22 + 2 * 0)) 8192 (C.f 0), co (q (21 + 2 * 1)) 1 [.ref (q (22 + 2 * 1)), .int (nI (C.n 1))], cb B (q (22 + 2 * 1)) 8192 (C.f 1), co (q (21 + 2 * 2)) 1 [.ref (q (22 + 2 * 2)), .int (nI (C.n 2))], cb B (q (22 + 2 * 2)) 8192 (C.f 2), co (q (21 + 2 * 3)) 1 [.ref (q (22 + 2 * 3)), .int (nI (C.n 3))], cb B (q (22 + 2 * 3)) 8192 (C.f 3), co (q (21 + 2 * 4)) 1 [.ref (q (22 + 2 * 4)), .int (nI (C.n 4))], cb B (q (22 + 2 * 4)) 8192 (C.f 4), co (q (21 + 2 * 5)) 1 [.ref (q (22 + 2 * 5)), .int (nI (C.n 5))], cb B (q (22 + 2 * 5)) 8192 (C.f 5), co (q (21 + 2 * 6)) 1 [.ref (q (22 + 2 * 6)), .int (nI (C.n 6))], cb B (q (22 + 2 * 6)) 8192 (C.f 6), co (q (21 + 2 * 7)) 1 [.ref (q (22 + 2 * 7)), .int (nI (C.n 7))], cb B (q (22 + 2 * 7)) 8192 (C.f 7), co a 4 [.ref (r 0), .ref (r 1), .ref (r 2), .int (nI R.tp), .int R.cd, .ref (r 3), .ref (r 4), .ref (r 5), .ref (r 6), .ref (r 7), .ref (r 8), .ref (r 9), .ref (r 10), .ref (r 11), .ref (r 12), .ref (r 13), .ref (r 14), .ref (r 15), .int (nI R.kd), .int (nI R.rt), .int (nI R.fl), .long (lN R.tt), .ref (r 16), .ref (r 17)], cb B (r 0) 8192 R.fo, cq B (r 1) 8 (fun z9 => some (r (20 + z9))), cn B (r 2) 8 (fun z9 => nI (R.ln z9)), cj B (r 3) 16 R.ro, cj B (r 4) 80 R.K, cj B (r 5) 8 R.s2, cj B (r 6) 8 R.s5, cj B (r 7) 16 R.lm, cj B (r 8) 16 R.pd, cn B (r 9) 25 R.T, cj B (r 10) 24 R.rn, cj B (r 11) 25 R.S, cj B (r 12) 25 R.o, cj B (r 13) 5 R.c, cj B (r 14) 80 R.w, cb B (r 15) 128 R.bk, cb B (r 16) 128 R.hk, cb B (r 17) 64 R.nf, cb B (r (20 + 0)) 8192 (R.g 0), cb B (r (20 + 1)) 8192 (R.g 1), cb B (r (20 + 2)) 8192 (R.g 2), cb B (r (20 + 3)) 8192 (R.g 3), cb B (r (20 + 4)) 8192 (R.g 4), cb B (r (20 + 5)) 8192 (R.g 5), cb B (r (20 + 6)) 8192 (R.g 6), cb B (r (20 + 7)) 8192 (R.g 7), cj B oa 1 ot]
def CallS (B : Bx) (M : Mx) (Q : State → Prop) (pcc : Nat) (st : List Value) (w w' : va_W) (v : Value) (mc ms : Nat) : Prop := ∀ (n1 n2 : Nat) (lv : List (Nat × Value)), n1 + mc ≤ (m_R M).cells → n2 + ms ≤ (m_R M).slots → G B M 8 (n1 + mc) (n2 + ms) Q w' lv (pcc + 3) [v] → G B M 8 n1 n2 Q w lv pcc st
