def R_law : String := "SpongeDigestsLaw"
def lw_P (b : Addr) (xs : List Int32) (args : Array Value) (s : State) : Prop := args = #[.ref b] ∧ s.IntsAt b xs ∧ xs.length ≤ 3072 ∧ (Jvm.Cond.and given_1 narrow_1).before args s = true
def lw_Q (_ : Array Value) (s : State) (o : Outcome) (t : State) : Prop := o = .returned (some (.int 1)) ∧ Framed s o t [] 601024 7293034
def lw_Z (below : List Frame) (a : Array Value) (s : State) : State → Prop := fun t => ∃ o, t.status = .running ∧ Ended t below o ∧ lw_Q a s o t
theorem lw_ret {p : Program} {l : Launch} {e : Env} {s : State} {m : MethodId} {below : List Frame} {meth : Method} {c : Code} {b : Nat} (hx : p.tables.exec = Jvm.exec) (hb : c.code = code) (hr : meth.sig.returnType = ret) (hlocks : meth.locks = false) {pc : Nat} {H : Heap} {ls : Array Slot} (hdg : decode code pc = .ok (.ireturn, 1)) : W p l e room_1 s m #[Value.ref b] below meth c H [] 601024 7293034 (lw_Z below #[Value.ref b] s) (F0 m pc ls [.int 1]) := by
  intro T hT X
  obtain ⟨fs, hret, hrun, hended, hW, hframe⟩ := X.leave (v := some (.int 1)) (hlocks := hlocks) (fun h => by rw [hr] at h; cases h)
  have hmeth' : T.vm.method? m = some meth := X.method'
  refine ⟨T.setFrames fs, ?_, .returned (some (.int 1)), hrun, hended, rfl, ⟨_, rfl⟩, hW, hframe⟩
  jvm_step X.here [X.here.top, hx, hb, hdg, hmeth', hr, ret, narrow_b1]
  (try refine ⟨rfl, ?_⟩); (try refine ⟨rfl, ?_⟩)
  first | (intro acts; rw [hret _ acts rfl rfl rfl]) | rw [hret _ _ rfl rfl rfl]
  exact Steps.refl _
def lw_At (p : Program) (s : State) (m : MethodId) (meth : Method) (c : Code) (b L : Nat) (xs : Nat → Int32) : Prop :=
  p.tables.exec = Jvm.exec ∧ c.code = code ∧ meth.sig.returnType = ret ∧ c.maxLocals = 8 ∧ s.vm.findClass R_law = some m.cls ∧ (∀ w ∈ lw_tbl, w.before #[Value.ref b] s = true) ∧ va_X b L xs s s.heap ∧ b < s.heap.size ∧ meth.locks = false ∧ (Jvm.Cond.and given_1 narrow_1).before #[Value.ref b] s = true
theorem INV_0 (w : (Nat → Nat) × ((H4 × Nat) × LPP)) {ro0 K0 s20 s50 rn0 : Nat → Int64} {T0 : Nat → Int32} (h1 : ∀ i, i < 16 → ro0 i = rtT i) (h2 : ∀ t, t < 80 → K0 t = s_l 8 t) (h3 : ∀ i, i < 8 → s20 i = s_l 6 i) (h4 : ∀ i, i < 8 → s50 i = s_l 7 i) (h5 : ∀ j, j < 25 → T0 j = s_i 10 j) (h6 : ∀ i, i < 24 → rn0 i = s_l 9 i) : INV ((fun _ => 0, fun _ _ => 0, 0, fun _ => 0, (fun _ => 0, fun _ => 0, fun _ => 0), (fun _ => 0, 0, fun _ => 0, fun _ => 0), 0, 0, fun _ => 0, (fun _ => 0, 0, fun _ => 0, fun _ => 0), 0, 0, fun _ => 0, fun _ => 0, fun _ => 0, fun _ => 0, fun _ => 0) : CS) ((0, 0, 3, rtN 3, w.2.1.1.2.1, w.2.1.2, fun _ => 0, fun _ => 0, fun _ _ => 0, ro0, K0, s20, s50, w.2.2.2, w.2.2.1, T0, rn0, w.2.1.1.2.2.1, fun _ => 0, fun _ => 0, w.2.1.1.2.2.2, w.2.1.1.1, fun _ => 0, fun _ => 0) : RS) :=
  INV_mk rfl (Nat.zero_le _) (fun i _ => ⟨rfl, Nat.zero_le _, fun j hj => absurd hj (Nat.not_lt_zero j)⟩) (fun j hj => absurd hj (Nat.not_lt_zero j)) ⟨h1, h2, h3, h4, h5, h6⟩
set_option maxRecDepth 100000 in
theorem law_start {B : Bx} {M : Mx} {Q : State → Prop} (X : CX B M code 8 "SpongeDigestsLaw") (hR : m_R M = room_1) (hst : (m_l M).stackTraces = false) {b L : Nat} {xs : Nat → Int32} (hs : SCR M b L xs) (hL : L ≤ 3072)
    (kret : ∀ (n3 n4 : Nat) (w : va_W) (lv : List (Nat × Value)), n3 ≤ (m_R M).cells → n4 ≤ (m_R M).slots → G B M 8 n3 n4 Q w lv 753 [.int (nI 1)]) : G B M 8 0 0 Q [] [(0, .ref b)] 0 [] := by
  refine g_newo (pc := 0) X in_D ty_D ok_D wd_23 wd_24 wd_1 (ci := 3) rfl (fs := [.null, .null, .null, .null, .null, .null, .null, .null, .null]) (fun j hj => by rcases (show j = 0 ∨ j = 1 ∨ j = 2 ∨ j = 3 ∨ j = 4 ∨ j = 5 ∨ j = 6 ∨ j = 7 ∨ j = 8 from by omega) with h | h | h | h | h | h | h | h | h <;> subst h <;> rfl) (by rw [hR]; decide) (by rw [hR]; decide) d_law_0 (fun da => ?_)
  refine g_wsq [co da 3 [.null, .null, .null, .null, .null, .null, .null, .null, .null]] rfl ?_
  refine g_dup (pc := 3) X d_law_3 rfl ?_
  refine g_callIvA (pc := 4) (As := []) X (fun (u : Nat → Nat) => [cr B (u 0) 8 (fun z9 => some (u (21 + 2 * z9))), co (u 21) 1 [.ref (u 22), .int 0], cb B (u 22) 8192 (fun _ => (0 : Int8)), co (u 23) 1 [.ref (u 24), .int 0], cb B (u 24) 8192 (fun _ => (0 : Int8)), co (u 25) 1 [.ref (u 26), .int 0], cb B (u 26) 8192 (fun _ => (0 : Int8)), co (u 27) 1 [.ref (u 28), .int 0], cb B (u 28) 8192 (fun _ => (0 : Int8)), co (u 29) 1 [.ref (u 30), .int 0], cb B (u 30) 8192 (fun _ => (0 : Int8)), co (u 31) 1 [.ref (u 32), .int 0], cb B (u 32) 8192 (fun _ => (0 : Int8)), co (u 33) 1 [.ref (u 34), .int 0], cb B (u 34) 8192 (fun _ => (0 : Int8)), co (u 35) 1 [.ref (u 36), .int 0], cb B (u 36) 8192 (fun _ => (0 : Int8)), co (u 1) 1 [.ref (u 2), .int 0], cb B (u 2) 8192 (fun _ => (0 : Int8)), co (u 3) 2 [.ref (u 4), .ref (u 5), .ref (u 6)], cj B (u 4) 25 (fun _ => (0 : Int64)), cj B (u 5) 25 (fun _ => (0 : Int64)), cj B (u 6) 5 (fun _ => (0 : Int64)), co (u 7) 0 [.int (nI 4), .int (nI 32), .int (nI 64), .ref (b_t B 0), .long (mk9 false), .int (nI 64), .int (nI 32), .ref (u 8), .ref (u 9), .ref (u 10), .ref (u 11), .int 0, .long 0, .long 0], cb B (u 8) 64 (fun _ => (0 : Int8)), cj B (u 9) 8 (fun _ => (0 : Int64)), cj B (u 10) 64 (fun _ => (0 : Int64)), cj B (u 11) 8 (fun _ => (0 : Int64)), co (u 12) 0 [.int (nI 8), .int (nI 64), .int (nI 80), .ref (b_t B 1), .long (mk9 true), .int (nI 128), .int (nI 64), .ref (u 13), .ref (u 14), .ref (u 15), .ref (u 16), .int 0, .long 0, .long 0], cb B (u 13) 128 (fun _ => (0 : Int8)), cj B (u 14) 8 (fun _ => (0 : Int64)), cj B (u 15) 80 (fun _ => (0 : Int64)), cj B (u 16) 8 (fun _ => (0 : Int64)), cb B (u 17) 128 (fun _ => (0 : Int8)), cb B (u 18) 128 (fun _ => (0 : Int8)), cb B (u 19) 64 (fun _ => (0 : Int8)), cb B (u 20) 4 (fun _ => (0 : Int8))]) (c_D_init (m_l M) B da) wd_25 wd_26 rfl wd_1 wd_27 hd_D_init [0] rfl rfl [da] (fun _ => rfl) rfl (by rw [hR]; decide) (by rw [hR]; decide) rfl (Nat.le_of_ble_eq_true rfl) d_law_4 (fun q _ => ?_)
  refine g_wsq [co da 3 [.ref (q 0), .ref (q 1), .ref (q 3), .ref (q 7), .ref (q 12), .ref (q 17), .ref (q 18), .ref (q 19), .ref (q 20)], cr B (q 0) 8 (fun z9 => some (q (21 + 2 * z9))), co (q 21) 1 [.ref (q 22), .int 0], cb B (q 22) 8192 (fun _ => (0 : Int8)), co (q 23) 1 [.ref (q 24), .int 0], cb B (q 24) 8192 (fun _ => (0 : Int8)), co (q 25) 1 [.ref (q 26), .int 0], cb B (q 26) 8192 (fun _ => (0 : Int8)), co (q 27) 1 [.ref (q 28), .int 0], cb B (q 28) 8192 (fun _ => (0 : Int8)), co (q 29) 1 [.ref (q 30), .int 0], cb B (q 30) 8192 (fun _ => (0 : Int8)), co (q 31) 1 [.ref (q 32), .int 0], cb B (q 32) 8192 (fun _ => (0 : Int8)), co (q 33) 1 [.ref (q 34), .int 0], cb B (q 34) 8192 (fun _ => (0 : Int8)), co (q 35) 1 [.ref (q 36), .int 0], cb B (q 36) 8192 (fun _ => (0 : Int8)), co (q 1) 1 [.ref (q 2), .int 0], cb B (q 2) 8192 (fun _ => (0 : Int8)), co (q 3) 2 [.ref (q 4), .ref (q 5), .ref (q 6)], cj B (q 4) 25 (fun _ => (0 : Int64)), cj B (q 5) 25 (fun _ => (0 : Int64)), cj B (q 6) 5 (fun _ => (0 : Int64)), co (q 7) 0 [.int (nI 4), .int (nI 32), .int (nI 64), .ref (b_t B 0), .long (mk9 false), .int (nI 64), .int (nI 32), .ref (q 8), .ref (q 9), .ref (q 10), .ref (q 11), .int 0, .long 0, .long 0], cb B (q 8) 64 (fun _ => (0 : Int8)), cj B (q 9) 8 (fun _ => (0 : Int64)), cj B (q 10) 64 (fun _ => (0 : Int64)), cj B (q 11) 8 (fun _ => (0 : Int64)), co (q 12) 0 [.int (nI 8), .int (nI 64), .int (nI 80), .ref (b_t B 1), .long (mk9 true), .int (nI 128), .int (nI 64), .ref (q 13), .ref (q 14), .ref (q 15), .ref (q 16), .int 0, .long 0, .long 0], cb B (q 13) 128 (fun _ => (0 : Int8)), cj B (q 14) 8 (fun _ => (0 : Int64)), cj B (q 15) 80 (fun _ => (0 : Int64)), cj B (q 16) 8 (fun _ => (0 : Int64)), cb B (q 17) 128 (fun _ => (0 : Int8)), cb B (q 18) 128 (fun _ => (0 : Int8)), cb B (q 19) 64 (fun _ => (0 : Int8)), cb B (q 20) 4 (fun _ => (0 : Int8))] rfl ?_
  refine g_astore_n (pc := 7) X (i := 1) d_law_7 rfl (by decide) ?_
  refine g_lv [(0, .ref b), (1, .ref da)] rfl ?_
  refine g_newo (pc := 8) X in_O ty_O ok_O wd_736 wd_737 wd_5 (ci := 4) rfl (fs := [.null, .null, .null, .int 0, .int 0, .null, .null, .null, .null, .null, .null, .null, .null, .null, .null, .null, .null, .null, .int 0, .int 0, .int 0, .long 0, .null, .null]) (fun j hj => by rcases (show j = 0 ∨ j = 1 ∨ j = 2 ∨ j = 3 ∨ j = 4 ∨ j = 5 ∨ j = 6 ∨ j = 7 ∨ j = 8 ∨ j = 9 ∨ j = 10 ∨ j = 11 ∨ j = 12 ∨ j = 13 ∨ j = 14 ∨ j = 15 ∨ j = 16 ∨ j = 17 ∨ j = 18 ∨ j = 19 ∨ j = 20 ∨ j = 21 ∨ j = 22 ∨ j = 23 from by omega) with h | h | h | h | h | h | h | h | h | h | h | h | h | h | h | h | h | h | h | h | h | h | h | h <;> subst h <;> rfl) (by rw [hR]; decide) (by rw [hR]; decide) d_law_8 (fun a => ?_)
  refine g_wsq [co da 3 [.ref (q 0), .ref (q 1), .ref (q 3), .ref (q 7), .ref (q 12), .ref (q 17), .ref (q 18), .ref (q 19), .ref (q 20)], cr B (q 0) 8 (fun z9 => some (q (21 + 2 * z9))), co (q 21) 1 [.ref (q 22), .int 0], cb B (q 22) 8192 (fun _ => (0 : Int8)), co (q 23) 1 [.ref (q 24), .int 0], cb B (q 24) 8192 (fun _ => (0 : Int8)), co (q 25) 1 [.ref (q 26), .int 0], cb B (q 26) 8192 (fun _ => (0 : Int8)), co (q 27) 1 [.ref (q 28), .int 0], cb B (q 28) 8192 (fun _ => (0 : Int8)), co (q 29) 1 [.ref (q 30), .int 0], cb B (q 30) 8192 (fun _ => (0 : Int8)), co (q 31) 1 [.ref (q 32), .int 0], cb B (q 32) 8192 (fun _ => (0 : Int8)), co (q 33) 1 [.ref (q 34), .int 0], cb B (q 34) 8192 (fun _ => (0 : Int8)), co (q 35) 1 [.ref (q 36), .int 0], cb B (q 36) 8192 (fun _ => (0 : Int8)), co (q 1) 1 [.ref (q 2), .int 0], cb B (q 2) 8192 (fun _ => (0 : Int8)), co (q 3) 2 [.ref (q 4), .ref (q 5), .ref (q 6)], cj B (q 4) 25 (fun _ => (0 : Int64)), cj B (q 5) 25 (fun _ => (0 : Int64)), cj B (q 6) 5 (fun _ => (0 : Int64)), co (q 7) 0 [.int (nI 4), .int (nI 32), .int (nI 64), .ref (b_t B 0), .long (mk9 false), .int (nI 64), .int (nI 32), .ref (q 8), .ref (q 9), .ref (q 10), .ref (q 11), .int 0, .long 0, .long 0], cb B (q 8) 64 (fun _ => (0 : Int8)), cj B (q 9) 8 (fun _ => (0 : Int64)), cj B (q 10) 64 (fun _ => (0 : Int64)), cj B (q 11) 8 (fun _ => (0 : Int64)), co (q 12) 0 [.int (nI 8), .int (nI 64), .int (nI 80), .ref (b_t B 1), .long (mk9 true), .int (nI 128), .int (nI 64), .ref (q 13), .ref (q 14), .ref (q 15), .ref (q 16), .int 0, .long 0, .long 0], cb B (q 13) 128 (fun _ => (0 : Int8)), cj B (q 14) 8 (fun _ => (0 : Int64)), cj B (q 15) 80 (fun _ => (0 : Int64)), cj B (q 16) 8 (fun _ => (0 : Int64)), cb B (q 17) 128 (fun _ => (0 : Int8)), cb B (q 18) 128 (fun _ => (0 : Int8)), cb B (q 19) 64 (fun _ => (0 : Int8)), cb B (q 20) 4 (fun _ => (0 : Int8)), co a 4 [.null, .null, .null, .int 0, .int 0, .null, .null, .null, .null, .null, .null, .null, .null, .null, .null, .null, .null, .null, .int 0, .int 0, .int 0, .long 0, .null, .null]] rfl ?_
  refine g_dup (pc := 11) X d_law_11 rfl ?_
  refine g_callIvA (pc := 12) (As := []) X (fun (u : (Nat → Nat) × ((H4 × Nat) × LPP)) => [cb B (u.1 0) 8192 (fun _ => (0 : Int8)), cq B (u.1 1) 8 (fun z9 => some (u.1 (20 + z9))), cb B (u.1 (20 + 0)) 8192 (fun _ => (0 : Int8)), cb B (u.1 (20 + 1)) 8192 (fun _ => (0 : Int8)), cb B (u.1 (20 + 2)) 8192 (fun _ => (0 : Int8)), cb B (u.1 (20 + 3)) 8192 (fun _ => (0 : Int8)), cb B (u.1 (20 + 4)) 8192 (fun _ => (0 : Int8)), cb B (u.1 (20 + 5)) 8192 (fun _ => (0 : Int8)), cb B (u.1 (20 + 6)) 8192 (fun _ => (0 : Int8)), cb B (u.1 (20 + 7)) 8192 (fun _ => (0 : Int8)), cn B (u.1 2) 8 (fun _ => (0 : Int32)), cj B (u.1 3) 16 (va_cpy rtT (fun _ => (0 : Int64)) 0 0 16), cj B (u.1 4) 80 (va_cpy (s_l 8) (fun _ => (0 : Int64)) 0 0 80), cj B (u.1 5) 8 (va_cpy (s_l 6) (fun _ => (0 : Int64)) 0 0 8), cj B (u.1 6) 8 (va_cpy (s_l 7) (fun _ => (0 : Int64)) 0 0 8), cj B (u.1 7) 16 u.2.2.2, cj B (u.1 8) 16 u.2.2.1, cn B (u.1 9) 25 (it tuF 24 (fun _ => (0 : Int32))), cj B (u.1 10) 24 (it rdF 24 (fun _ => (0 : Int64))), cj B (u.1 11) 25 u.2.1.1.2.2.1, cj B (u.1 12) 25 (fun _ => (0 : Int64)), cj B (u.1 13) 5 (fun _ => (0 : Int64)), cj B (u.1 14) 80 u.2.1.1.2.2.2, cb B (u.1 15) 128 u.2.1.1.1, cb B (u.1 16) 128 (fun _ => (0 : Int8)), cb B (u.1 17) 64 (fun _ => (0 : Int8))]) (c_O_init (m_l M) B a) wd_738 wd_739 rfl wd_5 wd_740 hd_O_init [38] rfl rfl [a] (fun _ => rfl) rfl (by rw [hR]; decide) (by rw [hR]; decide) rfl (Nat.le_of_ble_eq_true rfl) d_law_12 (fun w _ => ?_)
  refine g_wsq [co da 3 [.ref (q 0), .ref (q 1), .ref (q 3), .ref (q 7), .ref (q 12), .ref (q 17), .ref (q 18), .ref (q 19), .ref (q 20)], cr B (q 0) 8 (fun z9 => some (q (21 + 2 * z9))), co (q 21) 1 [.ref (q 22), .int 0], cb B (q 22) 8192 (fun _ => (0 : Int8)), co (q 23) 1 [.ref (q 24), .int 0], cb B (q 24) 8192 (fun _ => (0 : Int8)), co (q 25) 1 [.ref (q 26), .int 0], cb B (q 26) 8192 (fun _ => (0 : Int8)), co (q 27) 1 [.ref (q 28), .int 0], cb B (q 28) 8192 (fun _ => (0 : Int8)), co (q 29) 1 [.ref (q 30), .int 0], cb B (q 30) 8192 (fun _ => (0 : Int8)), co (q 31) 1 [.ref (q 32), .int 0], cb B (q 32) 8192 (fun _ => (0 : Int8)), co (q 33) 1 [.ref (q 34), .int 0], cb B (q 34) 8192 (fun _ => (0 : Int8)), co (q 35) 1 [.ref (q 36), .int 0], cb B (q 36) 8192 (fun _ => (0 : Int8)), co (q 1) 1 [.ref (q 2), .int 0], cb B (q 2) 8192 (fun _ => (0 : Int8)), co (q 3) 2 [.ref (q 4), .ref (q 5), .ref (q 6)], cj B (q 4) 25 (fun _ => (0 : Int64)), cj B (q 5) 25 (fun _ => (0 : Int64)), cj B (q 6) 5 (fun _ => (0 : Int64)), co (q 7) 0 [.int (nI 4), .int (nI 32), .int (nI 64), .ref (b_t B 0), .long (mk9 false), .int (nI 64), .int (nI 32), .ref (q 8), .ref (q 9), .ref (q 10), .ref (q 11), .int 0, .long 0, .long 0], cb B (q 8) 64 (fun _ => (0 : Int8)), cj B (q 9) 8 (fun _ => (0 : Int64)), cj B (q 10) 64 (fun _ => (0 : Int64)), cj B (q 11) 8 (fun _ => (0 : Int64)), co (q 12) 0 [.int (nI 8), .int (nI 64), .int (nI 80), .ref (b_t B 1), .long (mk9 true), .int (nI 128), .int (nI 64), .ref (q 13), .ref (q 14), .ref (q 15), .ref (q 16), .int 0, .long 0, .long 0], cb B (q 13) 128 (fun _ => (0 : Int8)), cj B (q 14) 8 (fun _ => (0 : Int64)), cj B (q 15) 80 (fun _ => (0 : Int64)), cj B (q 16) 8 (fun _ => (0 : Int64)), cb B (q 17) 128 (fun _ => (0 : Int8)), cb B (q 18) 128 (fun _ => (0 : Int8)), cb B (q 19) 64 (fun _ => (0 : Int8)), cb B (q 20) 4 (fun _ => (0 : Int8)), co a 4 [.ref (w.1 0), .ref (w.1 1), .ref (w.1 2), .int (nI 0), .int 0, .ref (w.1 3), .ref (w.1 4), .ref (w.1 5), .ref (w.1 6), .ref (w.1 7), .ref (w.1 8), .ref (w.1 9), .ref (w.1 10), .ref (w.1 11), .ref (w.1 12), .ref (w.1 13), .ref (w.1 14), .ref (w.1 15), .int (nI 3), .int (nI (rtN 3)), .int (nI w.2.1.1.2.1), .long (lN w.2.1.2), .ref (w.1 16), .ref (w.1 17)], cb B (w.1 0) 8192 (fun _ => (0 : Int8)), cq B (w.1 1) 8 (fun z9 => some (w.1 (20 + z9))), cb B (w.1 (20 + 0)) 8192 (fun _ => (0 : Int8)), cb B (w.1 (20 + 1)) 8192 (fun _ => (0 : Int8)), cb B (w.1 (20 + 2)) 8192 (fun _ => (0 : Int8)), cb B (w.1 (20 + 3)) 8192 (fun _ => (0 : Int8)), cb B (w.1 (20 + 4)) 8192 (fun _ => (0 : Int8)), cb B (w.1 (20 + 5)) 8192 (fun _ => (0 : Int8)), cb B (w.1 (20 + 6)) 8192 (fun _ => (0 : Int8)), cb B (w.1 (20 + 7)) 8192 (fun _ => (0 : Int8)), cn B (w.1 2) 8 (fun _ => (0 : Int32)), cj B (w.1 3) 16 (va_cpy rtT (fun _ => (0 : Int64)) 0 0 16), cj B (w.1 4) 80 (va_cpy (s_l 8) (fun _ => (0 : Int64)) 0 0 80), cj B (w.1 5) 8 (va_cpy (s_l 6) (fun _ => (0 : Int64)) 0 0 8), cj B (w.1 6) 8 (va_cpy (s_l 7) (fun _ => (0 : Int64)) 0 0 8), cj B (w.1 7) 16 w.2.2.2, cj B (w.1 8) 16 w.2.2.1, cn B (w.1 9) 25 (it tuF 24 (fun _ => (0 : Int32))), cj B (w.1 10) 24 (it rdF 24 (fun _ => (0 : Int64))), cj B (w.1 11) 25 w.2.1.1.2.2.1, cj B (w.1 12) 25 (fun _ => (0 : Int64)), cj B (w.1 13) 5 (fun _ => (0 : Int64)), cj B (w.1 14) 80 w.2.1.1.2.2.2, cb B (w.1 15) 128 w.2.1.1.1, cb B (w.1 16) 128 (fun _ => (0 : Int8)), cb B (w.1 17) 64 (fun _ => (0 : Int8))] rfl ?_
  refine g_astore_n (pc := 15) X (i := 2) d_law_15 rfl (by decide) ?_
  refine g_lv [(0, .ref b), (1, .ref da), (2, .ref a)] rfl ?_
  refine g_iconst (pc := 16) X (v := nI 1) d_law_16 (by decide) ?_
  refine g_newj (pc := 17) X wd_64 (n := 1) (by decide) (by decide) (by rw [hR]; decide) (by rw [hR]; decide) d_law_17 (fun oa => ?_)
  refine g_astore_n (pc := 19) X (i := 3) d_law_19 rfl (by decide) ?_
  refine g_iconst (pc := 20) X (v := nI 0) d_law_20 (by decide) ?_
  refine g_istore (pc := 21) X d_law_21 (by decide) ?_
  refine g_lv [(0, .ref b), (1, .ref da), (2, .ref a), (3, .ref oa), (4, .int (nI (6 * 0)))] rfl ?_
  have g1 : ∀ i, i < 16 → va_cpy rtT (fun _ => (0 : Int64)) 0 0 16 i = rtT i := cpy_at rtT _ 16
  have g2 : ∀ t, t < 80 → va_cpy (s_l 8) (fun _ => (0 : Int64)) 0 0 80 t = s_l 8 t := cpy_at (s_l 8) _ 80
  have g3 : ∀ i, i < 8 → va_cpy (s_l 6) (fun _ => (0 : Int64)) 0 0 8 i = s_l 6 i := cpy_at (s_l 6) _ 8
  have g4 : ∀ i, i < 8 → va_cpy (s_l 7) (fun _ => (0 : Int64)) 0 0 8 i = s_l 7 i := cpy_at (s_l 7) _ 8
  have g5 : ∀ j, j < 25 → it tuF 24 (fun _ => (0 : Int32)) j = s_i 10 j := tu_ok
  have g6 : ∀ i, i < 24 → it rdF 24 (fun _ => (0 : Int64)) i = s_l 9 i := rd_ok
  generalize va_cpy rtT (fun _ => (0 : Int64)) 0 0 16 = ro0 at g1 ⊢
  generalize va_cpy (s_l 8) (fun _ => (0 : Int64)) 0 0 80 = K0 at g2 ⊢
  generalize va_cpy (s_l 6) (fun _ => (0 : Int64)) 0 0 8 = s20 at g3 ⊢
  generalize va_cpy (s_l 7) (fun _ => (0 : Int64)) 0 0 8 = s50 at g4 ⊢
  generalize it tuF 24 (fun _ => (0 : Int32)) = T0 at g5 ⊢
  generalize it rdF 24 (fun _ => (0 : Int64)) = rn0 at g6 ⊢
  refine g_ws (LW B da a oa q w.1 ((fun _ => 0, fun _ _ => 0, 0, fun _ => 0, (fun _ => 0, fun _ => 0, fun _ => 0), (fun _ => 0, 0, fun _ => 0, fun _ => 0), 0, 0, fun _ => 0, (fun _ => 0, 0, fun _ => 0, fun _ => 0), 0, 0, fun _ => 0, fun _ => 0, fun _ => 0, fun _ => 0, fun _ => 0) : CS) ((0, 0, 3, rtN 3, w.2.1.1.2.1, w.2.1.2, fun _ => 0, fun _ => 0, fun _ _ => 0, ro0, K0, s20, s50, w.2.2.2, w.2.2.1, T0, rn0, w.2.1.1.2.2.1, fun _ => 0, fun _ => 0, w.2.1.1.2.2.2, w.2.1.1.1, fun _ => 0, fun _ => 0) : RS) (fun _ => (0 : Int64))) [0, 1, 18, 19, 20, 21, 22, 23, 24, 25, 26, 27, 28, 29, 30, 31, 32, 33, 34, 35, 36, 37, 2, 3, 4, 5, 6, 7, 8, 9, 10, 11, 12, 13, 14, 15, 16, 17, 38, 39, 40, 49, 50, 51, 52, 53, 54, 55, 56, 57, 58, 59, 60, 61, 62, 63, 64, 41, 42, 43, 44, 45, 46, 47, 48, 65] (by decide) rfl ?_
  exact law_loop X hR hst hs hL (n1 := 66) (n2 := 148958) (by rw [hR]; decide) (by rw [hR]; decide) kret _ _ _ (INV_0 w g1 g2 g3 g4 g5 g6)
theorem whole_start {p : Program} {e : Env} {s : State} {m : MethodId} {below : List Frame} {meth : Method} {c : Code} (l : Launch) (hst : l.stackTraces = false) {b L : Nat} {xs : Nat → Int32} (hL : L ≤ 3072) (C0 : lw_At p s m meth c b L xs) : W p l e room_1 s m #[Value.ref b] below meth c s.heap [] 0 0 (lw_Z below #[Value.ref b] s) (entryFrame m ([Value.ref b] : List Value).toArray 8) := by
  obtain ⟨hx, hb, hr, hml, hown, hts, hX, hbl, hlocks, hgv⟩ := id C0
  obtain ⟨B, hz, hK, hKX⟩ := st_B hts hgv
  have htW : ∀ w ∈ W0, w.before #[Value.ref b] s = true := fun w hw => hts w (List.mem_filter.mp hw).1
  have XX : CX B (p, l, e, room_1, s, m, #[Value.ref b], below, meth, c, fun q : Nat => s.heap.size ≤ q) code 8 "SpongeDigestsLaw" := ⟨hx, hb, hml, hown, htW, hK, fun _ h => h, fun q h => by rw [hz]; exact h, hKX⟩
  have hl := lv_entry ([.ref b]) (n := 8) (Nat.le_of_ble_eq_true rfl)
  rw [lg_entry_eq]
  refine law_start (Q := lw_Z below #[Value.ref b] s) XX rfl hst ⟨hX, hbl, Nat.not_le.mpr hbl⟩ hL ?_ s.heap [] _ (fun k q h => by simp at h) ⟨fun i j p q h => by simp at h, fun k q h => by simp at h⟩ va_S.rf hl
  intro n3 n4 w lv h3 h4 H locs ls hP hD hS hl2
  exact va_forget (fun q hq => hS.2.2 q hq) (W.widen h3 h4 (lw_ret hx hb hr hlocks d_law_753))
set_option maxHeartbeats 4000000 in
theorem lw_walk (l : Launch) (hst : l.stackTraces = false) (b : Addr) (xs : List Int32) : MetFree l x (headSpec (Jvm.Cond.code x code maxLocals ret :: tables_1) room_1) (lw_P b xs) (fun _ _ _ _ _ => True) lw_Q := by
  refine MetFree.of_bodyS (code := code) (maxLocals := maxLocals) (ret := ret) (by decide) ?_ ?_
  · intro args s m h hn
    obtain ⟨meth, c, h1, h2, h3, h4, h5, h6, -, -⟩ := Cond.code_spec hn (atoms_spec (ws := Jvm.Cond.code x code maxLocals ret :: tables_1) h _ List.mem_cons_self)
    exact ⟨meth, c, h1, h2, h3, h4, h5, h6⟩
  · intro p e s m args below meth c s₁ B hml0 hP _
    obtain ⟨rfl, hx, hbd, hgv⟩ := hP
    obtain ⟨scr, harrAt, hlist, hof, hsmall⟩ := hx
    obtain ⟨hcb, hkn, -, -⟩ := State.arrayAt?_spec harrAt
    have hown : s.vm.findClass R_law = some m.cls := findClass_of_methodNamed B.named
    have hts0 : ∀ c ∈ (Jvm.Cond.code x code maxLocals ret :: tables_1), c.before #[Value.ref b] s = true := atoms_spec (ws := Jvm.Cond.code x code maxLocals ret :: tables_1) B.pre
    have hts : ∀ w ∈ lw_tbl, w.before #[Value.ref b] s = true := k2_hts_sels lw_privs (fun w hw => hts0 w (List.mem_cons_of_mem _ hw)) lw_privs_ok
    have hml : c.maxLocals = 8 := B.maxLocals_eq (hts0 _ List.mem_cons_self)
    have X₀ : Stand p l e room_1 s m #[Value.ref b] below meth c s₁ [] 0 0 := Stand.of_body B
    have hh0 : s₁.heap = s.heap := by rw [B.state]; rfl
    have hsz : scr.slots.size = xs.length := by rw [← Array.length_toList, hlist, List.length_map]
    have hval : ∀ j : Nat, j < xs.length → scr.slots[j]? = some (.int (xs.getD j 0)) := fun j hj => by
      rw [← Array.getElem?_toList, hlist]
      simp [hj]
    have hbl : b < s.heap.size := (Array.getElem?_eq_some_iff.mp hcb).1
    have hX : va_X b xs.length (fun j => xs.getD j 0) s s.heap := ⟨scr, hcb, hof, hkn, hsz, hval⟩
    have K : W p l e room_1 s m #[Value.ref b] below meth c s₁.heap [] 0 0 (lw_Z below #[Value.ref b] s) (entryFrame m ([Value.ref b] : List Value).toArray 8) := by
      rw [hh0]
      exact whole_start l hst hbd ⟨B.exec, B.bytes, B.returns, hml, hown, hts, hX, hbl, B.notSynchronized, hgv⟩
    obtain ⟨t, a1, o, b1, b2, b3⟩ := K s₁ rfl X₀
    exact ⟨t, o, a1, b1, b2, b3⟩
theorem lw_pre_spec {args : Array Value} {s : State} (h : (Jvm.Cond.and given_1 narrow_1).before args s = true) (hr : rest_1_c.before args s = true) : ∃ (b : Addr) (xs : List Int32), lw_P b xs args s := by
  have hs := flat_of_before _ h
  have hq := flat_of_before _ hr
  have hc : (Cond.count 1).before args s = true := hs _ (by decide +kernel)
  have harr : (Cond.arrayOf (.arg 0) .int).before args s = true := hs _ (by decide +kernel)
  have hle : (Cond.le (.length (.arg 0)) (.int 3072)).before args s = true := hs _ (by decide +kernel)
  have hlen : (Cond.isInt (.length (.arg 0))).before args s = true := hq _ (by decide +kernel)
  have hall : (Cond.all (.arg 0) (.isInt (.elem (.arg 0) (.index 0)))).before args s = true := hq _ (by decide +kernel)
  obtain ⟨b, xs, hb, hx⟩ := State.ints_of_pre rfl harr hlen hall
  have hsm : xs.length < 2 ^ 31 := hx.choose_spec.2.2.2
  have hev : (Term.length (.arg 0)).eval args s none [] s = some (.int xs.length.toInt32) := hx.length_eval hb
  have hv := Cond.le_ints hev (show (Term.int 3072).eval args s none [] s = some (.int 3072) from rfl)
  have hd : xs.length.toInt32 ≤ 3072 := by
    simpa [Cond.before, Cond.holds, hv] using hle
  have hN : xs.length ≤ 3072 := (Int32.ofNat_le_ofNat hsm (by decide)).mp (show Int32.ofNat xs.length ≤ Int32.ofNat 3072 from hd)
  exact ⟨b, xs, Cond.one_arg hc (show args[0]? = some (.ref b) from hb), hx, hN, h⟩
theorem lw_comes (l : Launch) (hst : l.stackTraces = false) : Comes l x (Jvm.Cond.code x code maxLocals ret :: tables_1) room_1 (fun tb e args s => Calls_1 tb e args s ∧ rest_1 tb e args s ∧ Pre_1 tb e args s)
    (fun _ _ args s o t => lw_Q args s o t) := by
  intro p e ha hc hk s m args below hf hfit hheap happ hpre
  obtain ⟨b, xs, hP⟩ := lw_pre_spec hpre.2.2 hpre.2.1
  obtain ⟨k, o, h1, h2, h3, hQ⟩ := lw_walk l hst b xs p e ha hc hk s m args below hf ((Spec.applies_iff_loose hf).mp happ).1 hP trivial
  exact ⟨k, o, h1, h2, h3, hQ⟩
theorem lw_frame {s t : State} {o : Outcome} {args : Array Value} (h : Framed s o t [] 601024 7293034) :
    Framed s o t (fieldLocs frame_1_writes args s ++ arrayLocs frame_1_arrays args s ++ staticLocs frame_1_statics s) 601024 7293034 := h
theorem lw_limb (L : Cond) (hL : ∀ (args : Array Value) (s t : State), L.after args s (.returned (some (.int 1))) t = true) :
    ArmFor flags0 classFile x code maxLocals ret World_1 tables_1 room_1 Calls_1 rest_1 Pre_1
      (fun tb e a s o t => postC L tb e a s o t ∧ Framed s o t (fieldLocs frame_1_writes a s ++ arrayLocs frame_1_arrays a s ++ staticLocs frame_1_statics s) 601024 7293034) := by
  intro l hfl _ _ p e ha hc hk s m args below hf hfit hheap happ hpre
  obtain ⟨k, o, h1, h2, h3, rfl, hF⟩ := lw_comes l (by unfold Launch.stackTraces; rw [hfl]; decide) p e ha hc hk s m args below hf hfit hheap happ hpre
  exact ⟨k, _, h1, h2, h3, hL args s _, lw_frame hF⟩
theorem i_vc : Claimed_1_1 ∧ Claimed_1_2 := ⟨lw_limb limb_1_1 (fun args s t => by simp [limb_1_1, Cond.after, Cond.holds, Cond.value]), lw_limb limb_1_2 (fun args s t => Cond.after_iff.mpr (by
  first | (rw [show limb_1_2 = Cond.eq .result (.int 1) from rfl, Cond.eq_ints (x := 1) (y := 1) rfl rfl]; simp; done) | (simp [limb_1_2, Cond.value, Term.eval]; done)))⟩

