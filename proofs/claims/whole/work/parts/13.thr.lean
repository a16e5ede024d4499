section GX9
variable {B : Bx} {M : Mx} {cc : ByteArray} {nL n1 n2 : Nat} {own : String} {Q : State → Prop} {ws : va_W} {lv : List (Nat × Value)} {pc : Nat} {st rest : List Value}
def GX (B : Bx) (M : Mx) (nL n1 n2 : Nat) (Q : State → Prop) (ws : va_W) (E : String) (lv : List (Nat × Value)) (pc : Nat) (rest : List Value) : Prop :=
  ∀ (H : Heap) (locs : List Loc) (ls : Array Slot) (q : Addr) (ce : Cell), va_P B.1 classes ws H → va_D (m_A M) ws → va_S (m_A M) (m_s M).heap H locs → lv_has ls nL lv → H[q]? = some ce → ce.vm = .none → (m_s M).vm.findClass E = some ce.cls →
    vx_W (m_p M) (m_l M) (m_e M) (m_R M) (m_s M) (m_m M) (m_a M) (m_b M) (m_h M) (m_c M) H locs n1 n2 Q (F0 (m_m M) pc ls rest) q
def Cx (l : Launch) (B : Bx) (y : MethodName) (b : ByteArray) (n : Nat) (ret : Option FieldType) (rm : Room) (av : List Value) (ws : va_W) (E : String) : Prop :=
  ∀ sz : Nat, vx_Met l y (Cond.code y b n ret :: W0) rm (va_Pc av (PreW B ws sz)) (va_Qv (S := Unit) (fun _ => False) (fun _ _ => True) (va_A ws sz)) (vx_X (S := Unit) (fun _ => True) (fun E' _ t => E' = E ∧ PostW B (va_A ws sz) ws t) (va_A ws sz)) rm.cells rm.slots (va_A ws sz)
abbrev nmX : List String := ["java/lang/RuntimeException", "java/lang/Exception"]
theorem ctr_x {l : Launch} {B : Bx} {y : MethodName} {b : ByteArray} {nL : Nat} {ret : Option FieldType} {rm : Room} {av : List Value} {ws : va_W} {E : String} (hst : l.stackTraces = false) (hy : plainName y.cls = true) (hav : (lg_sl av).length ≤ nL)
    (body : ∀ (M : Mx) (Q : State → Prop), m_l M = l → m_R M = rm → CX B M b nL y.cls → (∀ (n1 n2 : Nat) (lv : List (Nat × Value)) (pc : Nat) (rest : List Value), n1 ≤ rm.cells → n2 ≤ rm.slots → GX B M nL n1 n2 Q ws E lv pc rest) →
      (∀ (i ik ic pc n1 n2 : Nat) (lv : List (Nat × Value)) (rest : List Value), i < 4 → y.cls = "SpongeDigests" → Bundle.fit E = true → Cond.classLink y.cls ik E ∈ W0 → Cond.initialized E ∈ W0 → (∀ w ∈ (vx_atS "SpongeDigests" ic E nmX).filter goodWord, w ∈ W0) → (∀ w ∈ (vx_atS "SpongeDigests" ic E nmX).filter (fun w => !goodWord w), w ∈ exWords) → (∀ w ∈ Cond.classLink "SpongeDigests" ik E :: Cond.initialized E :: vx_atS "SpongeDigests" ic E nmX, vx_ot w = true) →
        decode b pc = .ok (.new ik, 3) → decode b (pc + 3) = .ok (.dup, 1) → decode b (pc + 4) = .ok (.ldc (st_k i), 2) → decode b (pc + 6) = .ok (.invokespecial ic, 3) → decode b (pc + 9) = .ok (.athrow, 1) →
        5 < rm.frames → (rest.map fun v => v.category).sum + 82 ≤ rm.locals → n1 + 1 ≤ rm.cells → n2 + 6 ≤ rm.slots → G B M nL n1 n2 Q ws lv pc rest) → G B M nL 0 0 Q ws (lv_args 0 av) 0 []) : Cx l B y b nL ret rm av ws E := by
  intro sz
  refine vx_ofW (cc := b) (maxL := nL) (ret := ret) hy rfl ?_
  intro p e s m args below meth c s₁ Bd hml hno hv
  obtain ⟨rfl, hsz, hX, hP, hK, hD0⟩ := hv
  subst hsz
  have hD := hD0.self (sz := s.heap.size)
  have hAz : ∀ q, va_A ws s.heap.size q → b_z B ≤ q := fun q h => by
    rcases h with ⟨k, e9, hk⟩ | h
    · exact hD0.2 k _ hk
    · exact Nat.le_trans hX.1 h
  have hts : ∀ w ∈ W0, w.before av.toArray s = true := fun w hw => atoms_spec (ws := Cond.code y b nL ret :: W0) Bd.pre w (List.mem_cons_of_mem _ hw)
  have hfc := findClass_of_methodNamed Bd.named
  rw [lg_entry_eq]
  refine body (p, l, e, rm, s, m, av.toArray, below, meth, c, va_A ws s.heap.size) _ rfl rfl ⟨Bd.exec, Bd.bytes, hml, hfc, hts, hK, fun q h => Or.inr h, hAz, hX⟩ ?_ ?_ s.heap [] _ hP hD va_S.rf (lv_entry av hav)
  · intro n1 n2 lv pc rest h1 h2 H locs ls q ce hP2 hD2 hS2 hl2 hq1 hq2 hq3
    exact vx_out (fun x hx => (hno x hx).elim) Bd.notSynchronized hq1 hq2 hq3 (fun t ht hal => ⟨(), trivial, ⟨rfl, by rw [ht]; exact hP2, va_K.moved hal hK, hD2⟩, hS2.F ht⟩) hS2.2.2 h1 h2
  · intro i ik ic pc n1 n2 lv rest hi hyc hfit hk hini hat1 hat2 hgood d0 d3 d4 d6 d9 hfr hlo hc1 hs1 H locs ls hP2 hD2 hS2 hl2
    rw [hyc] at hk hfc
    have hN : ∀ w ∈ vx_atS "SpongeDigests" ic E nmX, w.before av.toArray s = true := vx_hat (fun w hw => hts w (hat1 w hw)) hat2 (fun w hw => va_Nw.use (ex_on hw) (hX.2.2.2.2.2.2.1 w hw))
    refine vx_throwS (own := "SpongeDigests") (cls := E) (text := st_t i) (names := nmX) (sa := b_s B i) Bd.exec Bd.bytes hst hfc hfit (by decide) (hts _ hk) (hts _ hini) (hX.2.2.2.2.2.1 i hi) hN hgood (hX.2.2.2.1.narrow hAz) (hX.2.2.2.2.1.narrow hAz) hS2 (by rw [hml]; exact hl2.1) d0 d3 d4 d6 d9 (fun x hx => (hno x hx).elim) hfr hlo hc1 hs1 Bd.notSynchronized (fun t hal hz hq => ?_) hS2.2.2 hc1 hs1
    exact ⟨(), trivial, ⟨rfl, va_P.kept hP2 (fun k x hx => hq x.1 (hP2 k x hx).lt), va_K.moved hal hK, hD2⟩, Nat.le_trans hS2.1 hz, fun q9 h8 h9 => (hq q9 (Nat.lt_of_lt_of_le h8 hS2.1)).trans (hS2.2.1 q9 h8 h9)⟩
theorem va_P_back {A0 : Nat → Prop} {D : va_G} {cl : List vw_C} {ws wc : va_W} {H H1 : Heap} (hP : va_P D cl ws H) (hD : va_D A0 ws) (isC : List Nat) (hC : isC.map (fun i => ws[i]?) = wc.map some)
    (hk : ∀ q : Nat, q < H.size → ¬ va_A wc H.size q → H1[q]? = H[q]?) (hP1 : va_P D cl wc H1) : va_P D cl ws H1 := by
  intro k q hq
  have hlt := (hP k q hq).lt
  by_cases h : ∃ (j : Nat) (e : va_E), wc[j]? = some (q.1, e)
  · obtain ⟨j, e, hj⟩ := h
    obtain ⟨i, h3, h4⟩ := wput_at hC j (q.1, e) hj
    have h5 := hD.1 k i q (q.1, e) hq h4 rfl
    subst h5
    have h6 : q = (q.1, e) := Option.some.inj (hq.symm.trans h4)
    rw [h6]
    exact hP1 j _ hj
  · refine (hP k q hq).kept (hk q.1 hlt (fun h2 => ?_))
    rcases h2 with ⟨j, e, h2⟩ | h2
    · exact h ⟨j, e, h2⟩
    · omega
theorem g_callSx (X : CX B M cc nL own) {y : MethodName} {b : ByteArray} {n index : Nat} {ret : Option FieldType} {rm : Room} {As : List Value} {wc : va_W} {E : String} (hM : Cx (m_l M) B y b n ret rm As wc E)
    (hlink : Cond.methodLink own index y ∈ W0) (hstat : Cond.static y ∈ W0) (hini : Cond.initialized y.cls ∈ W0) (hcode : Cond.code y b n ret ∈ W0) (hd : y.cls ≠ "java/lang/invoke/MethodHandle" ∧ y.cls ≠ "java/lang/invoke/VarHandle" ∧ (parseMethodDescriptor y.desc).map (fun d => d.parameters.length) = some As.length)
    (isC : List Nat) (hnC : va_nd isC = true) (hC : isC.map (fun i => ws[i]?) = wc.map some)
    (hroom : rm.frames + 1 ≤ (m_R M).frames ∧ 8 + (n + 11) + rm.locals ≤ (m_R M).locals) (hcs : n1 + rm.cells ≤ (m_R M).cells ∧ n2 + rm.slots ≤ (m_R M).slots) (hst : st = As.reverse ++ rest) (hrs : (rest.map fun v => v.category).sum ≤ 8) (hdg : decode cc pc = .ok (.invokestatic index, 3))
    (kk : GX B M nL (n1 + rm.cells) (n2 + rm.slots) Q ws E lv pc rest) : G B M nL n1 n2 Q ws lv pc st := by
  intro H locs ls hP hD hS hl
  subst hst
  have hFc := va_free (wc := wc) hD hS X.A isC hC
  refine vx_callv (vx_runS (As := As) (rest := rest) ⟨X.x, X.b, X.n, X.o, X.t⟩ (hM H.size) ⟨callB_of As.length X.t (W0_good hcode) rfl rfl rfl (X.t _ hini) (X.t _ hlink) hd hroom, X.t _ hstat⟩ ⟨PreW.blind _ _ _, PreW.at X As hP hD hS hnC hC⟩ rfl rfl hl.1 rfl (lv_room hrs) hdg hcs) hS (fun q _ h => hFc q h) hFc (fun q _ h => hFc q h) (fun E' ce q9 u t H1 locs1 ht hvm hpx hBX hz1 hk1 hS1 hq1 hq2 hq3 => ?_) (fun u t H1 locs1 ht hvm hp => hp.elim)
  obtain ⟨rfl, hP1, hK1, hD1⟩ := hBX
  rw [ht] at hP1
  exact kk H1 locs1 ls q9 ce (va_P_back hP hD isC hC hk1 hP1) hD hS1 hl hq1 hq2 hq3
theorem g_callVx (X : CX B M cc nL own) {y : MethodName} {b : ByteArray} {n index : Nat} {ret : Option FieldType} {rm : Room} {As : List Value} {wc : va_W} {E : String} {a q0 ci N : Nat} {T : u_T} {fs : List Value} (hM : Cx (m_l M) B y b n ret rm (.ref a :: As) wc E)
    (hlink : Cond.methodLink own index y ∈ W0) (hinst : Cond.instanceMethod y ∈ W0) (hsel : Cond.selects y.cls y y ∈ W0) (hini : Cond.initialized y.cls ∈ W0) (hcode : Cond.code y b n ret ∈ W0) (hd : y.cls ≠ "java/lang/invoke/MethodHandle" ∧ y.cls ≠ "java/lang/invoke/VarHandle" ∧ (parseMethodDescriptor y.desc).map (fun d => d.parameters.length) = some As.length)
    (isC : List Nat) (hnC : va_nd isC = true) (hC : isC.map (fun i => ws[i]?) = wc.map some) (he : ws[q0]? = some (a, .inr (ci, fs))) (hci : classes[ci]? = some (y.cls, T, N))
    (hroom : rm.frames + 1 ≤ (m_R M).frames ∧ 8 + (n + 11) + rm.locals ≤ (m_R M).locals) (hcs : n1 + rm.cells ≤ (m_R M).cells ∧ n2 + rm.slots ≤ (m_R M).slots) (hst : st = As.reverse ++ .ref a :: rest) (hrs : (rest.map fun v => v.category).sum ≤ 8) (hdg : decode cc pc = .ok (.invokevirtual index, 3))
    (kk : GX B M nL (n1 + rm.cells) (n2 + rm.slots) Q ws E lv pc rest) : G B M nL n1 n2 Q ws lv pc st := by
  intro H locs ls hP hD hS hl
  subst hst
  have hFc := va_free (wc := wc) hD hS X.A isC hC
  refine vx_callv (vx_runV (As := As) (rest := rest) ⟨X.x, X.b, X.n, X.o, X.t⟩ (hM H.size) ⟨callB_of As.length X.t (W0_good hcode) rfl rfl rfl (X.t _ hini) (X.t _ hlink) hd hroom, X.t _ hinst, X.t _ hsel⟩ ⟨PreW.blind _ _ _, va_recv X.k hP hci he, PreW.at X (.ref a :: As) hP hD hS hnC hC⟩ rfl rfl hl.1 rfl (lv_room hrs) hdg hcs) hS (fun q _ h => hFc q h) hFc (fun q _ h => hFc q h) (fun E' ce q9 u t H1 locs1 ht hvm hpx hBX hz1 hk1 hS1 hq1 hq2 hq3 => ?_) (fun u t H1 locs1 ht hvm hp => hp.elim)
  obtain ⟨rfl, hP1, hK1, hD1⟩ := hBX
  rw [ht] at hP1
  exact kk H1 locs1 ls q9 ce (va_P_back hP hD isC hC hk1 hP1) hD hS1 hl hq1 hq2 hq3
theorem at_IAE : ∀ w ∈ (vx_atS "SpongeDigests" 148 nIAE nmX).filter goodWord, w ∈ W0 := by decide +kernel
theorem an_IAE : ∀ w ∈ (vx_atS "SpongeDigests" 148 nIAE nmX).filter (fun w => !goodWord w), w ∈ exWords := by decide +kernel
theorem ag_IAE : ∀ w ∈ Cond.classLink "SpongeDigests" 144 nIAE :: Cond.initialized nIAE :: vx_atS "SpongeDigests" 148 nIAE nmX, vx_ot w = true := by decide +kernel
theorem at_IOO : ∀ w ∈ (vx_atS "SpongeDigests" 73 nIOO nmX).filter goodWord, w ∈ W0 := by decide +kernel
theorem an_IOO : ∀ w ∈ (vx_atS "SpongeDigests" 73 nIOO nmX).filter (fun w => !goodWord w), w ∈ exWords := by decide +kernel
theorem ag_IOO : ∀ w ∈ Cond.classLink "SpongeDigests" 69 nIOO :: Cond.initialized nIOO :: vx_atS "SpongeDigests" 73 nIOO nmX, vx_ot w = true := by decide +kernel
end GX9
