section GH9
variable {B : Bx} {M : Mx} {cc : ByteArray} {nL n1 n2 : Nat} {own : String} {Q : State → Prop} {ws : va_W} {lv : List (Nat × Value)} {pc : Nat} {st rest : List Value}
theorem met_ofWH {l : Launch} {y : MethodName} {ws ws' : List Cond} {rm : Room} {Pc : Array Value → State → Prop} {Qc : Array Value → State → Outcome → State → Prop} {mc ms : Nat} {free : Addr → Prop} {cc : ByteArray} {maxL : Nat} {ret : Option FieldType} {hh : List (Nat × Nat × Nat × Nat)}
    (hy : plainName y.cls = true) (hw : ws = Cond.codeWith y cc maxL ret hh :: ws')
    (body : ∀ p e s m args below meth c s₁, BodyLoose p l y (headSpec ws rm) cc maxL ret e s m args below meth c s₁ → c.maxLocals = maxL → Pc args s →
      W p l e (headSpec ws rm).room s m args below meth c s.heap [] 0 0 (MQ below Qc args s mc ms free) (entryFrame m args maxL)) : Met l y ws rm Pc Qc mc ms free := by
  refine MetFree.of_bodyS (code := cc) (maxLocals := maxL) (ret := ret) hy ?_ ?_
  · intro args s m h hn
    obtain ⟨m9, meth, c, hn9, h1, h2, h3, h4, -, h5, h6, -⟩ := Cond.codeWith_spec (atoms_spec (ws := ws) h _ (by rw [hw]; exact List.mem_cons_self))
    cases hn.symm.trans hn9
    exact ⟨meth, c, h1, h2, h3, h4, h5, h6⟩
  · intro p e s m args below meth c s₁ B hml hP _
    have hh0 : s₁.heap = s.heap := by rw [B.state]; rfl
    obtain ⟨t, a1, o, b1, b2, b3⟩ := body p e s m args below meth c s₁ B hml hP s₁ hh0 (Stand.of_body B)
    exact ⟨t, o, a1, b1, b2, ⟨b3.1, b3.2⟩⟩
def Ch {S : Type} (l : Launch) (B : Bx) (y : MethodName) (b : ByteArray) (n : Nat) (hh : List (Nat × Nat × Nat × Nat)) (rm : Room) (av : List Value) (ws : va_W) (ok : Int32 → S → Prop) (ws1 : S → va_W) : Prop :=
  ∀ sz : Nat, Met l y (Cond.codeWith y b n (some .int) hh :: W0) rm (va_Pc av (PreW B ws sz)) (va_Qi ok (fun u t => PostW B (va_A ws sz) (ws1 u) t) (va_A ws sz)) rm.cells rm.slots (va_A ws sz)
theorem ctr_h {S : Type} {l : Launch} {B : Bx} {y : MethodName} {b : ByteArray} {nL : Nat} {hh : List (Nat × Nat × Nat × Nat)} {rm : Room} {av : List Value} {ws : va_W} {ok : Int32 → S → Prop} {ws1 : S → va_W} (hy : plainName y.cls = true) (hav : (lg_sl av).length ≤ nL)
    (body : ∀ (M : Mx) (Q : State → Prop), m_l M = l → m_R M = rm → (m_c M).exceptionTable.toList = tableOf hh → CX B M b nL y.cls → (∀ (r : Int32) (u : S) (n1 n2 : Nat) (lv : List (Nat × Value)) (pc : Nat), n1 ≤ rm.cells → n2 ≤ rm.slots → ok r u → decode b pc = .ok (.ireturn, 1) → G B M nL n1 n2 Q (ws1 u) lv pc [.int r]) → G B M nL 0 0 Q ws (lv_args 0 av) 0 []) : Ch l B y b nL hh rm av ws ok ws1 := by
  intro sz
  refine met_ofWH (cc := b) (maxL := nL) (ret := (some .int)) (hh := hh) hy rfl ?_
  intro p e s m args below meth c s₁ Bd hml hv
  obtain ⟨rfl, hsz, hX, hP, hK, hD0⟩ := hv
  subst hsz
  have hD := hD0.self (sz := s.heap.size)
  have htab : c.exceptionTable.toList = tableOf hh := vx_table (x := y) Bd (atoms_spec (ws := Cond.codeWith y b nL (some .int) hh :: W0) Bd.pre _ List.mem_cons_self)
  rw [lg_entry_eq]
  refine body (p, l, e, rm, s, m, av.toArray, below, meth, c, va_A ws s.heap.size) _ rfl rfl htab ⟨Bd.exec, Bd.bytes, hml, findClass_of_methodNamed Bd.named, fun w hw => atoms_spec (ws := Cond.codeWith y b nL (some .int) hh :: W0) Bd.pre w (List.mem_cons_of_mem _ hw), hK, fun q h => Or.inr h, fun q h => ?_, hX⟩ ?_ s.heap [] _ hP hD va_S.rf (lv_entry av hav)
  · rcases h with ⟨k, e9, hk⟩ | h
    · exact hD0.2 k _ hk
    · exact Nat.le_trans hX.1 h
  · intro r u n1 n2 lv pc h1 h2 hok hd H locs ls hP2 hD2 hS2 hl2
    exact W.widen h1 h2 (W.iret Bd.exec Bd.bytes Bd.returns (fun t ht hW => ⟨⟨r, u, rfl, hok, by rw [ht]; exact hP2, va_K.moved hW.alike hK, hD2⟩, hS2.F ht⟩) hS2.2.2 hd Bd.notSynchronized)
theorem g_catch (X : CX B M cc nL own) {hh : List (Nat × Nat × Nat × Nat)} (hT : (m_c M).exceptionTable.toList = tableOf hh) {E : String} (pre : List ExceptionTableEntry) (x : ExceptionTableEntry) (suf : List ExceptionTableEntry) (hsplit : tableOf hh = pre ++ x :: suf)
    (hpass : ∀ z ∈ pre, covers z pc = false ∨ (z.catchType ≠ 0 ∧ ∃ nm : String, Cond.classLink own z.catchType nm ∈ W0 ∧ va_Nc E nm (m_s M))) (hx : covers x pc = true) (h0 : x.catchType ≠ 0) (hlink : Cond.classLink own x.catchType E ∈ W0) (hcast : Cond.castable E E ∈ exWords)
    (kk : ∀ q : Nat, G B M nL n1 n2 Q ws lv x.handlerPc [.ref q]) : GX B M nL n1 n2 Q ws E lv pc rest := by
  intro H locs ls q ce hP hD hS hl hq1 hq2 hq3
  refine vx_catch (own := own) (name := E) (E := E) X.o pre x suf (hT.trans hsplit) (fun z hz => ?_) hx h0 (X.t _ hlink) (va_Nw.use rfl (X.s.2.2.2.2.2.2.1 _ hcast)) hq1 hq2 hq3 (kk q H locs ls hP hD hS hl)
  rcases hpass z hz with h | ⟨h1, nm, h2, h3⟩
  · exact Or.inl h
  · exact Or.inr ⟨h1, nm, X.t _ h2, h3⟩
end GH9
