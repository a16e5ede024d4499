section GN9
variable {B : Bx} {M : Mx} {cc : ByteArray} {nL n1 n2 : Nat} {own : String} {Q : State → Prop} {ws : va_W} {lv : List (Nat × Value)} {pc : Nat} {st rest : List Value}
theorem g_newb (X : CX B M cc nL own) (harr : Cond.arrayClass .byte ∈ W0) {n : Nat} (hn : n < 2 ^ 31) (hb : n * componentBytes .byte ≤ 536870912) (hc : n1 + 1 ≤ (m_R M).cells) (hs : n2 + n ≤ (m_R M).slots) (hdg : decode cc pc = .ok (.newarray .byte, 2))
    (kk : ∀ q : Nat, G B M nL (n1 + 1) (n2 + n) Q (ws ++ [cb B q n (fun _ => (0 : Int8))]) lv (pc + 2) (.ref q :: rest)) : G B M nL n1 n2 Q ws lv pc (.int (nI n) :: rest) := by
  intro H locs ls hP hD hS hl
  refine va_newaK X.x X.b (atype := .byte) (X.t _ harr) rfl hdg rfl (nI_pos hn) (nI_clamp hn) hb hc hs rfl (fun H1 cA e1 z1 o1 hAr hNm => ?_)
  have hcA : cA = b_c B 0 := Option.some.inj (hNm.symm.trans (X.k.2 0 _ rfl).2)
  subst hcA
  have hk : ∀ (k : Nat) (x : Nat × va_E), ws[k]? = some x → H1[x.1]? = H[x.1]? := fun k x hx => o1 x.1 ((hP k x hx).lt)
  refine kk H.size H1 locs ls ((hP.kept hk).app (fun k x hx => ?_)) (hD.push hP rfl (X.A _ hS.1)) ⟨Nat.le_trans hS.1 (by omega), fun x h1 h2 => (o1 x (Nat.lt_of_lt_of_le h1 hS.1)).trans (hS.2.1 x h1 h2), hS.2.2⟩ hl
  have hz : k < 1 := (List.getElem?_eq_some_iff.mp hx).1
  rw [show k = 0 by omega] at hx
  cases hx
  exact e1
theorem g_newj (X : CX B M cc nL own) (harr : Cond.arrayClass .long ∈ W0) {n : Nat} (hn : n < 2 ^ 31) (hb : n * componentBytes .long ≤ 536870912) (hc : n1 + 1 ≤ (m_R M).cells) (hs : n2 + n ≤ (m_R M).slots) (hdg : decode cc pc = .ok (.newarray .long, 2))
    (kk : ∀ q : Nat, G B M nL (n1 + 1) (n2 + n) Q (ws ++ [cj B q n (fun _ => (0 : Int64))]) lv (pc + 2) (.ref q :: rest)) : G B M nL n1 n2 Q ws lv pc (.int (nI n) :: rest) := by
  intro H locs ls hP hD hS hl
  refine va_newaK X.x X.b (atype := .long) (X.t _ harr) rfl hdg rfl (nI_pos hn) (nI_clamp hn) hb hc hs rfl (fun H1 cA e1 z1 o1 hAr hNm => ?_)
  have hcA : cA = b_c B 1 := Option.some.inj (hNm.symm.trans (X.k.2 1 _ rfl).2)
  subst hcA
  have hk : ∀ (k : Nat) (x : Nat × va_E), ws[k]? = some x → H1[x.1]? = H[x.1]? := fun k x hx => o1 x.1 ((hP k x hx).lt)
  refine kk H.size H1 locs ls ((hP.kept hk).app (fun k x hx => ?_)) (hD.push hP rfl (X.A _ hS.1)) ⟨Nat.le_trans hS.1 (by omega), fun x h1 h2 => (o1 x (Nat.lt_of_lt_of_le h1 hS.1)).trans (hS.2.1 x h1 h2), hS.2.2⟩ hl
  have hz : k < 1 := (List.getElem?_eq_some_iff.mp hx).1
  rw [show k = 0 by omega] at hx
  cases hx
  exact e1
theorem g_newn (X : CX B M cc nL own) (harr : Cond.arrayClass .int ∈ W0) {n : Nat} (hn : n < 2 ^ 31) (hb : n * componentBytes .int ≤ 536870912) (hc : n1 + 1 ≤ (m_R M).cells) (hs : n2 + n ≤ (m_R M).slots) (hdg : decode cc pc = .ok (.newarray .int, 2))
    (kk : ∀ q : Nat, G B M nL (n1 + 1) (n2 + n) Q (ws ++ [cn B q n (fun _ => (0 : Int32))]) lv (pc + 2) (.ref q :: rest)) : G B M nL n1 n2 Q ws lv pc (.int (nI n) :: rest) := by
  intro H locs ls hP hD hS hl
  refine va_newaK X.x X.b (atype := .int) (X.t _ harr) rfl hdg rfl (nI_pos hn) (nI_clamp hn) hb hc hs rfl (fun H1 cA e1 z1 o1 hAr hNm => ?_)
  have hcA : cA = b_c B 2 := Option.some.inj (hNm.symm.trans (X.k.2 2 _ rfl).2)
  subst hcA
  have hk : ∀ (k : Nat) (x : Nat × va_E), ws[k]? = some x → H1[x.1]? = H[x.1]? := fun k x hx => o1 x.1 ((hP k x hx).lt)
  refine kk H.size H1 locs ls ((hP.kept hk).app (fun k x hx => ?_)) (hD.push hP rfl (X.A _ hS.1)) ⟨Nat.le_trans hS.1 (by omega), fun x h1 h2 => (o1 x (Nat.lt_of_lt_of_le h1 hS.1)).trans (hS.2.1 x h1 h2), hS.2.2⟩ hl
  have hz : k < 1 := (List.getElem?_eq_some_iff.mp hx).1
  rw [show k = 0 by omega] at hx
  cases hx
  exact e1
theorem g_newo (X : CX B M cc nL own) {C : String} {T : u_T} {N ci index : Nat} (hin : ∀ w ∈ u_ws C T N, w ∈ W0) (ty0 : Nat → FieldType) (hty : ∀ k, k < N → parseFieldDescriptor (T k).2.2.1 = some (ty0 k)) (hcl : Cond.classLink own index C ∈ W0) (hinst : Cond.instantiable C N ∈ W0) (hini : Cond.initialized C ∈ W0) (hc : classes[ci]? = some (C, T, N)) {fs : List Value} (hfs : ∀ j, j < N → defaultValue (ty0 j) = vp_V fs j) (hcells : n1 + 1 ≤ (m_R M).cells) (hslots : n2 + N ≤ (m_R M).slots) (hdg : decode cc pc = .ok (.new index, 3))
    (kk : ∀ q : Nat, G B M nL (n1 + 1) (n2 + N) Q (ws ++ [(q, .inr (ci, fs))]) lv (pc + 3) (.ref q :: rest)) : G B M nL n1 n2 Q ws lv pc rest :=
  fun H locs ls hP hD hS hl => va_new X.x X.b X.t hin ty0 hty X.o (X.t _ hcl) (X.t _ hinst) (X.t _ hini) X.k hP hD hS X.A hc hfs hcells hslots hdg (fun q H1 hP1 hD1 hS1 => kk q H1 locs ls hP1 hD1 hS1 hl)
end GN9
