section MM9
def mm_o (cA : ClassId) (N h0 i : Nat) : Cell := arrV cA N (fun j => if j < i then Value.ref (h0 + 1 + j) else .null)
def mm_i (cB : ClassId) (K : Nat) : Cell := arrV cB K (fun _ => Value.int 0)
def mm_t (T : State) (cA cB : ClassId) (N K : Nat) : Nat → State
  | 0 => T.pushCell (mm_o cA N T.heap.size 0)
  | i + 1 => ((mm_t T cA cB N K i).pushCell (mm_i cB K)).setCell T.heap.size (mm_o cA N T.heap.size (i + 1))
theorem mm_set (cA : ClassId) (N h0 i : Nat) : (mm_o cA N h0 i).setSlot i (.ref (h0 + 1 + i)) = mm_o cA N h0 (i + 1) := by
  unfold mm_o
  rw [arrV_store]
  refine arrV_ext (fun j _ => ?_)
  unfold updV
  by_cases c : j = i
  · subst c; simp
  · by_cases c2 : j < i
    · simp [c, c2, show j < i + 1 by omega]
    · simp [c, c2, show ¬ j < i + 1 by omega]
theorem mm_new (cA : ClassId) (N h0 : Nat) : ({ cls := cA, slots := Array.replicate N Value.null, vm := .none } : Cell) = mm_o cA N h0 0 := by
  rw [arrV_new]
  exact arrV_ext (fun j _ => by rw [if_neg (Nat.not_lt_zero j)])
theorem mm_newi (cB : ClassId) (K : Nat) : ({ cls := cB, slots := Array.replicate K (Value.int 0), vm := .none } : Cell) = mm_i cB K := arrV_new _ _ _
theorem mm_all (T : State) (cA cB : ClassId) (N K i : Nat) : (mm_t T cA cB N K i).heap.size = T.heap.size + 1 + i ∧ (mm_t T cA cB N K i).heap[T.heap.size]? = some (mm_o cA N T.heap.size i) ∧ (mm_t T cA cB N K i).vm = T.vm ∧ (mm_t T cA cB N K i).slotsUsed = T.slotsUsed + N + i * K ∧
    (∀ a, a < T.heap.size → (mm_t T cA cB N K i).heap[a]? = T.heap[a]?) ∧ ∀ j, j < i → (mm_t T cA cB N K i).heap[T.heap.size + 1 + j]? = some (mm_i cB K) := by
  induction i with
  | zero =>
    refine ⟨size_pushCell _ _, ?_, rfl, ?_, fun a ha => State.heap_pushCell_of_lt _ _ ha, fun j hj => absurd hj (Nat.not_lt_zero j)⟩
    · show (T.pushCell (mm_o cA N T.heap.size 0)).heap[T.heap.size]? = _
      simp
    · show (T.pushCell (mm_o cA N T.heap.size 0)).slotsUsed = _
      simp [mm_o, arrV_size]
  | succ i ih =>
    obtain ⟨f1, f2, f3, f4, f5, f6⟩ := ih
    have hlt : T.heap.size < (mm_t T cA cB N K i).heap.size := by omega
    have hc : ((mm_t T cA cB N K i).pushCell (mm_i cB K)).heap[T.heap.size]? = some (mm_o cA N T.heap.size i) := by rw [State.heap_pushCell_of_lt (h := hlt)]; exact f2
    refine ⟨?_, State.heap_setCell_self hc, ?_, ?_, fun a ha => ?_, fun j hj => ?_⟩
    · show (((mm_t T cA cB N K i).pushCell (mm_i cB K)).setCell T.heap.size _).heap.size = _
      rw [size_setCell, size_pushCell, f1]
      omega
    · show (((mm_t T cA cB N K i).pushCell (mm_i cB K)).setCell T.heap.size _).vm = _
      exact f3
    · show (((mm_t T cA cB N K i).pushCell (mm_i cB K)).setCell T.heap.size _).slotsUsed = _
      simp [f4, mm_i, arrV_size, Nat.succ_mul]
      omega
    · show (((mm_t T cA cB N K i).pushCell (mm_i cB K)).setCell T.heap.size _).heap[a]? = _
      rw [State.heap_setCell_other (Nat.ne_of_gt ha), State.heap_pushCell_of_lt (h := (show a < (mm_t T cA cB N K i).heap.size by omega))]
      exact f5 a ha
    · show (((mm_t T cA cB N K i).pushCell (mm_i cB K)).setCell T.heap.size _).heap[T.heap.size + 1 + j]? = _
      rw [State.heap_setCell_other (show T.heap.size ≠ T.heap.size + 1 + j by omega)]
      by_cases c : j < i
      · rw [State.heap_pushCell_of_lt (h := (show T.heap.size + 1 + j < (mm_t T cA cB N K i).heap.size by omega))]
        exact f6 j c
      · have e : T.heap.size + 1 + j = (mm_t T cA cB N K i).heap.size := by omega
        rw [e]
        simp
theorem mm_top (T : State) (f : JFrame) (cA cB : ClassId) (N K i : Nat) : mm_t (T.setTop f) cA cB N K i = (mm_t T cA cB N K i).setTop f := by
  induction i with
  | zero => rfl
  | succ i ih => simp only [mm_t, ih, State.heap_setTop, State.pushCell_setTop, State.setCell_setTop]
variable {p : Program} {l : Launch} {e : Env} {R : Room} {s : State} {m : MethodId} {args : Array Value} {below : List Frame} {meth : Method} {c : Code} {T : State} {locs : List Loc} {cells slots : Nat}
theorem mm_stand (X : Stand p l e R s m args below meth c T locs cells slots) (cA cB : ClassId) (N K i : Nat) : Stand p l e R s m args below meth c (mm_t T cA cB N K i) (locs ++ (List.range i).map fun j => ⟨T.heap.size, j⟩) (cells + 1 + i) (slots + N + i * K) := by
  induction i with
  | zero =>
    have h := X.pushed (mm_o cA N T.heap.size 0)
    have e1 : (mm_o cA N T.heap.size 0).slots.size = N := arrV_size _ _ _
    rw [e1] at h
    simpa [mm_t] using h
  | succ i ih =>
    obtain ⟨f1, f2, -, -, -, -⟩ := mm_all T cA cB N K i
    have hc : ((mm_t T cA cB N K i).pushCell (mm_i cB K)).heap[T.heap.size]? = some (mm_o cA N T.heap.size i) := by rw [State.heap_pushCell_of_lt (h := (show T.heap.size < (mm_t T cA cB N K i).heap.size by omega))]; exact f2
    have h := (ih.pushed (mm_i cB K)).stored hc i (.ref (T.heap.size + 1 + i))
    have e1 : (mm_i cB K).slots.size = K := arrV_size _ _ _
    rw [e1, mm_set] at h
    rw [List.range_succ, List.map_append, ← List.append_assoc, show slots + N + (i + 1) * K = slots + N + i * K + K by rw [Nat.succ_mul]; omega]
    exact h
section
variable {E : CtlPost} {d : Bool} {acts : List Action}
theorem mm_wn {cA comp : ClassId} {k : Class} {type : FieldType} {len : Nat} {init : Value} (hk : T.vm.classes[cA]? = some k) (hkind : k.kind = .array comp type) (hlimit : ¬ len > e.platform.arrayLengthLimit) (hheap : ¬ len * componentBytes type > e.platform.maxHeapBytes) (hfit : fits type init = true) (hdef : init.isDefault = true) {Q : Addr → Pre} (h1 : T.heap.size < e.platform.maxCells) (h2 : T.slotsUsed + len ≤ e.platform.maxSlots)
    (hq : Q T.heap.size d acts (T.pushCell { cls := cA, slots := Array.replicate len init, vm := .none })) : wp (Jvm.newArray cA len init) Q E e d acts T := by
  have hda : allocActs (Array.replicate len init) T.heap.size acts = acts := by
    unfold allocActs
    rw [if_pos (by rw [Array.all_replicate]; split <;> simp [hdef])]
  have hf : ∀ i v, (Array.replicate len init)[i]? = some v → T.fitsSlot cA .none i v = true := by
    intro i v hv
    rw [Array.getElem?_replicate] at hv
    split at hv
    · cases hv
      simp [State.fitsSlot, State.slotType?, hk, hkind, hfit]
    · cases hv
  simp only [Jvm.newArray, Jvm.arrayFits, wp_bind', W.ask, W.ite, hlimit, if_false, wp_pure', W.theClass, hk, hkind, hheap, W.alloc, W.stop, Option.some.injEq, exists_eq_left', Array.size_replicate, hda]
  rw [if_neg (by omega)]
  exact ⟨h1, h2, hf, hq⟩
theorem mm_w1 {cB c0 : ClassId} {kB : Class} {y : Int32} (hk : T.vm.classes[cB]? = some kB) (hkind : kB.kind = .array c0 .byte) (hy : ¬ y < 0) (hlimit : ¬ y.toNatClampNeg > e.platform.arrayLengthLimit) (hheap : ¬ y.toNatClampNeg * componentBytes .byte > e.platform.maxHeapBytes) (h1 : T.heap.size < e.platform.maxCells) (h2 : T.slotsUsed + y.toNatClampNeg ≤ e.platform.maxSlots) {Q : Addr → Pre} (hq : Q T.heap.size d acts (T.pushCell (mm_i cB y.toNatClampNeg))) : wp (Jvm.Op.multianewarray.make cB [y]) Q E e d acts T := by
  rw [Jvm.Op.multianewarray.make]
  simp only [wp_bind', W.ite, hy, if_false, wp_pure', W.theClass, hk, hkind, Option.some.injEq, exists_eq_left']
  refine mm_wn hk hkind hlimit hheap rfl rfl h1 h2 ?_
  have e1 := mm_newi cB y.toNatClampNeg
  rw [show defaultValue .byte = Value.int 0 from rfl, e1]
  exact hq
theorem mm_w2 {cA cB c0 : ClassId} {kA kB : Class} {x y : Int32} (hkA : T.vm.classes[cA]? = some kA) (hA : kA.kind = .array cB (.array .byte)) (hkB : T.vm.classes[cB]? = some kB) (hB : kB.kind = .array c0 .byte) (hx : ¬ x < 0) (hy : ¬ y < 0) (l1 : ¬ x.toNatClampNeg > e.platform.arrayLengthLimit) (b1 : ¬ x.toNatClampNeg * componentBytes (.array .byte) > e.platform.maxHeapBytes) (l2 : ¬ y.toNatClampNeg > e.platform.arrayLengthLimit) (b2 : ¬ y.toNatClampNeg * componentBytes .byte > e.platform.maxHeapBytes)
    (hc : T.heap.size + 1 + x.toNatClampNeg ≤ e.platform.maxCells) (hs : T.slotsUsed + x.toNatClampNeg + x.toNatClampNeg * y.toNatClampNeg ≤ e.platform.maxSlots) {Q : Addr → Pre} (hq : ∀ d' acts', Q T.heap.size d' acts' (mm_t T cA cB x.toNatClampNeg y.toNatClampNeg x.toNatClampNeg)) : wp (Jvm.Op.multianewarray.make cA [x, y]) Q E e d acts T := by
  have hfind : ([y].find? (· < 0)) = none := by simp [hy]
  rw [Jvm.Op.multianewarray.make]
  simp only [wp_bind', W.ite, hx, if_false, wp_pure', W.theClass, hkA, hA, Option.some.injEq, exists_eq_left']
  refine mm_wn hkA hA l1 b1 rfl rfl (by omega) (by have := Nat.zero_le (x.toNatClampNeg * y.toNatClampNeg); omega) ?_
  simp only [hfind]
  rw [ite_self, wp_bind', Std.Legacy.Range.forIn_eq_forIn_range', show ([:x.toNatClampNeg] : Std.Legacy.Range).size = x.toNatClampNeg by simp [Std.Legacy.Range.size], mm_new cA x.toNatClampNeg T.heap.size]
  show wp (forIn (List.range' 0 x.toNatClampNeg 1) PUnit.unit _) _ E e d acts _
  generalize hn : x.toNatClampNeg = N at *
  generalize hk9 : y.toNatClampNeg = K at *
  refine wp_forIn_inv (fun rest s' => ∃ i, i ≤ N ∧ rest = List.range' i (N - i) ∧ s' = mm_t T cA cB N K i) _ _ ⟨0, Nat.zero_le _, rfl, rfl⟩ ?_ ?_
  · rintro z rest s' d' acts' Q' ⟨i, hi, hl, rfl⟩ hnext
    have hlt : i < N := by
      by_cases c : i < N
      · exact c
      · rw [show N - i = 0 by omega] at hl
        cases hl
    rw [show N - i = (N - (i + 1)) + 1 by omega, List.range'_succ] at hl
    obtain ⟨rfl, hrest⟩ := List.cons.inj hl
    obtain ⟨f1, f2, f3, f4, -, -⟩ := mm_all T cA cB N K z
    have hmul : z * K + K ≤ N * K := by
      have h9 := Nat.mul_le_mul_right K (show z + 1 ≤ N from hlt)
      rw [Nat.succ_mul] at h9
      exact h9
    simp only [wp_bind']
    refine mm_w1 (kB := kB) (c0 := c0) (by rw [f3]; exact hkB) hB hy (by rw [hk9]; exact l2) (by rw [hk9]; exact b2) (by rw [f1]; omega) (by rw [f4, hk9]; omega) ?_
    rw [hk9]
    simp only [wp_bind', W.writeLoc, wp_pure']
    refine ⟨mm_o cA N T.heap.size z, by rw [State.heap_pushCell_of_lt (h := (show T.heap.size < (mm_t T cA cB N K z).heap.size by omega))]; exact f2, by simp [mm_o, arrV], by rw [show (mm_o cA N T.heap.size z).slots.size = N from arrV_size _ _ _]; exact hlt, ?_, hnext _ _ _ ⟨z + 1, hlt, hrest, ?_⟩⟩
    · show State.fitsSlot _ cA .none z _ = true
      simp [State.fitsSlot, State.slotType?, f3, hkA, hA, fits]
    · rw [f1, mm_set]
      rfl
  · rintro s' d' acts' ⟨i, hi, hl, rfl⟩
    have hiN : i = N := by
      by_cases c : i < N
      · rw [show N - i = (N - (i + 1)) + 1 by omega, List.range'_succ] at hl
        cases hl
      · omega
    subst hiN
    simp only [wp_pure']
    exact hq _ _
end
theorem mm_step (X : Stand p l e R s m args below meth c T locs cells slots) (hexec : p.tables.exec = Jvm.exec) {own : String} {index : Nat} {cA cB c0 : ClassId} {kA kB : Class} (hown : s.vm.findClass own = some m.cls) (hclink : (Cond.classLink own index "[[B").before args s = true) (hfA : s.vm.findClass "[[B" = some cA) (hkA : s.vm.classes[cA]? = some kA) (hA : kA.kind = .array cB (.array .byte)) (hkB : s.vm.classes[cB]? = some kB) (hB : kB.kind = .array c0 .byte)
    {g : JFrame} (hg : g.method = m) (hdg : decode c.code g.pc = .ok (.multianewarray index 2, 4)) {x y : Int32} {rest : List Value} (hstack : g.stack = .int y :: .int x :: rest) (hx : ¬ x < 0) (hy : ¬ y < 0) (hb1 : x.toNatClampNeg * 4 ≤ 536870912) (hb2 : y.toNatClampNeg ≤ 536870912)
    (hcells : cells + (1 + x.toNatClampNeg) ≤ R.cells) (hslots : slots + (x.toNatClampNeg + x.toNatClampNeg * y.toNatClampNeg) ≤ R.slots) :
    ∃ vm₁ : Vm, s.WarmedH vm₁ ∧ Stand p l e R s m args below meth c (mm_t (T.setVm vm₁) cA cB x.toNatClampNeg y.toNatClampNeg x.toNatClampNeg) (locs ++ (List.range x.toNatClampNeg).map fun j => ⟨T.heap.size, j⟩) (cells + 1 + x.toNatClampNeg) (slots + x.toNatClampNeg + x.toNatClampNeg * y.toNatClampNeg) ∧
      ∀ target, Steps p.tables e below ((mm_t (T.setVm vm₁) cA cB x.toNatClampNeg y.toNatClampNeg x.toNatClampNeg).setTop { g with pc := g.pc + 4, stack := .ref T.heap.size :: rest }) target → Steps p.tables e below (T.setTop g) target := by
  subst hg
  have hpl : e.platform.magicAccessors = ({} : Platform).magicAccessors := by rw [X.admits.platform]
  obtain ⟨c1, hfc1, hcl⟩ := Cond.classLink_spec hown hclink e.platform hpl
  cases hfA.symm.trans hfc1
  obtain ⟨hg₁, hwarm₁, hready₁⟩ := State.classEntry (e := e) X.warmed hcl
  generalize T.vm.noted g.method.cls index (.cls cA) = vm₁ at hg₁ hwarm₁ hready₁
  obtain ⟨kA₁, hkA₁, heA⟩ := hwarm₁.alike.2.2 _ _ hkA
  obtain ⟨kB₁, hkB₁, heB⟩ := hwarm₁.alike.2.2 _ _ hkB
  have hA₁ : kA₁.kind = .array cB (.array .byte) := by rw [heA]; exact hA
  have hB₁ : kB₁.kind = .array c0 .byte := by rw [heB]; exact hB
  have X₁ := X.noted hwarm₁
  have XF := mm_stand X₁ cA cB x.toNatClampNeg y.toNatClampNeg x.toNatClampNeg
  obtain ⟨hr1, hr2⟩ := X.roomAbove hcells hslots
  refine ⟨vm₁, hwarm₁, XF, fun target hrest => ?_⟩
  have l1 : ¬ x.toNatClampNeg > e.platform.arrayLengthLimit := by rw [Launch.admits_arrayLengthLimit X.admits]; omega
  have b1 : ¬ x.toNatClampNeg * componentBytes (.array .byte) > e.platform.maxHeapBytes := by
    rw [Launch.admits_maxHeapBytes X.admits]; show ¬ x.toNatClampNeg * 4 > 536870912; omega
  have l2 : ¬ y.toNatClampNeg > e.platform.arrayLengthLimit := by rw [Launch.admits_arrayLengthLimit X.admits]; omega
  have b2 : ¬ y.toNatClampNeg * componentBytes .byte > e.platform.maxHeapBytes := by
    rw [Launch.admits_maxHeapBytes X.admits]; show ¬ y.toNatClampNeg * 1 > 536870912; omega
  jvm_step X.here [hexec, hdg]
  simp only [multianewarray.sem, wp_bind', W.resolveClassAt_links (State.method?_setTop g X.here.top) hg₁]
  rw [W.popN, if_neg (by decide)]
  refine ⟨g, State.topJava?_setTop' (s := T.setVm vm₁) g X.here.top, [.int x, .int y], rest, rfl, hstack, ?_⟩
  simp only [List.mapM_cons, List.mapM_nil, wp_bind', wp_pure']
  refine mm_w2 (kA := kA₁) (kB := kB₁) (cB := cB) (c0 := c0) hkA₁ hA₁ hkB₁ hB₁ hx hy l1 b1 l2 b2 (by show T.heap.size + 1 + _ ≤ _; omega) (by show T.slotsUsed + _ + _ ≤ _; omega) (fun d' acts' => ?_)
  have eS : ((T.setTop g).setVm vm₁).setTop { g with stack := rest } = (T.setVm vm₁).setTop { g with stack := rest } := by
    show ((T.setVm vm₁).setTop g).setTop _ = _
    rw [State.setTop_setTop]
  rw [eS, mm_top]
  simp only [wp_bind', W.mark, W.pushRef, State.topJava?_setTop' _ XF.here.top, Option.some.injEq, exists_eq_left', State.setTop_setTop, State.heap_setTop]
  intro acts
  simp [jvm, XF.here.top]
  exact hrest
end MM9
section GM8
variable {B : Bx} {M : Mx} {cc : ByteArray} {nL n1 n2 : Nat} {own : String} {Q : State → Prop} {ws : va_W} {lv : List (Nat × Value)} {pc : Nat} {st rest : List Value}
theorem g_newm (X : CX B M cc nL own) {index : Nat} (hlink : Cond.classLink own index "[[B" ∈ W0) {n k : Nat} (hn : n * 4 ≤ 536870912) (hk : k ≤ 536870912) (hn0 : n < 2 ^ 31) (hc : n1 + (1 + n) ≤ (m_R M).cells) (hs : n2 + (n + n * k) ≤ (m_R M).slots) (hdg : decode cc pc = .ok (.multianewarray index 2, 4))
    (kk : ∀ q : Nat, G B M nL (n1 + 1 + n) (n2 + n + n * k) Q (ws ++ (cq B q n (fun j => some (q + 1 + j)) :: (List.range n).map (fun j => cb B (q + 1 + j) k (fun _ => (0 : Int8))))) lv (pc + 4) (.ref q :: rest)) : G B M nL n1 n2 Q ws lv pc (.int (nI k) :: .int (nI n) :: rest) := by
  intro H locs ls hP hD hS hl
  intro T hT X0
  obtain ⟨kA, hkA, hA⟩ := X.s.2.2.2.2.2.2.2.2.2
  obtain ⟨-, kB, hkB, c0, hB⟩ := (X.k.2 0 _ rfl).1 0 (fun _ => .null)
  have hk31 : k < 2 ^ 31 := by omega
  have e1 := nI_clamp (n := n) hn0
  have e2 := nI_clamp (n := k) hk31
  obtain ⟨vm₁, hW, XF, step⟩ := mm_step X0 X.x X.o (X.t _ hlink) (X.k.2 4 _ rfl).2 hkA hA hkB hB (g := F0 (m_m M) pc ls (.int (nI k) :: .int (nI n) :: rest)) rfl (by rw [X.b]; exact hdg) (x := nI n) (y := nI k) (rest := rest) rfl (nI_pos hn0) (nI_pos hk31) (by rw [e1]; exact hn) (by rw [e2]; exact hk) (by rw [e1]; exact hc) (by rw [e1, e2]; exact hs)
  rw [e1, e2] at XF step
  obtain ⟨a1, a2, -, -, a5, a6⟩ := mm_all (T.setVm vm₁) (b_c B 4) (b_c B 0) n k n
  have hTs : (T.setVm vm₁).heap = H := hT
  rw [hTs] at a1 a2 a5 a6
  generalize hH1 : (mm_t (T.setVm vm₁) (b_c B 4) (b_c B 0) n k n) = T1 at XF step a1 a2 a5 a6
  have hold : ∀ (i : Nat) (x : Nat × va_E), ws[i]? = some x → T1.heap[x.1]? = H[x.1]? := fun i x hx => a5 x.1 ((hP i x hx).lt)
  have hP1 : va_P B.1 classes (ws ++ (cq B H.size n (fun j => some (H.size + 1 + j)) :: (List.range n).map (fun j => cb B (H.size + 1 + j) k (fun _ => (0 : Int8))))) T1.heap := by
    refine (hP.kept hold).app (fun i x hx => ?_)
    cases i with
    | zero =>
      cases hx
      show T1.heap[H.size]? = some (vp_cell _ _)
      rw [a2, vp_cell_q]
      exact congrArg some (arrV_ext (fun j hj => by rw [if_pos hj]; rfl))
    | succ i =>
      rw [List.getElem?_cons_succ, List.getElem?_map] at hx
      by_cases c : i < n
      · rw [List.getElem?_range c] at hx
        cases hx
        exact a6 i c
      · rw [List.getElem?_eq_none (by rw [List.length_range]; omega)] at hx
        cases hx
  have hnew : ∀ (i : Nat) (x : Nat × va_E), (cq B H.size n (fun j => some (H.size + 1 + j)) :: (List.range n).map (fun j => cb B (H.size + 1 + j) k (fun _ => (0 : Int8))))[i]? = some x → x.1 = H.size + i := by
    intro i x hx
    cases i with
    | zero => cases hx; rfl
    | succ i =>
      rw [List.getElem?_cons_succ, List.getElem?_map] at hx
      by_cases c : i < n
      · rw [List.getElem?_range c] at hx
        cases hx
        show H.size + 1 + i = H.size + (i + 1)
        omega
      · rw [List.getElem?_eq_none (by rw [List.length_range]; omega)] at hx
        cases hx
  have hD1 : va_D (m_A M) (ws ++ (cq B H.size n (fun j => some (H.size + 1 + j)) :: (List.range n).map (fun j => cb B (H.size + 1 + j) k (fun _ => (0 : Int8))))) := by
    refine ⟨fun i j x y hx hy hxy => ?_, fun i x hx => ?_⟩
    · by_cases ci : i < ws.length
      · rw [List.getElem?_append_left ci] at hx
        have hxl := (hP i x hx).lt
        by_cases cj : j < ws.length
        · rw [List.getElem?_append_left cj] at hy
          exact hD.1 i j x y hx hy hxy
        · rw [List.getElem?_append_right (by omega)] at hy
          have := hnew _ y hy
          omega
      · rw [List.getElem?_append_right (by omega)] at hx
        have hxl := hnew _ x hx
        by_cases cj : j < ws.length
        · rw [List.getElem?_append_left cj] at hy
          have := (hP j y hy).lt
          omega
        · rw [List.getElem?_append_right (by omega)] at hy
          have := hnew _ y hy
          omega
    · by_cases ci : i < ws.length
      · rw [List.getElem?_append_left ci] at hx
        exact hD.2 i x hx
      · rw [List.getElem?_append_right (by omega)] at hx
        have hxl := hnew _ x hx
        exact X.A _ (Nat.le_trans hS.1 (by omega))
  have hS1 : va_S (m_A M) (m_s M).heap T1.heap (locs ++ (List.range n).map fun j => ⟨T.heap.size, j⟩) := by
    refine ⟨by rw [a1]; exact Nat.le_trans hS.1 (by omega), fun x h1 h2 => (a5 x (Nat.lt_of_lt_of_le h1 hS.1)).trans (hS.2.1 x h1 h2), fun x hx => ?_⟩
    rcases List.mem_append.mp hx with h | h
    · exact hS.2.2 x h
    · obtain ⟨j, -, hj⟩ := List.mem_map.mp h
      rw [← hj]
      show m_A M T.heap.size
      rw [hT]
      exact X.A _ hS.1
  obtain ⟨t, b1, b2⟩ := kk H.size T1.heap _ ls hP1 hD1 hS1 hl T1 rfl (by rw [Nat.add_assoc n1 1 n] at *; exact XF)
  refine ⟨t, step t ?_, b2⟩
  have : T.heap.size = H.size := by rw [hT]
  rw [this]
  exact b1
end GM8
