def wput (ws : va_W) : List Nat → va_W → va_W
  | i :: is, c :: cs => wput (ws.set i c) is cs
  | [], _ => ws
  | _ :: _, [] => ws
theorem wset_fst {ws : va_W} {i : Nat} {c : Nat × va_E} (h : (ws[i]?).map Prod.fst = some c.1) (k : Nat) : ((ws.set i c)[k]?).map Prod.fst = (ws[k]?).map Prod.fst := by
  rw [List.getElem?_set]
  by_cases hik : i = k
  · subst hik
    rw [if_pos rfl]
    by_cases hl : i < ws.length
    · rw [if_pos hl, h]; rfl
    · rw [List.getElem?_eq_none (by omega)] at h; cases h
  · rw [if_neg hik]
theorem wput_fst : ∀ (is : List Nat) (cs ws : va_W), (∀ (j i : Nat) (c : Nat × va_E), is[j]? = some i → cs[j]? = some c → (ws[i]?).map Prod.fst = some c.1) → ∀ k : Nat, ((wput ws is cs)[k]?).map Prod.fst = (ws[k]?).map Prod.fst
  | [], cs, ws, _, k => by cases cs <;> rfl
  | i :: is, [], ws, _, k => rfl
  | i :: is, c :: cs, ws, h, k => by
    have h0 := h 0 i c rfl rfl
    show ((wput (ws.set i c) is cs)[k]?).map Prod.fst = _
    rw [wput_fst is cs (ws.set i c) (fun j i' c' h1 h2 => by rw [wset_fst h0]; exact h (j + 1) i' c' h1 h2) k, wset_fst h0]
theorem wput_in : ∀ (is : List Nat) (cs ws : va_W), is.length = cs.length → ∀ (k : Nat) (q : Nat × va_E), (wput ws is cs)[k]? = some q → q ∈ cs ∨ (k ∉ is ∧ ws[k]? = some q)
  | [], [], ws, _, k, q, h => Or.inr ⟨List.not_mem_nil, h⟩
  | [], c :: cs, ws, hl, k, q, h => by simp at hl
  | i :: is, [], ws, hl, k, q, h => by simp at hl
  | i :: is, c :: cs, ws, hl, k, q, h => by
    have hl' : is.length = cs.length := by simpa using hl
    rcases wput_in is cs (ws.set i c) hl' k q h with h1 | ⟨h1, h2⟩
    · exact Or.inl (List.mem_cons_of_mem _ h1)
    · rw [List.getElem?_set] at h2
      by_cases hik : i = k
      · rw [if_pos hik] at h2
        by_cases h3 : i < ws.length
        · rw [if_pos h3] at h2
          cases h2
          exact Or.inl List.mem_cons_self
        · rw [if_neg h3] at h2; cases h2
      · rw [if_neg hik] at h2
        refine Or.inr ⟨fun hm => ?_, h2⟩
        rcases List.mem_cons.mp hm with h4 | h4
        · exact hik h4.symm
        · exact h1 h4
theorem va_D.fst {A : Nat → Prop} {ws ws' : va_W} (hD : va_D A ws) (h : ∀ k : Nat, (ws'[k]?).map Prod.fst = (ws[k]?).map Prod.fst) : va_D A ws' := by
  have key : ∀ (k : Nat) (q : Nat × va_E), ws'[k]? = some q → ∃ q', ws[k]? = some q' ∧ q'.1 = q.1 := by
    intro k q hq
    have h1 := h k
    rw [hq] at h1
    cases hw : ws[k]? with
    | none => rw [hw] at h1; cases h1
    | some q' => rw [hw] at h1; exact ⟨q', rfl, (Option.some.inj h1).symm⟩
  refine ⟨fun i j x y hx hy hxy => ?_, fun k q hq => ?_⟩
  · obtain ⟨x', h1, h2⟩ := key i x hx
    obtain ⟨y', h3, h4⟩ := key j y hy
    exact hD.1 i j x' y' h1 h3 (by rw [h2, h4]; exact hxy)
  · obtain ⟨q', h1, h2⟩ := key k q hq
    rw [← h2]
    exact hD.2 k q' h1
theorem wput_at {ws wc : va_W} {isC : List Nat} (hC : isC.map (fun i => ws[i]?) = wc.map some) : ∀ (k : Nat) (q : Nat × va_E), wc[k]? = some q → ∃ i, isC[k]? = some i ∧ ws[i]? = some q := by
  intro k q hq
  have h1 : (isC.map (fun i => ws[i]?))[k]? = some (some q) := by rw [hC, List.getElem?_map, hq]; rfl
  rw [List.getElem?_map] at h1
  cases hi : isC[k]? with
  | none => rw [hi] at h1; cases h1
  | some i => rw [hi] at h1; exact ⟨i, rfl, Option.some.inj h1⟩
theorem wput_adr {ws wc w1 : va_W} {isC : List Nat} (hC : isC.map (fun i => ws[i]?) = wc.map some) (hadr : w1.map Prod.fst = wc.map Prod.fst) : ∀ k : Nat, ((wput ws isC w1)[k]?).map Prod.fst = (ws[k]?).map Prod.fst := by
  refine wput_fst isC w1 ws (fun j i c hj hc => ?_)
  have e1 : (w1.map Prod.fst)[j]? = (wc.map Prod.fst)[j]? := by rw [hadr]
  rw [List.getElem?_map, List.getElem?_map, hc] at e1
  cases hw : wc[j]? with
  | none => rw [hw] at e1; cases e1
  | some q =>
    rw [hw] at e1
    obtain ⟨i', h3, h4⟩ := wput_at hC j q hw
    rw [hj] at h3
    cases h3
    rw [h4]
    exact e1.symm
theorem wput_join {A0 : Nat → Prop} {D : va_G} {cl : List vw_C} {ws wc w1 : va_W} {H H1 : Heap} (hP : va_P D cl ws H) (hD : va_D A0 ws) (isC : List Nat) (hC : isC.map (fun i => ws[i]?) = wc.map some) (hadr : w1.map Prod.fst = wc.map Prod.fst)
    (hk : ∀ q : Nat, q < H.size → ¬ va_A wc H.size q → H1[q]? = H[q]?) (hP1 : va_P D cl w1 H1) : va_P D cl (wput ws isC w1) H1 ∧ va_D A0 (wput ws isC w1) := by
  have hlC : isC.length = wc.length := by have := congrArg List.length hC; simpa using this
  have hl1 : w1.length = wc.length := by have := congrArg List.length hadr; simpa using this
  refine ⟨fun k q hq => ?_, hD.fst (wput_adr hC hadr)⟩
  rcases wput_in isC w1 ws (hlC.trans hl1.symm) k q hq with h1 | ⟨h1, h2⟩
  · obtain ⟨j, hj⟩ := List.getElem?_of_mem h1
    exact hP1 j q hj
  · have hlt := (hP k q h2).lt
    refine (hP k q h2).kept (hk q.1 hlt (fun h => ?_))
    rcases h with ⟨k2, e, h⟩ | h
    · obtain ⟨j, h3, h4⟩ := wput_at hC k2 (q.1, e) h
      have h5 := hD.1 k j q (q.1, e) h2 h4 rfl
      subst h5
      exact h1 (List.mem_of_getElem? h3)
    · omega
theorem wput_joinA {A0 : Nat → Prop} {D : va_G} {cl : List vw_C} {ws wc w1 wn : va_W} {H H1 : Heap} (hP : va_P D cl ws H) (hD : va_D A0 ws) (isC : List Nat) (hC : isC.map (fun i => ws[i]?) = wc.map some) (hadr : w1.map Prod.fst = wc.map Prod.fst)
    (hk : ∀ q : Nat, q < H.size → ¬ va_A wc H.size q → H1[q]? = H[q]?) (hF : ∀ q, va_A wc H.size q → A0 q) (hP1 : va_P D cl (w1 ++ wn) H1) (hD1 : va_D (va_A wc H.size) (w1 ++ wn)) : va_P D cl (wput ws isC w1 ++ wn) H1 ∧ va_D A0 (wput ws isC w1 ++ wn) := by
  have hP1a : va_P D cl w1 H1 := fun k q hq => hP1 k q (by rw [List.getElem?_append_left (List.getElem?_eq_some_iff.mp hq).1]; exact hq)
  have hr : ∀ (j : Nat) (q : Nat × va_E), wn[j]? = some q → (w1 ++ wn)[w1.length + j]? = some q := fun j q hq => by rw [List.getElem?_append_right (by omega), Nat.add_sub_cancel_left]; exact hq
  obtain ⟨p1, d1⟩ := wput_join hP hD isC hC hadr hk hP1a
  refine ⟨va_P.app p1 (fun k q hq => hP1 _ q (hr k q hq)), va_D.app d1 ⟨fun i j x y hx hy hxy => ?_, fun k q hq => hF _ (hD1.2 _ q (hr k q hq))⟩ (fun i j x y hx hy hxy => ?_)⟩
  · have := hD1.1 _ _ x y (hr i x hx) (hr j y hy) hxy
    omega
  · have h1 := wput_adr hC hadr i
    rw [hx] at h1
    cases hw : ws[i]? with
    | none => rw [hw] at h1; cases h1
    | some q =>
      rw [hw] at h1
      have h2 : x.1 = q.1 := Option.some.inj h1
      have hlt := (hP i q hw).lt
      rcases hD1.2 _ y (hr j y hy) with ⟨k2, e, h⟩ | h
      · have e1 : (w1.map Prod.fst)[k2]? = (wc.map Prod.fst)[k2]? := by rw [hadr]
        rw [List.getElem?_map, List.getElem?_map, h] at e1
        cases hw1 : w1[k2]? with
        | none => rw [hw1] at e1; cases e1
        | some z =>
          rw [hw1] at e1
          have h3 : z.1 = y.1 := Option.some.inj e1
          have hlk := (List.getElem?_eq_some_iff.mp hw1).1
          have h4 := hD1.1 k2 (w1.length + j) z y (by rw [List.getElem?_append_left hlk]; exact hw1) (hr j y hy) h3
          omega
      · omega
section GC
variable {B : Bx} {M : Mx} {cc : ByteArray} {nL n1 n2 : Nat} {own : String} {Q : State → Prop} {ws : va_W} {lv : List (Nat × Value)} {pc : Nat} {st rest : List Value}
theorem g_callVv {S : Type} (X : CX B M cc nL own) {ok : S → Prop} {ws1 : S → va_W} {y : MethodName} {b : ByteArray} {n index : Nat} {rm : Room} {As : List Value} {wc : va_W} {a q0 ci N : Nat} {T : u_T} {fs : List Value} (hM : Cv (m_l M) B y b n rm (.ref a :: As) wc ok ws1)
    (hlink : Cond.methodLink own index y ∈ W0) (hinst : Cond.instanceMethod y ∈ W0) (hsel : Cond.selects y.cls y y ∈ W0) (hini : Cond.initialized y.cls ∈ W0) (hcode : Cond.code y b n none ∈ W0) (hd : y.cls ≠ "java/lang/invoke/MethodHandle" ∧ y.cls ≠ "java/lang/invoke/VarHandle" ∧ (parseMethodDescriptor y.desc).map (fun d => d.parameters.length) = some As.length)
    (isC : List Nat) (hnC : va_nd isC = true) (hC : isC.map (fun i => ws[i]?) = wc.map some) (ad : List Nat) (hadr : ∀ u : S, (ws1 u).map Prod.fst = ad) (hadc : wc.map Prod.fst = ad) (he : ws[q0]? = some (a, .inr (ci, fs))) (hci : classes[ci]? = some (y.cls, T, N)) 
    (hroom : rm.frames + 1 ≤ (m_R M).frames ∧ 8 + (n + 11) + rm.locals ≤ (m_R M).locals) (hcs : n1 + rm.cells ≤ (m_R M).cells ∧ n2 + rm.slots ≤ (m_R M).slots) (hst : st = As.reverse ++ .ref a :: rest) (hrs : (rest.map fun v => v.category).sum ≤ 8) (hdg : decode cc pc = .ok (.invokevirtual index, 3))
    (kk : ∀ (u : S), ok u → G B M nL (n1 + rm.cells) (n2 + rm.slots) Q (wput ws isC (ws1 u)) lv (pc + 3) (rest)) : G B M nL n1 n2 Q ws lv pc st := by
  intro H locs ls hP hD hS hl
  subst hst
  have hFc := va_free (wc := wc) hD hS X.A isC hC
  refine va_callv (va_runV (As := As) (rest := rest) ⟨X.x, X.b, X.n, X.o, X.t⟩ (hM H.size) ⟨callB_of As.length X.t (W0_good hcode) rfl rfl rfl (X.t _ hini) (X.t _ hlink) hd hroom, X.t _ hinst, X.t _ hsel⟩ ⟨PreW.blind _ _ _, va_recv X.k hP hci he, PreW.at X (.ref a :: As) hP hD hS hnC hC⟩ rfl rfl hl.1 rfl (lv_room hrs) hdg hcs) hS (fun q _ h => hFc q h) hFc (fun u t H1 locs1 ht hvm hw hB hz1 hk1 hS1 => ?_)
  obtain ⟨hP1, hK1, hD1⟩ := hB
  rw [ht] at hP1
  obtain ⟨hP2, hD2⟩ := wput_join (w1 := ws1 u) hP hD isC hC ((hadr u).trans hadc.symm) hk1 hP1
  skip
  exact kk u hw H1 locs1 ls hP2 hD2 hS1 hl
theorem g_callVi {S : Type} (X : CX B M cc nL own) {ok : Int32 → S → Prop} {rt : FieldType} {ws1 : S → va_W} {y : MethodName} {b : ByteArray} {n index : Nat} {rm : Room} {As : List Value} {wc : va_W} {a q0 ci N : Nat} {T : u_T} {fs : List Value} (hM : Ci (m_l M) B y b n rt rm (.ref a :: As) wc ok ws1)
    (hlink : Cond.methodLink own index y ∈ W0) (hinst : Cond.instanceMethod y ∈ W0) (hsel : Cond.selects y.cls y y ∈ W0) (hini : Cond.initialized y.cls ∈ W0) (hcode : Cond.code y b n (some rt) ∈ W0) (hd : y.cls ≠ "java/lang/invoke/MethodHandle" ∧ y.cls ≠ "java/lang/invoke/VarHandle" ∧ (parseMethodDescriptor y.desc).map (fun d => d.parameters.length) = some As.length)
    (isC : List Nat) (hnC : va_nd isC = true) (hC : isC.map (fun i => ws[i]?) = wc.map some) (ad : List Nat) (hadr : ∀ u : S, (ws1 u).map Prod.fst = ad) (hadc : wc.map Prod.fst = ad) (he : ws[q0]? = some (a, .inr (ci, fs))) (hci : classes[ci]? = some (y.cls, T, N)) 
    (hroom : rm.frames + 1 ≤ (m_R M).frames ∧ 8 + (n + 11) + rm.locals ≤ (m_R M).locals) (hcs : n1 + rm.cells ≤ (m_R M).cells ∧ n2 + rm.slots ≤ (m_R M).slots) (hst : st = As.reverse ++ .ref a :: rest) (hrs : (rest.map fun v => v.category).sum ≤ 8) (hdg : decode cc pc = .ok (.invokevirtual index, 3))
    (kk : ∀ (r : Int32) (u : S), ok r u → G B M nL (n1 + rm.cells) (n2 + rm.slots) Q (wput ws isC (ws1 u)) lv (pc + 3) (.int r :: rest)) : G B M nL n1 n2 Q ws lv pc st := by
  intro H locs ls hP hD hS hl
  subst hst
  have hFc := va_free (wc := wc) hD hS X.A isC hC
  refine va_calli (va_runV (As := As) (rest := rest) ⟨X.x, X.b, X.n, X.o, X.t⟩ (hM H.size) ⟨callB_of As.length X.t (W0_good hcode) rfl rfl rfl (X.t _ hini) (X.t _ hlink) hd hroom, X.t _ hinst, X.t _ hsel⟩ ⟨PreW.blind _ _ _, va_recv X.k hP hci he, PreW.at X (.ref a :: As) hP hD hS hnC hC⟩ rfl rfl hl.1 rfl (lv_room hrs) hdg hcs) hS (fun q _ h => hFc q h) hFc (fun r u t H1 locs1 ht hvm hw hB hz1 hk1 hS1 => ?_)
  obtain ⟨hP1, hK1, hD1⟩ := hB
  rw [ht] at hP1
  obtain ⟨hP2, hD2⟩ := wput_join (w1 := ws1 u) hP hD isC hC ((hadr u).trans hadc.symm) hk1 hP1
  skip
  exact kk r u hw H1 locs1 ls hP2 hD2 hS1 hl
theorem g_callVl {S : Type} (X : CX B M cc nL own) {ok : Int64 → S → Prop} {ws1 : S → va_W} {y : MethodName} {b : ByteArray} {n index : Nat} {rm : Room} {As : List Value} {wc : va_W} {a q0 ci N : Nat} {T : u_T} {fs : List Value} (hM : Cl (m_l M) B y b n rm (.ref a :: As) wc ok ws1)
    (hlink : Cond.methodLink own index y ∈ W0) (hinst : Cond.instanceMethod y ∈ W0) (hsel : Cond.selects y.cls y y ∈ W0) (hini : Cond.initialized y.cls ∈ W0) (hcode : Cond.code y b n (some .long) ∈ W0) (hd : y.cls ≠ "java/lang/invoke/MethodHandle" ∧ y.cls ≠ "java/lang/invoke/VarHandle" ∧ (parseMethodDescriptor y.desc).map (fun d => d.parameters.length) = some As.length)
    (isC : List Nat) (hnC : va_nd isC = true) (hC : isC.map (fun i => ws[i]?) = wc.map some) (ad : List Nat) (hadr : ∀ u : S, (ws1 u).map Prod.fst = ad) (hadc : wc.map Prod.fst = ad) (he : ws[q0]? = some (a, .inr (ci, fs))) (hci : classes[ci]? = some (y.cls, T, N)) 
    (hroom : rm.frames + 1 ≤ (m_R M).frames ∧ 8 + (n + 11) + rm.locals ≤ (m_R M).locals) (hcs : n1 + rm.cells ≤ (m_R M).cells ∧ n2 + rm.slots ≤ (m_R M).slots) (hst : st = As.reverse ++ .ref a :: rest) (hrs : (rest.map fun v => v.category).sum ≤ 8) (hdg : decode cc pc = .ok (.invokevirtual index, 3))
    (kk : ∀ (r : Int64) (u : S), ok r u → G B M nL (n1 + rm.cells) (n2 + rm.slots) Q (wput ws isC (ws1 u)) lv (pc + 3) (.long r :: rest)) : G B M nL n1 n2 Q ws lv pc st := by
  intro H locs ls hP hD hS hl
  subst hst
  have hFc := va_free (wc := wc) hD hS X.A isC hC
  refine va_calll (va_runV (As := As) (rest := rest) ⟨X.x, X.b, X.n, X.o, X.t⟩ (hM H.size) ⟨callB_of As.length X.t (W0_good hcode) rfl rfl rfl (X.t _ hini) (X.t _ hlink) hd hroom, X.t _ hinst, X.t _ hsel⟩ ⟨PreW.blind _ _ _, va_recv X.k hP hci he, PreW.at X (.ref a :: As) hP hD hS hnC hC⟩ rfl rfl hl.1 rfl (lv_room hrs) hdg hcs) hS (fun q _ h => hFc q h) hFc (fun r u t H1 locs1 ht hvm hw hB hz1 hk1 hS1 => ?_)
  obtain ⟨hP1, hK1, hD1⟩ := hB
  rw [ht] at hP1
  obtain ⟨hP2, hD2⟩ := wput_join (w1 := ws1 u) hP hD isC hC ((hadr u).trans hadc.symm) hk1 hP1
  skip
  exact kk r u hw H1 locs1 ls hP2 hD2 hS1 hl
theorem g_callVr {S : Type} (X : CX B M cc nL own) {ok : S → Prop} {ra : S → Nat} {rt : FieldType} {ws1 : S → va_W} {y : MethodName} {b : ByteArray} {n index : Nat} {rm : Room} {As : List Value} {wc : va_W} {a q0 ci N : Nat} {T : u_T} {fs : List Value} (hM : Cr (m_l M) B y b n rt rm (.ref a :: As) wc ok ra ws1)
    (hlink : Cond.methodLink own index y ∈ W0) (hinst : Cond.instanceMethod y ∈ W0) (hsel : Cond.selects y.cls y y ∈ W0) (hini : Cond.initialized y.cls ∈ W0) (hcode : Cond.code y b n (some rt) ∈ W0) (hd : y.cls ≠ "java/lang/invoke/MethodHandle" ∧ y.cls ≠ "java/lang/invoke/VarHandle" ∧ (parseMethodDescriptor y.desc).map (fun d => d.parameters.length) = some As.length)
    (isC : List Nat) (hnC : va_nd isC = true) (hC : isC.map (fun i => ws[i]?) = wc.map some) (ad : List Nat) (hadr : ∀ u : S, (ws1 u).map Prod.fst = ad) (hadc : wc.map Prod.fst = ad) (he : ws[q0]? = some (a, .inr (ci, fs))) (hci : classes[ci]? = some (y.cls, T, N)) 
    (hroom : rm.frames + 1 ≤ (m_R M).frames ∧ 8 + (n + 11) + rm.locals ≤ (m_R M).locals) (hcs : n1 + rm.cells ≤ (m_R M).cells ∧ n2 + rm.slots ≤ (m_R M).slots) (hst : st = As.reverse ++ .ref a :: rest) (hrs : (rest.map fun v => v.category).sum ≤ 8) (hdg : decode cc pc = .ok (.invokevirtual index, 3))
    (kk : ∀ (u : S), ok u → G B M nL (n1 + rm.cells) (n2 + rm.slots) Q (wput ws isC (ws1 u)) lv (pc + 3) (.ref (ra u) :: rest)) : G B M nL n1 n2 Q ws lv pc st := by
  intro H locs ls hP hD hS hl
  subst hst
  have hFc := va_free (wc := wc) hD hS X.A isC hC
  refine va_callr (va_runV (As := As) (rest := rest) ⟨X.x, X.b, X.n, X.o, X.t⟩ (hM H.size) ⟨callB_of As.length X.t (W0_good hcode) rfl rfl rfl (X.t _ hini) (X.t _ hlink) hd hroom, X.t _ hinst, X.t _ hsel⟩ ⟨PreW.blind _ _ _, va_recv X.k hP hci he, PreW.at X (.ref a :: As) hP hD hS hnC hC⟩ rfl rfl hl.1 rfl (lv_room hrs) hdg hcs) hS (fun q _ h => hFc q h) hFc (fun u ra9 t H1 locs1 ht hvm hw hB hz1 hk1 hS1 => ?_)
  obtain ⟨hra, hP1, hK1, hD1⟩ := hB
  rw [ht] at hP1
  obtain ⟨hP2, hD2⟩ := wput_join (w1 := ws1 u) hP hD isC hC ((hadr u).trans hadc.symm) hk1 hP1
  subst hra
  exact kk u hw H1 locs1 ls hP2 hD2 hS1 hl
theorem g_callVNv {S : Type} (X : CX B M cc nL own) {ok : S → Prop} {ws1 : S → va_W} {y : MethodName} {b : ByteArray} {n index : Nat} {rm : Room} {As : List Value} {wc : va_W} {host : String} {a q0 ci N : Nat} {T : u_T} {fs : List Value} (hM : Cv (m_l M) B y b n rm (.ref a :: As) wc ok ws1)
    (hlink : Cond.methodLinkNest own index y host ∈ nestWords) (hinst : Cond.instanceMethod y ∈ W0) (hsel : Cond.selects y.cls y y ∈ W0) (hini : Cond.initialized y.cls ∈ W0) (hcode : Cond.code y b n none ∈ W0) (hd : y.cls ≠ "java/lang/invoke/MethodHandle" ∧ y.cls ≠ "java/lang/invoke/VarHandle" ∧ (parseMethodDescriptor y.desc).map (fun d => d.parameters.length) = some As.length)
    (isC : List Nat) (hnC : va_nd isC = true) (hC : isC.map (fun i => ws[i]?) = wc.map some) (ad : List Nat) (hadr : ∀ u : S, (ws1 u).map Prod.fst = ad) (hadc : wc.map Prod.fst = ad) (he : ws[q0]? = some (a, .inr (ci, fs))) (hci : classes[ci]? = some (y.cls, T, N)) 
    (hroom : rm.frames + 1 ≤ (m_R M).frames ∧ 8 + (n + 11) + rm.locals ≤ (m_R M).locals) (hcs : n1 + rm.cells ≤ (m_R M).cells ∧ n2 + rm.slots ≤ (m_R M).slots) (hst : st = As.reverse ++ .ref a :: rest) (hrs : (rest.map fun v => v.category).sum ≤ 8) (hdg : decode cc pc = .ok (.invokevirtual index, 3))
    (kk : ∀ (u : S), ok u → G B M nL (n1 + rm.cells) (n2 + rm.slots) Q (wput ws isC (ws1 u)) lv (pc + 3) (rest)) : G B M nL n1 n2 Q ws lv pc st := by
  intro H locs ls hP hD hS hl
  subst hst
  have hFc := va_free (wc := wc) hD hS X.A isC hC
  refine va_callv (va_runVN (As := As) (rest := rest) ⟨X.x, X.b, X.n, X.o, X.t⟩ (hM H.size) ⟨va_cnB As.length X.t (W0_good hcode) rfl rfl rfl (X.s.2.1 _ hlink) (X.t _ hini) hd hroom, X.t _ hinst, X.t _ hsel⟩ ⟨PreW.blind _ _ _, va_recv X.k hP hci he, PreW.at X (.ref a :: As) hP hD hS hnC hC⟩ rfl rfl hl.1 rfl (lv_room hrs) hdg hcs) hS (fun q _ h => hFc q h) hFc (fun u t H1 locs1 ht hvm hw hB hz1 hk1 hS1 => ?_)
  obtain ⟨hP1, hK1, hD1⟩ := hB
  rw [ht] at hP1
  obtain ⟨hP2, hD2⟩ := wput_join (w1 := ws1 u) hP hD isC hC ((hadr u).trans hadc.symm) hk1 hP1
  skip
  exact kk u hw H1 locs1 ls hP2 hD2 hS1 hl
theorem g_callVNi {S : Type} (X : CX B M cc nL own) {ok : Int32 → S → Prop} {rt : FieldType} {ws1 : S → va_W} {y : MethodName} {b : ByteArray} {n index : Nat} {rm : Room} {As : List Value} {wc : va_W} {host : String} {a q0 ci N : Nat} {T : u_T} {fs : List Value} (hM : Ci (m_l M) B y b n rt rm (.ref a :: As) wc ok ws1)
    (hlink : Cond.methodLinkNest own index y host ∈ nestWords) (hinst : Cond.instanceMethod y ∈ W0) (hsel : Cond.selects y.cls y y ∈ W0) (hini : Cond.initialized y.cls ∈ W0) (hcode : Cond.code y b n (some rt) ∈ W0) (hd : y.cls ≠ "java/lang/invoke/MethodHandle" ∧ y.cls ≠ "java/lang/invoke/VarHandle" ∧ (parseMethodDescriptor y.desc).map (fun d => d.parameters.length) = some As.length)
    (isC : List Nat) (hnC : va_nd isC = true) (hC : isC.map (fun i => ws[i]?) = wc.map some) (ad : List Nat) (hadr : ∀ u : S, (ws1 u).map Prod.fst = ad) (hadc : wc.map Prod.fst = ad) (he : ws[q0]? = some (a, .inr (ci, fs))) (hci : classes[ci]? = some (y.cls, T, N)) 
    (hroom : rm.frames + 1 ≤ (m_R M).frames ∧ 8 + (n + 11) + rm.locals ≤ (m_R M).locals) (hcs : n1 + rm.cells ≤ (m_R M).cells ∧ n2 + rm.slots ≤ (m_R M).slots) (hst : st = As.reverse ++ .ref a :: rest) (hrs : (rest.map fun v => v.category).sum ≤ 8) (hdg : decode cc pc = .ok (.invokevirtual index, 3))
    (kk : ∀ (r : Int32) (u : S), ok r u → G B M nL (n1 + rm.cells) (n2 + rm.slots) Q (wput ws isC (ws1 u)) lv (pc + 3) (.int r :: rest)) : G B M nL n1 n2 Q ws lv pc st := by
  intro H locs ls hP hD hS hl
  subst hst
  have hFc := va_free (wc := wc) hD hS X.A isC hC
  refine va_calli (va_runVN (As := As) (rest := rest) ⟨X.x, X.b, X.n, X.o, X.t⟩ (hM H.size) ⟨va_cnB As.length X.t (W0_good hcode) rfl rfl rfl (X.s.2.1 _ hlink) (X.t _ hini) hd hroom, X.t _ hinst, X.t _ hsel⟩ ⟨PreW.blind _ _ _, va_recv X.k hP hci he, PreW.at X (.ref a :: As) hP hD hS hnC hC⟩ rfl rfl hl.1 rfl (lv_room hrs) hdg hcs) hS (fun q _ h => hFc q h) hFc (fun r u t H1 locs1 ht hvm hw hB hz1 hk1 hS1 => ?_)
  obtain ⟨hP1, hK1, hD1⟩ := hB
  rw [ht] at hP1
  obtain ⟨hP2, hD2⟩ := wput_join (w1 := ws1 u) hP hD isC hC ((hadr u).trans hadc.symm) hk1 hP1
  skip
  exact kk r u hw H1 locs1 ls hP2 hD2 hS1 hl
theorem g_callVNl {S : Type} (X : CX B M cc nL own) {ok : Int64 → S → Prop} {ws1 : S → va_W} {y : MethodName} {b : ByteArray} {n index : Nat} {rm : Room} {As : List Value} {wc : va_W} {host : String} {a q0 ci N : Nat} {T : u_T} {fs : List Value} (hM : Cl (m_l M) B y b n rm (.ref a :: As) wc ok ws1)
    (hlink : Cond.methodLinkNest own index y host ∈ nestWords) (hinst : Cond.instanceMethod y ∈ W0) (hsel : Cond.selects y.cls y y ∈ W0) (hini : Cond.initialized y.cls ∈ W0) (hcode : Cond.code y b n (some .long) ∈ W0) (hd : y.cls ≠ "java/lang/invoke/MethodHandle" ∧ y.cls ≠ "java/lang/invoke/VarHandle" ∧ (parseMethodDescriptor y.desc).map (fun d => d.parameters.length) = some As.length)
    (isC : List Nat) (hnC : va_nd isC = true) (hC : isC.map (fun i => ws[i]?) = wc.map some) (ad : List Nat) (hadr : ∀ u : S, (ws1 u).map Prod.fst = ad) (hadc : wc.map Prod.fst = ad) (he : ws[q0]? = some (a, .inr (ci, fs))) (hci : classes[ci]? = some (y.cls, T, N)) 
    (hroom : rm.frames + 1 ≤ (m_R M).frames ∧ 8 + (n + 11) + rm.locals ≤ (m_R M).locals) (hcs : n1 + rm.cells ≤ (m_R M).cells ∧ n2 + rm.slots ≤ (m_R M).slots) (hst : st = As.reverse ++ .ref a :: rest) (hrs : (rest.map fun v => v.category).sum ≤ 8) (hdg : decode cc pc = .ok (.invokevirtual index, 3))
    (kk : ∀ (r : Int64) (u : S), ok r u → G B M nL (n1 + rm.cells) (n2 + rm.slots) Q (wput ws isC (ws1 u)) lv (pc + 3) (.long r :: rest)) : G B M nL n1 n2 Q ws lv pc st := by
  intro H locs ls hP hD hS hl
  subst hst
  have hFc := va_free (wc := wc) hD hS X.A isC hC
  refine va_calll (va_runVN (As := As) (rest := rest) ⟨X.x, X.b, X.n, X.o, X.t⟩ (hM H.size) ⟨va_cnB As.length X.t (W0_good hcode) rfl rfl rfl (X.s.2.1 _ hlink) (X.t _ hini) hd hroom, X.t _ hinst, X.t _ hsel⟩ ⟨PreW.blind _ _ _, va_recv X.k hP hci he, PreW.at X (.ref a :: As) hP hD hS hnC hC⟩ rfl rfl hl.1 rfl (lv_room hrs) hdg hcs) hS (fun q _ h => hFc q h) hFc (fun r u t H1 locs1 ht hvm hw hB hz1 hk1 hS1 => ?_)
  obtain ⟨hP1, hK1, hD1⟩ := hB
  rw [ht] at hP1
  obtain ⟨hP2, hD2⟩ := wput_join (w1 := ws1 u) hP hD isC hC ((hadr u).trans hadc.symm) hk1 hP1
  skip
  exact kk r u hw H1 locs1 ls hP2 hD2 hS1 hl
theorem g_callVNr {S : Type} (X : CX B M cc nL own) {ok : S → Prop} {ra : S → Nat} {rt : FieldType} {ws1 : S → va_W} {y : MethodName} {b : ByteArray} {n index : Nat} {rm : Room} {As : List Value} {wc : va_W} {host : String} {a q0 ci N : Nat} {T : u_T} {fs : List Value} (hM : Cr (m_l M) B y b n rt rm (.ref a :: As) wc ok ra ws1)
    (hlink : Cond.methodLinkNest own index y host ∈ nestWords) (hinst : Cond.instanceMethod y ∈ W0) (hsel : Cond.selects y.cls y y ∈ W0) (hini : Cond.initialized y.cls ∈ W0) (hcode : Cond.code y b n (some rt) ∈ W0) (hd : y.cls ≠ "java/lang/invoke/MethodHandle" ∧ y.cls ≠ "java/lang/invoke/VarHandle" ∧ (parseMethodDescriptor y.desc).map (fun d => d.parameters.length) = some As.length)
    (isC : List Nat) (hnC : va_nd isC = true) (hC : isC.map (fun i => ws[i]?) = wc.map some) (ad : List Nat) (hadr : ∀ u : S, (ws1 u).map Prod.fst = ad) (hadc : wc.map Prod.fst = ad) (he : ws[q0]? = some (a, .inr (ci, fs))) (hci : classes[ci]? = some (y.cls, T, N)) 
    (hroom : rm.frames + 1 ≤ (m_R M).frames ∧ 8 + (n + 11) + rm.locals ≤ (m_R M).locals) (hcs : n1 + rm.cells ≤ (m_R M).cells ∧ n2 + rm.slots ≤ (m_R M).slots) (hst : st = As.reverse ++ .ref a :: rest) (hrs : (rest.map fun v => v.category).sum ≤ 8) (hdg : decode cc pc = .ok (.invokevirtual index, 3))
    (kk : ∀ (u : S), ok u → G B M nL (n1 + rm.cells) (n2 + rm.slots) Q (wput ws isC (ws1 u)) lv (pc + 3) (.ref (ra u) :: rest)) : G B M nL n1 n2 Q ws lv pc st := by
  intro H locs ls hP hD hS hl
  subst hst
  have hFc := va_free (wc := wc) hD hS X.A isC hC
  refine va_callr (va_runVN (As := As) (rest := rest) ⟨X.x, X.b, X.n, X.o, X.t⟩ (hM H.size) ⟨va_cnB As.length X.t (W0_good hcode) rfl rfl rfl (X.s.2.1 _ hlink) (X.t _ hini) hd hroom, X.t _ hinst, X.t _ hsel⟩ ⟨PreW.blind _ _ _, va_recv X.k hP hci he, PreW.at X (.ref a :: As) hP hD hS hnC hC⟩ rfl rfl hl.1 rfl (lv_room hrs) hdg hcs) hS (fun q _ h => hFc q h) hFc (fun u ra9 t H1 locs1 ht hvm hw hB hz1 hk1 hS1 => ?_)
  obtain ⟨hra, hP1, hK1, hD1⟩ := hB
  rw [ht] at hP1
  obtain ⟨hP2, hD2⟩ := wput_join (w1 := ws1 u) hP hD isC hC ((hadr u).trans hadc.symm) hk1 hP1
  subst hra
  exact kk u hw H1 locs1 ls hP2 hD2 hS1 hl
theorem g_callSv {S : Type} (X : CX B M cc nL own) {ok : S → Prop} {ws1 : S → va_W} {y : MethodName} {b : ByteArray} {n index : Nat} {rm : Room} {As : List Value} {wc : va_W} (hM : Cv (m_l M) B y b n rm As wc ok ws1)
    (hlink : Cond.methodLink own index y ∈ W0) (hstat : Cond.static y ∈ W0) (hini : Cond.initialized y.cls ∈ W0) (hcode : Cond.code y b n none ∈ W0) (hd : y.cls ≠ "java/lang/invoke/MethodHandle" ∧ y.cls ≠ "java/lang/invoke/VarHandle" ∧ (parseMethodDescriptor y.desc).map (fun d => d.parameters.length) = some As.length)
    (isC : List Nat) (hnC : va_nd isC = true) (hC : isC.map (fun i => ws[i]?) = wc.map some) (ad : List Nat) (hadr : ∀ u : S, (ws1 u).map Prod.fst = ad) (hadc : wc.map Prod.fst = ad) 
    (hroom : rm.frames + 1 ≤ (m_R M).frames ∧ 8 + (n + 11) + rm.locals ≤ (m_R M).locals) (hcs : n1 + rm.cells ≤ (m_R M).cells ∧ n2 + rm.slots ≤ (m_R M).slots) (hst : st = As.reverse ++ rest) (hrs : (rest.map fun v => v.category).sum ≤ 8) (hdg : decode cc pc = .ok (.invokestatic index, 3))
    (kk : ∀ (u : S), ok u → G B M nL (n1 + rm.cells) (n2 + rm.slots) Q (wput ws isC (ws1 u)) lv (pc + 3) (rest)) : G B M nL n1 n2 Q ws lv pc st := by
  intro H locs ls hP hD hS hl
  subst hst
  have hFc := va_free (wc := wc) hD hS X.A isC hC
  refine va_callv (va_runS (As := As) (rest := rest) ⟨X.x, X.b, X.n, X.o, X.t⟩ (hM H.size) ⟨callB_of As.length X.t (W0_good hcode) rfl rfl rfl (X.t _ hini) (X.t _ hlink) hd hroom, X.t _ hstat⟩ ⟨PreW.blind _ _ _, PreW.at X As hP hD hS hnC hC⟩ rfl rfl hl.1 rfl (lv_room hrs) hdg hcs) hS (fun q _ h => hFc q h) hFc (fun u t H1 locs1 ht hvm hw hB hz1 hk1 hS1 => ?_)
  obtain ⟨hP1, hK1, hD1⟩ := hB
  rw [ht] at hP1
  obtain ⟨hP2, hD2⟩ := wput_join (w1 := ws1 u) hP hD isC hC ((hadr u).trans hadc.symm) hk1 hP1
  skip
  exact kk u hw H1 locs1 ls hP2 hD2 hS1 hl
theorem g_callSi {S : Type} (X : CX B M cc nL own) {ok : Int32 → S → Prop} {rt : FieldType} {ws1 : S → va_W} {y : MethodName} {b : ByteArray} {n index : Nat} {rm : Room} {As : List Value} {wc : va_W} (hM : Ci (m_l M) B y b n rt rm As wc ok ws1)
    (hlink : Cond.methodLink own index y ∈ W0) (hstat : Cond.static y ∈ W0) (hini : Cond.initialized y.cls ∈ W0) (hcode : Cond.code y b n (some rt) ∈ W0) (hd : y.cls ≠ "java/lang/invoke/MethodHandle" ∧ y.cls ≠ "java/lang/invoke/VarHandle" ∧ (parseMethodDescriptor y.desc).map (fun d => d.parameters.length) = some As.length)
    (isC : List Nat) (hnC : va_nd isC = true) (hC : isC.map (fun i => ws[i]?) = wc.map some) (ad : List Nat) (hadr : ∀ u : S, (ws1 u).map Prod.fst = ad) (hadc : wc.map Prod.fst = ad) 
    (hroom : rm.frames + 1 ≤ (m_R M).frames ∧ 8 + (n + 11) + rm.locals ≤ (m_R M).locals) (hcs : n1 + rm.cells ≤ (m_R M).cells ∧ n2 + rm.slots ≤ (m_R M).slots) (hst : st = As.reverse ++ rest) (hrs : (rest.map fun v => v.category).sum ≤ 8) (hdg : decode cc pc = .ok (.invokestatic index, 3))
    (kk : ∀ (r : Int32) (u : S), ok r u → G B M nL (n1 + rm.cells) (n2 + rm.slots) Q (wput ws isC (ws1 u)) lv (pc + 3) (.int r :: rest)) : G B M nL n1 n2 Q ws lv pc st := by
  intro H locs ls hP hD hS hl
  subst hst
  have hFc := va_free (wc := wc) hD hS X.A isC hC
  refine va_calli (va_runS (As := As) (rest := rest) ⟨X.x, X.b, X.n, X.o, X.t⟩ (hM H.size) ⟨callB_of As.length X.t (W0_good hcode) rfl rfl rfl (X.t _ hini) (X.t _ hlink) hd hroom, X.t _ hstat⟩ ⟨PreW.blind _ _ _, PreW.at X As hP hD hS hnC hC⟩ rfl rfl hl.1 rfl (lv_room hrs) hdg hcs) hS (fun q _ h => hFc q h) hFc (fun r u t H1 locs1 ht hvm hw hB hz1 hk1 hS1 => ?_)
  obtain ⟨hP1, hK1, hD1⟩ := hB
  rw [ht] at hP1
  obtain ⟨hP2, hD2⟩ := wput_join (w1 := ws1 u) hP hD isC hC ((hadr u).trans hadc.symm) hk1 hP1
  skip
  exact kk r u hw H1 locs1 ls hP2 hD2 hS1 hl
theorem g_callSl {S : Type} (X : CX B M cc nL own) {ok : Int64 → S → Prop} {ws1 : S → va_W} {y : MethodName} {b : ByteArray} {n index : Nat} {rm : Room} {As : List Value} {wc : va_W} (hM : Cl (m_l M) B y b n rm As wc ok ws1)
    (hlink : Cond.methodLink own index y ∈ W0) (hstat : Cond.static y ∈ W0) (hini : Cond.initialized y.cls ∈ W0) (hcode : Cond.code y b n (some .long) ∈ W0) (hd : y.cls ≠ "java/lang/invoke/MethodHandle" ∧ y.cls ≠ "java/lang/invoke/VarHandle" ∧ (parseMethodDescriptor y.desc).map (fun d => d.parameters.length) = some As.length)
    (isC : List Nat) (hnC : va_nd isC = true) (hC : isC.map (fun i => ws[i]?) = wc.map some) (ad : List Nat) (hadr : ∀ u : S, (ws1 u).map Prod.fst = ad) (hadc : wc.map Prod.fst = ad) 
    (hroom : rm.frames + 1 ≤ (m_R M).frames ∧ 8 + (n + 11) + rm.locals ≤ (m_R M).locals) (hcs : n1 + rm.cells ≤ (m_R M).cells ∧ n2 + rm.slots ≤ (m_R M).slots) (hst : st = As.reverse ++ rest) (hrs : (rest.map fun v => v.category).sum ≤ 8) (hdg : decode cc pc = .ok (.invokestatic index, 3))
    (kk : ∀ (r : Int64) (u : S), ok r u → G B M nL (n1 + rm.cells) (n2 + rm.slots) Q (wput ws isC (ws1 u)) lv (pc + 3) (.long r :: rest)) : G B M nL n1 n2 Q ws lv pc st := by
  intro H locs ls hP hD hS hl
  subst hst
  have hFc := va_free (wc := wc) hD hS X.A isC hC
  refine va_calll (va_runS (As := As) (rest := rest) ⟨X.x, X.b, X.n, X.o, X.t⟩ (hM H.size) ⟨callB_of As.length X.t (W0_good hcode) rfl rfl rfl (X.t _ hini) (X.t _ hlink) hd hroom, X.t _ hstat⟩ ⟨PreW.blind _ _ _, PreW.at X As hP hD hS hnC hC⟩ rfl rfl hl.1 rfl (lv_room hrs) hdg hcs) hS (fun q _ h => hFc q h) hFc (fun r u t H1 locs1 ht hvm hw hB hz1 hk1 hS1 => ?_)
  obtain ⟨hP1, hK1, hD1⟩ := hB
  rw [ht] at hP1
  obtain ⟨hP2, hD2⟩ := wput_join (w1 := ws1 u) hP hD isC hC ((hadr u).trans hadc.symm) hk1 hP1
  skip
  exact kk r u hw H1 locs1 ls hP2 hD2 hS1 hl
theorem g_callSr {S : Type} (X : CX B M cc nL own) {ok : S → Prop} {ra : S → Nat} {rt : FieldType} {ws1 : S → va_W} {y : MethodName} {b : ByteArray} {n index : Nat} {rm : Room} {As : List Value} {wc : va_W} (hM : Cr (m_l M) B y b n rt rm As wc ok ra ws1)
    (hlink : Cond.methodLink own index y ∈ W0) (hstat : Cond.static y ∈ W0) (hini : Cond.initialized y.cls ∈ W0) (hcode : Cond.code y b n (some rt) ∈ W0) (hd : y.cls ≠ "java/lang/invoke/MethodHandle" ∧ y.cls ≠ "java/lang/invoke/VarHandle" ∧ (parseMethodDescriptor y.desc).map (fun d => d.parameters.length) = some As.length)
    (isC : List Nat) (hnC : va_nd isC = true) (hC : isC.map (fun i => ws[i]?) = wc.map some) (ad : List Nat) (hadr : ∀ u : S, (ws1 u).map Prod.fst = ad) (hadc : wc.map Prod.fst = ad) 
    (hroom : rm.frames + 1 ≤ (m_R M).frames ∧ 8 + (n + 11) + rm.locals ≤ (m_R M).locals) (hcs : n1 + rm.cells ≤ (m_R M).cells ∧ n2 + rm.slots ≤ (m_R M).slots) (hst : st = As.reverse ++ rest) (hrs : (rest.map fun v => v.category).sum ≤ 8) (hdg : decode cc pc = .ok (.invokestatic index, 3))
    (kk : ∀ (u : S), ok u → G B M nL (n1 + rm.cells) (n2 + rm.slots) Q (wput ws isC (ws1 u)) lv (pc + 3) (.ref (ra u) :: rest)) : G B M nL n1 n2 Q ws lv pc st := by
  intro H locs ls hP hD hS hl
  subst hst
  have hFc := va_free (wc := wc) hD hS X.A isC hC
  refine va_callr (va_runS (As := As) (rest := rest) ⟨X.x, X.b, X.n, X.o, X.t⟩ (hM H.size) ⟨callB_of As.length X.t (W0_good hcode) rfl rfl rfl (X.t _ hini) (X.t _ hlink) hd hroom, X.t _ hstat⟩ ⟨PreW.blind _ _ _, PreW.at X As hP hD hS hnC hC⟩ rfl rfl hl.1 rfl (lv_room hrs) hdg hcs) hS (fun q _ h => hFc q h) hFc (fun u ra9 t H1 locs1 ht hvm hw hB hz1 hk1 hS1 => ?_)
  obtain ⟨hra, hP1, hK1, hD1⟩ := hB
  rw [ht] at hP1
  obtain ⟨hP2, hD2⟩ := wput_join (w1 := ws1 u) hP hD isC hC ((hadr u).trans hadc.symm) hk1 hP1
  subst hra
  exact kk u hw H1 locs1 ls hP2 hD2 hS1 hl
theorem g_callSNv {S : Type} (X : CX B M cc nL own) {ok : S → Prop} {ws1 : S → va_W} {y : MethodName} {b : ByteArray} {n index : Nat} {rm : Room} {As : List Value} {wc : va_W} {host : String} (hM : Cv (m_l M) B y b n rm As wc ok ws1)
    (hlink : Cond.methodLinkNest own index y host ∈ nestWords) (hstat : Cond.static y ∈ W0) (hini : Cond.initialized y.cls ∈ W0) (hcode : Cond.code y b n none ∈ W0) (hd : y.cls ≠ "java/lang/invoke/MethodHandle" ∧ y.cls ≠ "java/lang/invoke/VarHandle" ∧ (parseMethodDescriptor y.desc).map (fun d => d.parameters.length) = some As.length)
    (isC : List Nat) (hnC : va_nd isC = true) (hC : isC.map (fun i => ws[i]?) = wc.map some) (ad : List Nat) (hadr : ∀ u : S, (ws1 u).map Prod.fst = ad) (hadc : wc.map Prod.fst = ad) 
    (hroom : rm.frames + 1 ≤ (m_R M).frames ∧ 8 + (n + 11) + rm.locals ≤ (m_R M).locals) (hcs : n1 + rm.cells ≤ (m_R M).cells ∧ n2 + rm.slots ≤ (m_R M).slots) (hst : st = As.reverse ++ rest) (hrs : (rest.map fun v => v.category).sum ≤ 8) (hdg : decode cc pc = .ok (.invokestatic index, 3))
    (kk : ∀ (u : S), ok u → G B M nL (n1 + rm.cells) (n2 + rm.slots) Q (wput ws isC (ws1 u)) lv (pc + 3) (rest)) : G B M nL n1 n2 Q ws lv pc st := by
  intro H locs ls hP hD hS hl
  subst hst
  have hFc := va_free (wc := wc) hD hS X.A isC hC
  refine va_callv (va_runSN (As := As) (rest := rest) ⟨X.x, X.b, X.n, X.o, X.t⟩ (hM H.size) ⟨va_cnB As.length X.t (W0_good hcode) rfl rfl rfl (X.s.2.1 _ hlink) (X.t _ hini) hd hroom, X.t _ hstat, trivial⟩ ⟨PreW.blind _ _ _, PreW.at X As hP hD hS hnC hC⟩ rfl rfl hl.1 rfl (lv_room hrs) hdg hcs) hS (fun q _ h => hFc q h) hFc (fun u t H1 locs1 ht hvm hw hB hz1 hk1 hS1 => ?_)
  obtain ⟨hP1, hK1, hD1⟩ := hB
  rw [ht] at hP1
  obtain ⟨hP2, hD2⟩ := wput_join (w1 := ws1 u) hP hD isC hC ((hadr u).trans hadc.symm) hk1 hP1
  skip
  exact kk u hw H1 locs1 ls hP2 hD2 hS1 hl
theorem g_callSNi {S : Type} (X : CX B M cc nL own) {ok : Int32 → S → Prop} {rt : FieldType} {ws1 : S → va_W} {y : MethodName} {b : ByteArray} {n index : Nat} {rm : Room} {As : List Value} {wc : va_W} {host : String} (hM : Ci (m_l M) B y b n rt rm As wc ok ws1)
    (hlink : Cond.methodLinkNest own index y host ∈ nestWords) (hstat : Cond.static y ∈ W0) (hini : Cond.initialized y.cls ∈ W0) (hcode : Cond.code y b n (some rt) ∈ W0) (hd : y.cls ≠ "java/lang/invoke/MethodHandle" ∧ y.cls ≠ "java/lang/invoke/VarHandle" ∧ (parseMethodDescriptor y.desc).map (fun d => d.parameters.length) = some As.length)
    (isC : List Nat) (hnC : va_nd isC = true) (hC : isC.map (fun i => ws[i]?) = wc.map some) (ad : List Nat) (hadr : ∀ u : S, (ws1 u).map Prod.fst = ad) (hadc : wc.map Prod.fst = ad) 
    (hroom : rm.frames + 1 ≤ (m_R M).frames ∧ 8 + (n + 11) + rm.locals ≤ (m_R M).locals) (hcs : n1 + rm.cells ≤ (m_R M).cells ∧ n2 + rm.slots ≤ (m_R M).slots) (hst : st = As.reverse ++ rest) (hrs : (rest.map fun v => v.category).sum ≤ 8) (hdg : decode cc pc = .ok (.invokestatic index, 3))
    (kk : ∀ (r : Int32) (u : S), ok r u → G B M nL (n1 + rm.cells) (n2 + rm.slots) Q (wput ws isC (ws1 u)) lv (pc + 3) (.int r :: rest)) : G B M nL n1 n2 Q ws lv pc st := by
  intro H locs ls hP hD hS hl
  subst hst
  have hFc := va_free (wc := wc) hD hS X.A isC hC
  refine va_calli (va_runSN (As := As) (rest := rest) ⟨X.x, X.b, X.n, X.o, X.t⟩ (hM H.size) ⟨va_cnB As.length X.t (W0_good hcode) rfl rfl rfl (X.s.2.1 _ hlink) (X.t _ hini) hd hroom, X.t _ hstat, trivial⟩ ⟨PreW.blind _ _ _, PreW.at X As hP hD hS hnC hC⟩ rfl rfl hl.1 rfl (lv_room hrs) hdg hcs) hS (fun q _ h => hFc q h) hFc (fun r u t H1 locs1 ht hvm hw hB hz1 hk1 hS1 => ?_)
  obtain ⟨hP1, hK1, hD1⟩ := hB
  rw [ht] at hP1
  obtain ⟨hP2, hD2⟩ := wput_join (w1 := ws1 u) hP hD isC hC ((hadr u).trans hadc.symm) hk1 hP1
  skip
  exact kk r u hw H1 locs1 ls hP2 hD2 hS1 hl
theorem g_callSNl {S : Type} (X : CX B M cc nL own) {ok : Int64 → S → Prop} {ws1 : S → va_W} {y : MethodName} {b : ByteArray} {n index : Nat} {rm : Room} {As : List Value} {wc : va_W} {host : String} (hM : Cl (m_l M) B y b n rm As wc ok ws1)
    (hlink : Cond.methodLinkNest own index y host ∈ nestWords) (hstat : Cond.static y ∈ W0) (hini : Cond.initialized y.cls ∈ W0) (hcode : Cond.code y b n (some .long) ∈ W0) (hd : y.cls ≠ "java/lang/invoke/MethodHandle" ∧ y.cls ≠ "java/lang/invoke/VarHandle" ∧ (parseMethodDescriptor y.desc).map (fun d => d.parameters.length) = some As.length)
    (isC : List Nat) (hnC : va_nd isC = true) (hC : isC.map (fun i => ws[i]?) = wc.map some) (ad : List Nat) (hadr : ∀ u : S, (ws1 u).map Prod.fst = ad) (hadc : wc.map Prod.fst = ad) 
    (hroom : rm.frames + 1 ≤ (m_R M).frames ∧ 8 + (n + 11) + rm.locals ≤ (m_R M).locals) (hcs : n1 + rm.cells ≤ (m_R M).cells ∧ n2 + rm.slots ≤ (m_R M).slots) (hst : st = As.reverse ++ rest) (hrs : (rest.map fun v => v.category).sum ≤ 8) (hdg : decode cc pc = .ok (.invokestatic index, 3))
    (kk : ∀ (r : Int64) (u : S), ok r u → G B M nL (n1 + rm.cells) (n2 + rm.slots) Q (wput ws isC (ws1 u)) lv (pc + 3) (.long r :: rest)) : G B M nL n1 n2 Q ws lv pc st := by
  intro H locs ls hP hD hS hl
  subst hst
  have hFc := va_free (wc := wc) hD hS X.A isC hC
  refine va_calll (va_runSN (As := As) (rest := rest) ⟨X.x, X.b, X.n, X.o, X.t⟩ (hM H.size) ⟨va_cnB As.length X.t (W0_good hcode) rfl rfl rfl (X.s.2.1 _ hlink) (X.t _ hini) hd hroom, X.t _ hstat, trivial⟩ ⟨PreW.blind _ _ _, PreW.at X As hP hD hS hnC hC⟩ rfl rfl hl.1 rfl (lv_room hrs) hdg hcs) hS (fun q _ h => hFc q h) hFc (fun r u t H1 locs1 ht hvm hw hB hz1 hk1 hS1 => ?_)
  obtain ⟨hP1, hK1, hD1⟩ := hB
  rw [ht] at hP1
  obtain ⟨hP2, hD2⟩ := wput_join (w1 := ws1 u) hP hD isC hC ((hadr u).trans hadc.symm) hk1 hP1
  skip
  exact kk r u hw H1 locs1 ls hP2 hD2 hS1 hl
theorem g_callSNr {S : Type} (X : CX B M cc nL own) {ok : S → Prop} {ra : S → Nat} {rt : FieldType} {ws1 : S → va_W} {y : MethodName} {b : ByteArray} {n index : Nat} {rm : Room} {As : List Value} {wc : va_W} {host : String} (hM : Cr (m_l M) B y b n rt rm As wc ok ra ws1)
    (hlink : Cond.methodLinkNest own index y host ∈ nestWords) (hstat : Cond.static y ∈ W0) (hini : Cond.initialized y.cls ∈ W0) (hcode : Cond.code y b n (some rt) ∈ W0) (hd : y.cls ≠ "java/lang/invoke/MethodHandle" ∧ y.cls ≠ "java/lang/invoke/VarHandle" ∧ (parseMethodDescriptor y.desc).map (fun d => d.parameters.length) = some As.length)
    (isC : List Nat) (hnC : va_nd isC = true) (hC : isC.map (fun i => ws[i]?) = wc.map some) (ad : List Nat) (hadr : ∀ u : S, (ws1 u).map Prod.fst = ad) (hadc : wc.map Prod.fst = ad) 
    (hroom : rm.frames + 1 ≤ (m_R M).frames ∧ 8 + (n + 11) + rm.locals ≤ (m_R M).locals) (hcs : n1 + rm.cells ≤ (m_R M).cells ∧ n2 + rm.slots ≤ (m_R M).slots) (hst : st = As.reverse ++ rest) (hrs : (rest.map fun v => v.category).sum ≤ 8) (hdg : decode cc pc = .ok (.invokestatic index, 3))
    (kk : ∀ (u : S), ok u → G B M nL (n1 + rm.cells) (n2 + rm.slots) Q (wput ws isC (ws1 u)) lv (pc + 3) (.ref (ra u) :: rest)) : G B M nL n1 n2 Q ws lv pc st := by
  intro H locs ls hP hD hS hl
  subst hst
  have hFc := va_free (wc := wc) hD hS X.A isC hC
  refine va_callr (va_runSN (As := As) (rest := rest) ⟨X.x, X.b, X.n, X.o, X.t⟩ (hM H.size) ⟨va_cnB As.length X.t (W0_good hcode) rfl rfl rfl (X.s.2.1 _ hlink) (X.t _ hini) hd hroom, X.t _ hstat, trivial⟩ ⟨PreW.blind _ _ _, PreW.at X As hP hD hS hnC hC⟩ rfl rfl hl.1 rfl (lv_room hrs) hdg hcs) hS (fun q _ h => hFc q h) hFc (fun u ra9 t H1 locs1 ht hvm hw hB hz1 hk1 hS1 => ?_)
  obtain ⟨hra, hP1, hK1, hD1⟩ := hB
  rw [ht] at hP1
  obtain ⟨hP2, hD2⟩ := wput_join (w1 := ws1 u) hP hD isC hC ((hadr u).trans hadc.symm) hk1 hP1
  subst hra
  exact kk u hw H1 locs1 ls hP2 hD2 hS1 hl
theorem g_callIv {S : Type} (X : CX B M cc nL own) {ok : S → Prop} {ws1 : S → va_W} {y : MethodName} {b : ByteArray} {n index : Nat} {rm : Room} {As : List Value} {wc : va_W} {a : Nat} (hM : Cv (m_l M) B y b n rm (.ref a :: As) wc ok ws1)
    (hlink : Cond.methodLink own index y ∈ W0) (hinst : Cond.instanceMethod y ∈ W0) (hnm : y.name = "<init>") (hini : Cond.initialized y.cls ∈ W0) (hcode : Cond.code y b n none ∈ W0) (hd : y.cls ≠ "java/lang/invoke/MethodHandle" ∧ y.cls ≠ "java/lang/invoke/VarHandle" ∧ (parseMethodDescriptor y.desc).map (fun d => d.parameters.length) = some As.length)
    (isC : List Nat) (hnC : va_nd isC = true) (hC : isC.map (fun i => ws[i]?) = wc.map some) (ad : List Nat) (hadr : ∀ u : S, (ws1 u).map Prod.fst = ad) (hadc : wc.map Prod.fst = ad) 
    (hroom : rm.frames + 1 ≤ (m_R M).frames ∧ 8 + (n + 11) + rm.locals ≤ (m_R M).locals) (hcs : n1 + rm.cells ≤ (m_R M).cells ∧ n2 + rm.slots ≤ (m_R M).slots) (hst : st = As.reverse ++ .ref a :: rest) (hrs : (rest.map fun v => v.category).sum ≤ 8) (hdg : decode cc pc = .ok (.invokespecial index, 3))
    (kk : ∀ (u : S), ok u → G B M nL (n1 + rm.cells) (n2 + rm.slots) Q (wput ws isC (ws1 u)) lv (pc + 3) (rest)) : G B M nL n1 n2 Q ws lv pc st := by
  intro H locs ls hP hD hS hl
  subst hst
  have hFc := va_free (wc := wc) hD hS X.A isC hC
  refine va_callv (va_runI (As := As) (rest := rest) ⟨X.x, X.b, X.n, X.o, X.t⟩ (hM H.size) ⟨callB_of As.length X.t (W0_good hcode) rfl rfl rfl (X.t _ hini) (X.t _ hlink) hd hroom, hnm, X.t _ hinst⟩ ⟨PreW.blind _ _ _, PreW.at X (.ref a :: As) hP hD hS hnC hC⟩ rfl rfl hl.1 rfl (lv_room hrs) hdg hcs) hS (fun q _ h => hFc q h) hFc (fun u t H1 locs1 ht hvm hw hB hz1 hk1 hS1 => ?_)
  obtain ⟨hP1, hK1, hD1⟩ := hB
  rw [ht] at hP1
  obtain ⟨hP2, hD2⟩ := wput_join (w1 := ws1 u) hP hD isC hC ((hadr u).trans hadc.symm) hk1 hP1
  skip
  exact kk u hw H1 locs1 ls hP2 hD2 hS1 hl
theorem g_callIvA {S : Type} (X : CX B M cc nL own) {ok : S → Prop} {ws1 : S → va_W} (wn : S → va_W) {y : MethodName} {b : ByteArray} {n index : Nat} {rm : Room} {As : List Value} {wc : va_W} {a : Nat} (hM : Cv (m_l M) B y b n rm (.ref a :: As) wc ok (fun u => ws1 u ++ wn u))
    (hlink : Cond.methodLink own index y ∈ W0) (hinst : Cond.instanceMethod y ∈ W0) (hnm : y.name = "<init>") (hini : Cond.initialized y.cls ∈ W0) (hcode : Cond.code y b n none ∈ W0) (hd : y.cls ≠ "java/lang/invoke/MethodHandle" ∧ y.cls ≠ "java/lang/invoke/VarHandle" ∧ (parseMethodDescriptor y.desc).map (fun d => d.parameters.length) = some As.length)
    (isC : List Nat) (hnC : va_nd isC = true) (hC : isC.map (fun i => ws[i]?) = wc.map some) (ad : List Nat) (hadr : ∀ u : S, (ws1 u).map Prod.fst = ad) (hadc : wc.map Prod.fst = ad) 
    (hroom : rm.frames + 1 ≤ (m_R M).frames ∧ 8 + (n + 11) + rm.locals ≤ (m_R M).locals) (hcs : n1 + rm.cells ≤ (m_R M).cells ∧ n2 + rm.slots ≤ (m_R M).slots) (hst : st = As.reverse ++ .ref a :: rest) (hrs : (rest.map fun v => v.category).sum ≤ 8) (hdg : decode cc pc = .ok (.invokespecial index, 3))
    (kk : ∀ (u : S), ok u → G B M nL (n1 + rm.cells) (n2 + rm.slots) Q (wput ws isC (ws1 u) ++ wn u) lv (pc + 3) (rest)) : G B M nL n1 n2 Q ws lv pc st := by
  intro H locs ls hP hD hS hl
  subst hst
  have hFc := va_free (wc := wc) hD hS X.A isC hC
  refine va_callv (va_runI (As := As) (rest := rest) ⟨X.x, X.b, X.n, X.o, X.t⟩ (hM H.size) ⟨callB_of As.length X.t (W0_good hcode) rfl rfl rfl (X.t _ hini) (X.t _ hlink) hd hroom, hnm, X.t _ hinst⟩ ⟨PreW.blind _ _ _, PreW.at X (.ref a :: As) hP hD hS hnC hC⟩ rfl rfl hl.1 rfl (lv_room hrs) hdg hcs) hS (fun q _ h => hFc q h) hFc (fun u t H1 locs1 ht hvm hw hB hz1 hk1 hS1 => ?_)
  obtain ⟨hP1, hK1, hD1⟩ := hB
  rw [ht] at hP1
  obtain ⟨hP2, hD2⟩ := wput_joinA (w1 := ws1 u) (wn := wn u) hP hD isC hC ((hadr u).trans hadc.symm) hk1 hFc hP1 hD1
  skip
  exact kk u hw H1 locs1 ls hP2 hD2 hS1 hl
theorem g_callINv {S : Type} (X : CX B M cc nL own) {ok : S → Prop} {ws1 : S → va_W} {y : MethodName} {b : ByteArray} {n index : Nat} {rm : Room} {As : List Value} {wc : va_W} {host : String} {a : Nat} (hM : Cv (m_l M) B y b n rm (.ref a :: As) wc ok ws1)
    (hlink : Cond.methodLinkNest own index y host ∈ nestWords) (hinst : Cond.instanceMethod y ∈ W0) (hnm : y.name = "<init>") (hini : Cond.initialized y.cls ∈ W0) (hcode : Cond.code y b n none ∈ W0) (hd : y.cls ≠ "java/lang/invoke/MethodHandle" ∧ y.cls ≠ "java/lang/invoke/VarHandle" ∧ (parseMethodDescriptor y.desc).map (fun d => d.parameters.length) = some As.length)
    (isC : List Nat) (hnC : va_nd isC = true) (hC : isC.map (fun i => ws[i]?) = wc.map some) (ad : List Nat) (hadr : ∀ u : S, (ws1 u).map Prod.fst = ad) (hadc : wc.map Prod.fst = ad) 
    (hroom : rm.frames + 1 ≤ (m_R M).frames ∧ 8 + (n + 11) + rm.locals ≤ (m_R M).locals) (hcs : n1 + rm.cells ≤ (m_R M).cells ∧ n2 + rm.slots ≤ (m_R M).slots) (hst : st = As.reverse ++ .ref a :: rest) (hrs : (rest.map fun v => v.category).sum ≤ 8) (hdg : decode cc pc = .ok (.invokespecial index, 3))
    (kk : ∀ (u : S), ok u → G B M nL (n1 + rm.cells) (n2 + rm.slots) Q (wput ws isC (ws1 u)) lv (pc + 3) (rest)) : G B M nL n1 n2 Q ws lv pc st := by
  intro H locs ls hP hD hS hl
  subst hst
  have hFc := va_free (wc := wc) hD hS X.A isC hC
  refine va_callv (va_runIN (As := As) (rest := rest) ⟨X.x, X.b, X.n, X.o, X.t⟩ (hM H.size) ⟨va_cnB As.length X.t (W0_good hcode) rfl rfl rfl (X.s.2.1 _ hlink) (X.t _ hini) hd hroom, hnm, X.t _ hinst⟩ ⟨PreW.blind _ _ _, PreW.at X (.ref a :: As) hP hD hS hnC hC⟩ rfl rfl hl.1 rfl (lv_room hrs) hdg hcs) hS (fun q _ h => hFc q h) hFc (fun u t H1 locs1 ht hvm hw hB hz1 hk1 hS1 => ?_)
  obtain ⟨hP1, hK1, hD1⟩ := hB
  rw [ht] at hP1
  obtain ⟨hP2, hD2⟩ := wput_join (w1 := ws1 u) hP hD isC hC ((hadr u).trans hadc.symm) hk1 hP1
  skip
  exact kk u hw H1 locs1 ls hP2 hD2 hS1 hl
theorem g_callINvA {S : Type} (X : CX B M cc nL own) {ok : S → Prop} {ws1 : S → va_W} (wn : S → va_W) {y : MethodName} {b : ByteArray} {n index : Nat} {rm : Room} {As : List Value} {wc : va_W} {host : String} {a : Nat} (hM : Cv (m_l M) B y b n rm (.ref a :: As) wc ok (fun u => ws1 u ++ wn u))
    (hlink : Cond.methodLinkNest own index y host ∈ nestWords) (hinst : Cond.instanceMethod y ∈ W0) (hnm : y.name = "<init>") (hini : Cond.initialized y.cls ∈ W0) (hcode : Cond.code y b n none ∈ W0) (hd : y.cls ≠ "java/lang/invoke/MethodHandle" ∧ y.cls ≠ "java/lang/invoke/VarHandle" ∧ (parseMethodDescriptor y.desc).map (fun d => d.parameters.length) = some As.length)
    (isC : List Nat) (hnC : va_nd isC = true) (hC : isC.map (fun i => ws[i]?) = wc.map some) (ad : List Nat) (hadr : ∀ u : S, (ws1 u).map Prod.fst = ad) (hadc : wc.map Prod.fst = ad) 
    (hroom : rm.frames + 1 ≤ (m_R M).frames ∧ 8 + (n + 11) + rm.locals ≤ (m_R M).locals) (hcs : n1 + rm.cells ≤ (m_R M).cells ∧ n2 + rm.slots ≤ (m_R M).slots) (hst : st = As.reverse ++ .ref a :: rest) (hrs : (rest.map fun v => v.category).sum ≤ 8) (hdg : decode cc pc = .ok (.invokespecial index, 3))
    (kk : ∀ (u : S), ok u → G B M nL (n1 + rm.cells) (n2 + rm.slots) Q (wput ws isC (ws1 u) ++ wn u) lv (pc + 3) (rest)) : G B M nL n1 n2 Q ws lv pc st := by
  intro H locs ls hP hD hS hl
  subst hst
  have hFc := va_free (wc := wc) hD hS X.A isC hC
  refine va_callv (va_runIN (As := As) (rest := rest) ⟨X.x, X.b, X.n, X.o, X.t⟩ (hM H.size) ⟨va_cnB As.length X.t (W0_good hcode) rfl rfl rfl (X.s.2.1 _ hlink) (X.t _ hini) hd hroom, hnm, X.t _ hinst⟩ ⟨PreW.blind _ _ _, PreW.at X (.ref a :: As) hP hD hS hnC hC⟩ rfl rfl hl.1 rfl (lv_room hrs) hdg hcs) hS (fun q _ h => hFc q h) hFc (fun u t H1 locs1 ht hvm hw hB hz1 hk1 hS1 => ?_)
  obtain ⟨hP1, hK1, hD1⟩ := hB
  rw [ht] at hP1
  obtain ⟨hP2, hD2⟩ := wput_joinA (w1 := ws1 u) (wn := wn u) hP hD isC hC ((hadr u).trans hadc.symm) hk1 hFc hP1 hD1
  skip
  exact kk u hw H1 locs1 ls hP2 hD2 hS1 hl
end GC
section GD
theorem ctr_v {S : Type} {l : Launch} {B : Bx} {y : MethodName} {b : ByteArray} {nL : Nat} {rm : Room} {av : List Value} {ws : va_W} {ok : S → Prop} {ws1 : S → va_W} (hy : plainName y.cls = true) (hav : (lg_sl av).length ≤ nL)
    (body : ∀ (M : Mx) (Q : State → Prop), m_l M = l → m_R M = rm → (m_h M).name = y.name → CX B M b nL y.cls → (∀ (u : S) (lv : List (Nat × Value)) (pc : Nat), ok u → decode b pc = .ok (.return_, 1) → G B M nL rm.cells rm.slots Q (ws1 u) lv pc []) → G B M nL 0 0 Q ws (lv_args 0 av) 0 []) : Cv l B y b nL rm av ws ok ws1 := by
  intro sz
  refine Met.ofW (cc := b) (maxL := nL) (ret := none) hy rfl ?_
  intro p e s m args below meth c s₁ Bd hml hv
  obtain ⟨rfl, hsz, hX, hP, hK, hD0⟩ := hv
  subst hsz
  have hin : meth.name = y.name := (name_of_methodNamed Bd.named Bd.method).1
  have hD := hD0.self (sz := s.heap.size)
  rw [lg_entry_eq]
  refine body (p, l, e, rm, s, m, av.toArray, below, meth, c, va_A ws s.heap.size) _ rfl rfl hin ⟨Bd.exec, Bd.bytes, hml, findClass_of_methodNamed Bd.named, fun w hw => atoms_spec (ws := Cond.code y b nL none :: W0) Bd.pre w (List.mem_cons_of_mem _ hw), hK, fun q h => Or.inr h, fun q h => ?_, hX⟩ ?_ s.heap [] _ hP hD va_S.rf (lv_entry av hav)
  · rcases h with ⟨k, e9, hk⟩ | h
    · exact hD0.2 k _ hk
    · exact Nat.le_trans hX.1 h
  · intro u lv pc hok hd H locs ls hP2 hD2 hS2 hl2
    exact W.vret Bd.exec Bd.bytes Bd.returns (fun t ht hW => ⟨⟨u, rfl, hok, by rw [ht]; exact hP2, va_K.moved hW.alike hK, hD2⟩, hS2.F ht⟩) hS2.2.2 hd Bd.notSynchronized
theorem ctr_i {S : Type} {l : Launch} {B : Bx} {y : MethodName} {b : ByteArray} {nL : Nat} {rm : Room} {av : List Value} {ws : va_W} {ok : Int32 → S → Prop} {ws1 : S → va_W} (hy : plainName y.cls = true) (hav : (lg_sl av).length ≤ nL)
    (body : ∀ (M : Mx) (Q : State → Prop), m_l M = l → m_R M = rm → (m_h M).name = y.name → CX B M b nL y.cls → (∀ (r : Int32) (u : S) (lv : List (Nat × Value)) (pc : Nat), ok r u → decode b pc = .ok (.ireturn, 1) → G B M nL rm.cells rm.slots Q (ws1 u) lv pc [.int r]) → G B M nL 0 0 Q ws (lv_args 0 av) 0 []) : Ci l B y b nL .int rm av ws ok ws1 := by
  intro sz
  refine Met.ofW (cc := b) (maxL := nL) (ret := (some .int)) hy rfl ?_
  intro p e s m args below meth c s₁ Bd hml hv
  obtain ⟨rfl, hsz, hX, hP, hK, hD0⟩ := hv
  subst hsz
  have hin : meth.name = y.name := (name_of_methodNamed Bd.named Bd.method).1
  have hD := hD0.self (sz := s.heap.size)
  rw [lg_entry_eq]
  refine body (p, l, e, rm, s, m, av.toArray, below, meth, c, va_A ws s.heap.size) _ rfl rfl hin ⟨Bd.exec, Bd.bytes, hml, findClass_of_methodNamed Bd.named, fun w hw => atoms_spec (ws := Cond.code y b nL (some .int) :: W0) Bd.pre w (List.mem_cons_of_mem _ hw), hK, fun q h => Or.inr h, fun q h => ?_, hX⟩ ?_ s.heap [] _ hP hD va_S.rf (lv_entry av hav)
  · rcases h with ⟨k, e9, hk⟩ | h
    · exact hD0.2 k _ hk
    · exact Nat.le_trans hX.1 h
  · intro r u lv pc hok hd H locs ls hP2 hD2 hS2 hl2
    exact W.iret Bd.exec Bd.bytes Bd.returns (fun t ht hW => ⟨⟨r, u, rfl, hok, by rw [ht]; exact hP2, va_K.moved hW.alike hK, hD2⟩, hS2.F ht⟩) hS2.2.2 hd Bd.notSynchronized
theorem ctr_z {S : Type} {l : Launch} {B : Bx} {y : MethodName} {b : ByteArray} {nL : Nat} {rm : Room} {av : List Value} {ws : va_W} {ok : Int32 → S → Prop} {ws1 : S → va_W} (hy : plainName y.cls = true) (hav : (lg_sl av).length ≤ nL)
    (body : ∀ (M : Mx) (Q : State → Prop), m_l M = l → m_R M = rm → (m_h M).name = y.name → CX B M b nL y.cls → (∀ (r : Int32) (u : S) (lv : List (Nat × Value)) (pc : Nat), narrow .boolean (.int r) = .int r ∧ ok r u → decode b pc = .ok (.ireturn, 1) → G B M nL rm.cells rm.slots Q (ws1 u) lv pc [.int r]) → G B M nL 0 0 Q ws (lv_args 0 av) 0 []) : Ci l B y b nL .boolean rm av ws ok ws1 := by
  intro sz
  refine Met.ofW (cc := b) (maxL := nL) (ret := (some .boolean)) hy rfl ?_
  intro p e s m args below meth c s₁ Bd hml hv
  obtain ⟨rfl, hsz, hX, hP, hK, hD0⟩ := hv
  subst hsz
  have hin : meth.name = y.name := (name_of_methodNamed Bd.named Bd.method).1
  have hD := hD0.self (sz := s.heap.size)
  rw [lg_entry_eq]
  refine body (p, l, e, rm, s, m, av.toArray, below, meth, c, va_A ws s.heap.size) _ rfl rfl hin ⟨Bd.exec, Bd.bytes, hml, findClass_of_methodNamed Bd.named, fun w hw => atoms_spec (ws := Cond.code y b nL (some .boolean) :: W0) Bd.pre w (List.mem_cons_of_mem _ hw), hK, fun q h => Or.inr h, fun q h => ?_, hX⟩ ?_ s.heap [] _ hP hD va_S.rf (lv_entry av hav)
  · rcases h with ⟨k, e9, hk⟩ | h
    · exact hD0.2 k _ hk
    · exact Nat.le_trans hX.1 h
  · intro r u lv pc hok hd H locs ls hP2 hD2 hS2 hl2
    exact W.zret Bd.exec Bd.bytes Bd.returns hok.1 (fun t ht hW => ⟨⟨r, u, rfl, hok.2, by rw [ht]; exact hP2, va_K.moved hW.alike hK, hD2⟩, hS2.F ht⟩) hS2.2.2 hd Bd.notSynchronized
theorem ctr_l {S : Type} {l : Launch} {B : Bx} {y : MethodName} {b : ByteArray} {nL : Nat} {rm : Room} {av : List Value} {ws : va_W} {ok : Int64 → S → Prop} {ws1 : S → va_W} (hy : plainName y.cls = true) (hav : (lg_sl av).length ≤ nL)
    (body : ∀ (M : Mx) (Q : State → Prop), m_l M = l → m_R M = rm → (m_h M).name = y.name → CX B M b nL y.cls → (∀ (r : Int64) (u : S) (lv : List (Nat × Value)) (pc : Nat), ok r u → decode b pc = .ok (.lreturn, 1) → G B M nL rm.cells rm.slots Q (ws1 u) lv pc [.long r]) → G B M nL 0 0 Q ws (lv_args 0 av) 0 []) : Cl l B y b nL rm av ws ok ws1 := by
  intro sz
  refine Met.ofW (cc := b) (maxL := nL) (ret := (some .long)) hy rfl ?_
  intro p e s m args below meth c s₁ Bd hml hv
  obtain ⟨rfl, hsz, hX, hP, hK, hD0⟩ := hv
  subst hsz
  have hin : meth.name = y.name := (name_of_methodNamed Bd.named Bd.method).1
  have hD := hD0.self (sz := s.heap.size)
  rw [lg_entry_eq]
  refine body (p, l, e, rm, s, m, av.toArray, below, meth, c, va_A ws s.heap.size) _ rfl rfl hin ⟨Bd.exec, Bd.bytes, hml, findClass_of_methodNamed Bd.named, fun w hw => atoms_spec (ws := Cond.code y b nL (some .long) :: W0) Bd.pre w (List.mem_cons_of_mem _ hw), hK, fun q h => Or.inr h, fun q h => ?_, hX⟩ ?_ s.heap [] _ hP hD va_S.rf (lv_entry av hav)
  · rcases h with ⟨k, e9, hk⟩ | h
    · exact hD0.2 k _ hk
    · exact Nat.le_trans hX.1 h
  · intro r u lv pc hok hd H locs ls hP2 hD2 hS2 hl2
    exact W.lret Bd.exec Bd.bytes Bd.returns (fun t ht hW => ⟨⟨r, u, rfl, hok, by rw [ht]; exact hP2, va_K.moved hW.alike hK, hD2⟩, hS2.F ht⟩) hS2.2.2 hd Bd.notSynchronized
theorem ctr_r {S : Type} {l : Launch} {B : Bx} {y : MethodName} {b : ByteArray} {nL : Nat} {rm : Room} {av : List Value} {ws : va_W} {ok : S → Prop} {ra : S → Nat} {rt : FieldType} {ws1 : S → va_W} (hy : plainName y.cls = true) (hrt : (∃ n, rt = .object n) ∨ ∃ t, rt = .array t) (hav : (lg_sl av).length ≤ nL)
    (body : ∀ (M : Mx) (Q : State → Prop), m_l M = l → m_R M = rm → (m_h M).name = y.name → CX B M b nL y.cls → (∀ (u : S) (lv : List (Nat × Value)) (pc : Nat), ok u → decode b pc = .ok (.areturn, 1) → G B M nL rm.cells rm.slots Q (ws1 u) lv pc [.ref (ra u)]) → G B M nL 0 0 Q ws (lv_args 0 av) 0 []) : Cr l B y b nL rt rm av ws ok ra ws1 := by
  intro sz
  refine Met.ofW (cc := b) (maxL := nL) (ret := (some rt)) hy rfl ?_
  intro p e s m args below meth c s₁ Bd hml hv
  obtain ⟨rfl, hsz, hX, hP, hK, hD0⟩ := hv
  subst hsz
  have hin : meth.name = y.name := (name_of_methodNamed Bd.named Bd.method).1
  have hD := hD0.self (sz := s.heap.size)
  rw [lg_entry_eq]
  refine body (p, l, e, rm, s, m, av.toArray, below, meth, c, va_A ws s.heap.size) _ rfl rfl hin ⟨Bd.exec, Bd.bytes, hml, findClass_of_methodNamed Bd.named, fun w hw => atoms_spec (ws := Cond.code y b nL (some rt) :: W0) Bd.pre w (List.mem_cons_of_mem _ hw), hK, fun q h => Or.inr h, fun q h => ?_, hX⟩ ?_ s.heap [] _ hP hD va_S.rf (lv_entry av hav)
  · rcases h with ⟨k, e9, hk⟩ | h
    · exact hD0.2 k _ hk
    · exact Nat.le_trans hX.1 h
  · intro u lv pc hok hd H locs ls hP2 hD2 hS2 hl2
    exact W.aret Bd.exec Bd.bytes Bd.returns hrt (Or.inr ⟨_, rfl⟩) (fun t ht hW => ⟨⟨u, ra u, rfl, hok, rfl, by rw [ht]; exact hP2, va_K.moved hW.alike hK, hD2⟩, hS2.F ht⟩) hS2.2.2 hd Bd.notSynchronized
end GD
