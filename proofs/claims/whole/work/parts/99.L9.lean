def stT (k : Nat) : Term := .static "SpongeDigests" (s_nm k) (s_ds k)
def stV (k j : Nat) : Term := match s_ty k with
  | .int => .int (s_i k j)
  | _ => .long (s_l k j)
theorem st_arr : ∀ k, k < 12 → Cond.arrayOf (stT k) (s_ty k) ∈ flatC (Jvm.Cond.and given_1 narrow_1) := by decide +kernel
theorem st_len : ∀ k, k < 12 → Cond.eq (.length (stT k)) (.int (Int32.ofNat (s_N k))) ∈ flatC (Jvm.Cond.and given_1 narrow_1) := by decide +kernel
theorem st_lay : ∀ k, k < 12 → Cond.laysStatic "SpongeDigests" (s_nm k) (s_ds k) ∈ lw_tbl := by decide +kernel
theorem st_el0 : ∀ j, j < 12 → Cond.eq (.elem (stT 0) (.int (Int32.ofNat j))) (stV 0 j) ∈ flatC (Jvm.Cond.and given_1 narrow_1) := by decide +kernel
theorem st_el1 : ∀ j, j < 12 → Cond.eq (.elem (stT 1) (.int (Int32.ofNat j))) (stV 1 j) ∈ flatC (Jvm.Cond.and given_1 narrow_1) := by decide +kernel
theorem st_el2 : ∀ j, j < 8 → Cond.eq (.elem (stT 2) (.int (Int32.ofNat j))) (stV 2 j) ∈ flatC (Jvm.Cond.and given_1 narrow_1) := by decide +kernel
theorem st_el3 : ∀ j, j < 8 → Cond.eq (.elem (stT 3) (.int (Int32.ofNat j))) (stV 3 j) ∈ flatC (Jvm.Cond.and given_1 narrow_1) := by decide +kernel
theorem st_el4 : ∀ j, j < 8 → Cond.eq (.elem (stT 4) (.int (Int32.ofNat j))) (stV 4 j) ∈ flatC (Jvm.Cond.and given_1 narrow_1) := by decide +kernel
theorem st_el5 : ∀ j, j < 8 → Cond.eq (.elem (stT 5) (.int (Int32.ofNat j))) (stV 5 j) ∈ flatC (Jvm.Cond.and given_1 narrow_1) := by decide +kernel
theorem st_el6 : ∀ j, j < 8 → Cond.eq (.elem (stT 6) (.int (Int32.ofNat j))) (stV 6 j) ∈ flatC (Jvm.Cond.and given_1 narrow_1) := by decide +kernel
theorem st_el7 : ∀ j, j < 8 → Cond.eq (.elem (stT 7) (.int (Int32.ofNat j))) (stV 7 j) ∈ flatC (Jvm.Cond.and given_1 narrow_1) := by decide +kernel
theorem st_el8 : ∀ j, j < 80 → Cond.eq (.elem (stT 8) (.int (Int32.ofNat j))) (stV 8 j) ∈ flatC (Jvm.Cond.and given_1 narrow_1) := by decide +kernel
theorem st_el9 : ∀ j, j < 24 → Cond.eq (.elem (stT 9) (.int (Int32.ofNat j))) (stV 9 j) ∈ flatC (Jvm.Cond.and given_1 narrow_1) := by decide +kernel
theorem st_el10 : ∀ j, j < 25 → Cond.eq (.elem (stT 10) (.int (Int32.ofNat j))) (stV 10 j) ∈ flatC (Jvm.Cond.and given_1 narrow_1) := by decide +kernel
theorem st_el11 : ∀ j, j < 25 → Cond.eq (.elem (stT 11) (.int (Int32.ofNat j))) (stV 11 j) ∈ flatC (Jvm.Cond.and given_1 narrow_1) := by decide +kernel
theorem st_el : ∀ k, k < 12 → ∀ j, j < s_N k → Cond.eq (.elem (stT k) (.int (Int32.ofNat j))) (stV k j) ∈ flatC (Jvm.Cond.and given_1 narrow_1) := by
  intro k hk
  rcases (show k = 0 ∨ k = 1 ∨ k = 2 ∨ k = 3 ∨ k = 4 ∨ k = 5 ∨ k = 6 ∨ k = 7 ∨ k = 8 ∨ k = 9 ∨ k = 10 ∨ k = 11 from by omega) with h | h | h | h | h | h | h | h | h | h | h | h <;> subst h
  · exact st_el0
  · exact st_el1
  · exact st_el2
  · exact st_el3
  · exact st_el4
  · exact st_el5
  · exact st_el6
  · exact st_el7
  · exact st_el8
  · exact st_el9
  · exact st_el10
  · exact st_el11
theorem st_ty (k : Nat) : s_ty k = .int ∨ s_ty k = .long := by
  unfold s_ty
  split <;> simp
theorem st_Z {args : Array Value} {s : State} (hts : ∀ w ∈ lw_tbl, w.before args s = true) (hgv : (Jvm.Cond.and given_1 narrow_1).before args s = true) (hini : (Cond.initialized "SpongeDigests").before args s = true) (k : Nat) (hk : k < 12) : ∃ t : Nat, va_Z "SpongeDigests" (s_nm k) (s_ds k) (.ref t) (fun q => s.heap.size ≤ q) s s.heap ∧ va_T (s_ty k) t (s_N k) (s_f k) (fun q => s.heap.size ≤ q) s s.heap := by
  have hfl := flat_of_before _ hgv
  have hA : ∀ a : Nat, a < s.heap.size → ¬ (fun q : Nat => s.heap.size ≤ q) a := fun a h => Nat.not_le.mpr h
  obtain ⟨t, ht, hT⟩ := va_Tof (tm := stT k) (ty := s_ty k) (N := s_N k) (f := s_f k) (A := fun q : Nat => s.heap.size ≤ q) (s_N_lt k hk) (hfl _ (st_arr k hk)) (va_eqt (hfl _ (st_len k hk))) (fun j hj => by
    have h := hfl _ (st_el k hk j hj)
    unfold stV at h
    rcases st_ty k with e | e
    · rw [e] at h
      rw [s_fi e]
      exact va_eqt h
    · rw [e] at h
      rw [s_fl e]
      exact va_eqtl h) hA
  exact ⟨t, va_Zof (hts _ (st_lay k hk)) hini ht hA, hT⟩
theorem st_str {args : Array Value} {s : State} (hgv : (Jvm.Cond.and given_1 narrow_1).before args s = true) (hts : ∀ w ∈ lw_tbl, w.before args s = true) (i : Nat) (hi : i < 4) : ∃ a : Nat, vk_R "SpongeDigests" (st_k i) (st_t i) a s := by
  have hfl := flat_of_before _ hgv
  have h1 : ∀ i, i < 4 → Cond.stringRef "SpongeDigests" (st_k i) (st_t i) ∈ lw_tbl := by decide +kernel
  have h2 : ∀ i, i < 4 → Cond.exactly (.string "SpongeDigests" (st_k i)) "java/lang/String" ∈ flatC (Jvm.Cond.and given_1 narrow_1) := by decide +kernel
  obtain ⟨a, -, -, -, ha, -⟩ := Cond.exactly_spec (hfl _ (h2 i hi))
  exact ⟨a, vk_R.of (hts _ (h1 i hi)) ha⟩
theorem st_arrc {args : Array Value} {s : State} {ty : FieldType} (h : (Cond.arrayClass ty).before args s = true) : ∃ c : ClassId, ArrOfT s c ty ∧ s.vm.findClass ("[" ++ ty.toString) = some c := by
  obtain ⟨c, k, comp, h1, h2, h3⟩ := Cond.arrayClass_spec h
  exact ⟨c, fun N z => ⟨(fun k h => by cases h), k, h2, comp, h3⟩, h1⟩
theorem st_B {args : Array Value} {s : State} (hts : ∀ w ∈ lw_tbl, w.before args s = true) (hgv : (Jvm.Cond.and given_1 narrow_1).before args s = true) : ∃ B : Bx, b_z B = s.heap.size ∧ va_K B.1 classes (b_y B) s ∧ KX B s := by
  have htW : ∀ w ∈ W0, w.before args s = true := fun w hw => hts w (List.mem_filter.mp hw).1
  have hfl := flat_of_before _ hgv
  obtain ⟨c0, j0, hK0⟩ := u_known (C := "SpongeDigests$BlockHash") (T := T_H) (N := 14) (n := 14) htW in_H (htW _ wd_66)
  obtain ⟨c1, j1, hK1⟩ := u_known (C := "SpongeDigests$Bytes") (T := T_Y) (N := 2) (n := 2) htW in_Y (htW _ wd_33)
  obtain ⟨c2, j2, hK2⟩ := u_known (C := "SpongeDigests$Sponge") (T := T_P) (N := 3) (n := 3) htW in_P (htW _ wd_49)
  obtain ⟨c3, j3, hK3⟩ := u_known (C := "SpongeDigests") (T := T_D) (N := 9) (n := 9) htW in_D (htW _ wd_24)
  obtain ⟨c4, j4, hK4⟩ := u_known (C := "SpongeDigestsModel") (T := T_O) (N := 24) (n := 24) htW in_O (htW _ wd_737)
  obtain ⟨a0, hA0, hN0⟩ := st_arrc (htW _ wd_47)
  obtain ⟨a1, hA1, hN1⟩ := st_arrc (htW _ wd_64)
  obtain ⟨a2, hA2, hN2⟩ := st_arrc (htW _ wd_892)
  have hov : (Cond.arrayOver (.object "SpongeDigests$Bytes")).before args s = true := hts _ (by decide +kernel)
  have hova : (Cond.arrayOver (.array .byte)).before args s = true := hts _ (by decide +kernel)
  obtain ⟨p3, a3, k3, o1, o2, o3, o4, o5⟩ := Cond.arrayOver_spec hov
  obtain ⟨p4, a4, k4, q1, q2, q3, q4, q5⟩ := arrayOverA_spec hova
  have hp4 : p4 = a0 := Option.some.inj (q1.symm.trans hN0)
  subst hp4
  have hz : ∀ k, ∃ t : Nat, k < 12 → va_Z "SpongeDigests" (s_nm k) (s_ds k) (.ref t) (fun q => s.heap.size ≤ q) s s.heap ∧ va_T (s_ty k) t (s_N k) (s_f k) (fun q => s.heap.size ≤ q) s s.heap := by
    intro k
    by_cases hk : k < 12
    · obtain ⟨t, h⟩ := st_Z hts hgv (htW _ wd_1) k hk
      exact ⟨t, fun _ => h⟩
    · exact ⟨0, fun h => absurd h hk⟩
  have hg : ∀ i, ∃ t : Nat, i < 4 → vk_R "SpongeDigests" (st_k i) (st_t i) t s := by
    intro i
    by_cases hi : i < 4
    · obtain ⟨t, h⟩ := st_str hgv hts i hi
      exact ⟨t, fun _ => h⟩
    · exact ⟨0, fun h => absurd h hi⟩
  have hA : ∀ a : Nat, a < s.heap.size → ¬ (fun q : Nat => s.heap.size ≤ q) a := fun a h => Nat.not_le.mpr h
  refine ⟨((fun k => match k with | 0 => c0 | 1 => c1 | 2 => c2 | 3 => c3 | _ => c4, fun k => match k with | 0 => j0 | 1 => j1 | 2 => j2 | 3 => j3 | _ => j4), fun k => match k with | 0 => p4 | 1 => a1 | 2 => a2 | 3 => a3 | _ => a4, s.heap.size, fun k => Classical.choose (hz k), fun i => Classical.choose (hg i)), rfl, ⟨?_, ?_⟩, Nat.le_refl _, ?_, fun k hk => Classical.choose_spec (hz k) hk, ?_, ?_, fun i hi => Classical.choose_spec (hg i) hi, ?_, ?_, va_AO.of hov, k4, q3, q4⟩
  · intro k w hw
    match k, hw with
    | 0, hw => cases hw; exact hK0
    | 1, hw => cases hw; exact hK1
    | 2, hw => cases hw; exact hK2
    | 3, hw => cases hw; exact hK3
    | 4, hw => cases hw; exact hK4
    | k + 5, hw => simp [classes] at hw
  · intro k w hw
    match k, hw with
    | 0, hw => cases hw; exact ⟨hA0, hN0⟩
    | 1, hw => cases hw; exact ⟨hA1, hN1⟩
    | 2, hw => cases hw; exact ⟨hA2, hN2⟩
    | 3, hw => cases hw; exact ⟨fun N z => ⟨(fun k h => by cases h), k3, o3, p3, o4⟩, k3, p3, o3, o4, o1, o5⟩
    | 4, hw => cases hw; exact ⟨fun N z => ⟨(fun k h => by cases h), k4, q3, p4, q4⟩, q5⟩
    | k + 5, hw => simp at hw
  · have hn : ∀ w ∈ nestWords, w ∈ lw_tbl := by decide +kernel
    exact fun w hw => va_Nw.of (nest_on hw) (hts w (hn w hw))
  · exact vx_Zqof (hts _ (by decide +kernel)) (hts _ (by decide +kernel)) (hfl _ (by decide +kernel)) hA
  · exact vx_Zqof (hts _ (by decide +kernel)) (hts _ (by decide +kernel)) (hfl _ (by decide +kernel)) hA
  · have hn : ∀ w ∈ exWords, w ∈ lw_tbl := by decide +kernel
    exact fun w hw => va_Nw.of (ex_on hw) (hts w (hn w hw))
  · exact va_Nc.of (hfl _ (by decide +kernel))

