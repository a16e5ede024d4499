def stT (k : Nat) : Term := .static "SpongeDigests" (s_nm k) (s_ds k)
def stV (k j : Nat) : Term := match s_ty k with
  | .int => .int (s_i k j)
  | _ => .long (s_l k j)
def flatA : Jvm.Cond → List Jvm.Cond → List Jvm.Cond
  | .and a b, acc => flatA a (flatA b acc)
  | c, acc => c :: acc
theorem flatA_eq (T : Jvm.Cond) : ∀ acc : List Jvm.Cond, flatA T acc = flatC T ++ acc := by
  induction T with
  | and a b iha ihb =>
    intro acc
    simp only [flatA, flatC]
    rw [iha, ihb, List.append_assoc]
  | _ => intro acc; rfl
theorem fl_at {T Z : Jvm.Cond} {n : Nat} (h : (flatA T [])[n]? = some Z) : Z ∈ flatC T := by
  have h1 := List.mem_of_getElem? h
  rw [flatA_eq, List.append_nil] at h1
  exact h1
def sB (k : Nat) : Nat := ([7, 22, 250, 366, 355, 344, 377, 388, 261, 455, 427, 399] : List Nat).getD k 0
theorem st_arr0 : ∀ k, k < 12 → (flatA (Jvm.Cond.and given_1 narrow_1) [])[sB k - 2]? = some (Cond.arrayOf (stT k) (s_ty k)) := by decide +kernel
theorem st_arr : ∀ k, k < 12 → Cond.arrayOf (stT k) (s_ty k) ∈ flatC (Jvm.Cond.and given_1 narrow_1) := fun k hk => fl_at (st_arr0 k hk)
theorem st_len0 : ∀ k, k < 12 → (flatA (Jvm.Cond.and given_1 narrow_1) [])[sB k - 1]? = some (Cond.eq (.length (stT k)) (.int (Int32.ofNat (s_N k)))) := by decide +kernel
theorem st_len : ∀ k, k < 12 → Cond.eq (.length (stT k)) (.int (Int32.ofNat (s_N k))) ∈ flatC (Jvm.Cond.and given_1 narrow_1) := fun k hk => fl_at (st_len0 k hk)
theorem st_lay : ∀ k, k < 12 → Cond.laysStatic "SpongeDigests" (s_nm k) (s_ds k) ∈ lw_tbl := by decide +kernel
theorem st_el0_0 : ∀ j, j < 12 → (flatA (Jvm.Cond.and given_1 narrow_1) [])[sB 0 + j]? = some (Cond.eq (.elem (stT 0) (.int (Int32.ofNat j))) (stV 0 j)) := by decide +kernel
theorem st_el0 : ∀ j, j < 12 → Cond.eq (.elem (stT 0) (.int (Int32.ofNat j))) (stV 0 j) ∈ flatC (Jvm.Cond.and given_1 narrow_1) := fun j hj => fl_at (st_el0_0 j hj)
theorem st_el0_1 : ∀ j, j < 12 → (flatA (Jvm.Cond.and given_1 narrow_1) [])[sB 1 + j]? = some (Cond.eq (.elem (stT 1) (.int (Int32.ofNat j))) (stV 1 j)) := by decide +kernel
theorem st_el1 : ∀ j, j < 12 → Cond.eq (.elem (stT 1) (.int (Int32.ofNat j))) (stV 1 j) ∈ flatC (Jvm.Cond.and given_1 narrow_1) := fun j hj => fl_at (st_el0_1 j hj)
theorem st_el0_2 : ∀ j, j < 8 → (flatA (Jvm.Cond.and given_1 narrow_1) [])[sB 2 + j]? = some (Cond.eq (.elem (stT 2) (.int (Int32.ofNat j))) (stV 2 j)) := by decide +kernel
theorem st_el2 : ∀ j, j < 8 → Cond.eq (.elem (stT 2) (.int (Int32.ofNat j))) (stV 2 j) ∈ flatC (Jvm.Cond.and given_1 narrow_1) := fun j hj => fl_at (st_el0_2 j hj)
theorem st_el0_3 : ∀ j, j < 8 → (flatA (Jvm.Cond.and given_1 narrow_1) [])[sB 3 + j]? = some (Cond.eq (.elem (stT 3) (.int (Int32.ofNat j))) (stV 3 j)) := by decide +kernel
theorem st_el3 : ∀ j, j < 8 → Cond.eq (.elem (stT 3) (.int (Int32.ofNat j))) (stV 3 j) ∈ flatC (Jvm.Cond.and given_1 narrow_1) := fun j hj => fl_at (st_el0_3 j hj)
theorem st_el0_4 : ∀ j, j < 8 → (flatA (Jvm.Cond.and given_1 narrow_1) [])[sB 4 + j]? = some (Cond.eq (.elem (stT 4) (.int (Int32.ofNat j))) (stV 4 j)) := by decide +kernel
theorem st_el4 : ∀ j, j < 8 → Cond.eq (.elem (stT 4) (.int (Int32.ofNat j))) (stV 4 j) ∈ flatC (Jvm.Cond.and given_1 narrow_1) := fun j hj => fl_at (st_el0_4 j hj)
theorem st_el0_5 : ∀ j, j < 8 → (flatA (Jvm.Cond.and given_1 narrow_1) [])[sB 5 + j]? = some (Cond.eq (.elem (stT 5) (.int (Int32.ofNat j))) (stV 5 j)) := by decide +kernel
theorem st_el5 : ∀ j, j < 8 → Cond.eq (.elem (stT 5) (.int (Int32.ofNat j))) (stV 5 j) ∈ flatC (Jvm.Cond.and given_1 narrow_1) := fun j hj => fl_at (st_el0_5 j hj)
theorem st_el0_6 : ∀ j, j < 8 → (flatA (Jvm.Cond.and given_1 narrow_1) [])[sB 6 + j]? = some (Cond.eq (.elem (stT 6) (.int (Int32.ofNat j))) (stV 6 j)) := by decide +kernel
theorem st_el6 : ∀ j, j < 8 → Cond.eq (.elem (stT 6) (.int (Int32.ofNat j))) (stV 6 j) ∈ flatC (Jvm.Cond.and given_1 narrow_1) := fun j hj => fl_at (st_el0_6 j hj)
theorem st_el0_7 : ∀ j, j < 8 → (flatA (Jvm.Cond.and given_1 narrow_1) [])[sB 7 + j]? = some (Cond.eq (.elem (stT 7) (.int (Int32.ofNat j))) (stV 7 j)) := by decide +kernel
theorem st_el7 : ∀ j, j < 8 → Cond.eq (.elem (stT 7) (.int (Int32.ofNat j))) (stV 7 j) ∈ flatC (Jvm.Cond.and given_1 narrow_1) := fun j hj => fl_at (st_el0_7 j hj)
theorem st_el0_8 : ∀ j, j < 80 → (flatA (Jvm.Cond.and given_1 narrow_1) [])[sB 8 + j]? = some (Cond.eq (.elem (stT 8) (.int (Int32.ofNat j))) (stV 8 j)) := by decide +kernel
theorem st_el8 : ∀ j, j < 80 → Cond.eq (.elem (stT 8) (.int (Int32.ofNat j))) (stV 8 j) ∈ flatC (Jvm.Cond.and given_1 narrow_1) := fun j hj => fl_at (st_el0_8 j hj)
theorem st_el0_9 : ∀ j, j < 24 → (flatA (Jvm.Cond.and given_1 narrow_1) [])[sB 9 + j]? = some (Cond.eq (.elem (stT 9) (.int (Int32.ofNat j))) (stV 9 j)) := by decide +kernel
theorem st_el9 : ∀ j, j < 24 → Cond.eq (.elem (stT 9) (.int (Int32.ofNat j))) (stV 9 j) ∈ flatC (Jvm.Cond.and given_1 narrow_1) := fun j hj => fl_at (st_el0_9 j hj)
theorem st_el0_10 : ∀ j, j < 25 → (flatA (Jvm.Cond.and given_1 narrow_1) [])[sB 10 + j]? = some (Cond.eq (.elem (stT 10) (.int (Int32.ofNat j))) (stV 10 j)) := by decide +kernel
theorem st_el10 : ∀ j, j < 25 → Cond.eq (.elem (stT 10) (.int (Int32.ofNat j))) (stV 10 j) ∈ flatC (Jvm.Cond.and given_1 narrow_1) := fun j hj => fl_at (st_el0_10 j hj)
theorem st_el0_11 : ∀ j, j < 25 → (flatA (Jvm.Cond.and given_1 narrow_1) [])[sB 11 + j]? = some (Cond.eq (.elem (stT 11) (.int (Int32.ofNat j))) (stV 11 j)) := by decide +kernel
theorem st_el11 : ∀ j, j < 25 → Cond.eq (.elem (stT 11) (.int (Int32.ofNat j))) (stV 11 j) ∈ flatC (Jvm.Cond.and given_1 narrow_1) := fun j hj => fl_at (st_el0_11 j hj)
theorem st_el : ∀ k, k < 12 → ∀ j, j < s_N k → Cond.eq (.elem (stT k) (.int (Int32.ofNat j))) (stV k j) ∈ flatC (Jvm.Cond.and given_1 narrow_1) := by
  intro k hk
  rcases (show k = 0 ∨ k = 1 ∨ k = 2 ∨ k = 3 ∨ k = 4 ∨ k = 5 ∨ k = 6 ∨ k = 7 ∨ k = 8 ∨ k = 9 ∨ k = 10 ∨ k = 11 from by omega) with h | h | h | h | h | h | h | h | h | h | h | h <;> subst h
  · exact st_el0
  · exact st_el1
  · exact st_el2
  · exact st_el3
  · exact st_el4
  · exact st_el5
  · exact st_el6
  · exact st_el7
  · exact st_el8
  · exact st_el9
  · exact st_el10
  · exact st_el11
theorem st_ty (k : Nat) : s_ty k = .int ∨ s_ty k = .long := by
  unfold s_ty
  split <;> simp
theorem st_Z {args : Array Value} {s : State} (hts : ∀ w ∈ lw_tbl, w.before args s = true) (hgv : (Jvm.Cond.and given_1 narrow_1).before args s = true) (hini : (Cond.initialized "SpongeDigests").before args s = true) (k : Nat) (hk : k < 12) : ∃ t : Nat, va_Z "SpongeDigests" (s_nm k) (s_ds k) (.ref t) (fun q => s.heap.size ≤ q) s s.heap ∧ va_T (s_ty k) t (s_N k) (s_f k) (fun q => s.heap.size ≤ q) s s.heap := by
  have hfl := flat_of_before _ hgv
  have hA : ∀ a : Nat, a < s.heap.size → ¬ (fun q : Nat => s.heap.size ≤ q) a := fun a h => Nat.not_le.mpr h
  obtain ⟨t, ht, hT⟩ := va_Tof (tm := stT k) (ty := s_ty k) (N := s_N k) (f := s_f k) (A := fun q : Nat => s.heap.size ≤ q) (s_N_lt k hk) (hfl _ (st_arr k hk)) (va_eqt (hfl _ (st_len k hk))) (fun j hj => by
    have h := hfl _ (st_el k hk j hj)
    unfold stV at h
    rcases st_ty k with e | e
    · rw [e] at h
      rw [s_fi e]
      exact va_eqt h
    · rw [e] at h
      rw [s_fl e]
      exact va_eqtl h) hA
  exact ⟨t, va_Zof (hts _ (st_lay k hk)) hini ht hA, hT⟩
theorem st_str {args : Array Value} {s : State} (hgv : (Jvm.Cond.and given_1 narrow_1).before args s = true) (hts : ∀ w ∈ lw_tbl, w.before args s = true) (i : Nat) (hi : i < 4) : ∃ a : Nat, vk_R "SpongeDigests" (st_k i) (st_t i) a s := by
  have hfl := flat_of_before _ hgv
  have h1 : ∀ i, i < 4 → Cond.stringRef "SpongeDigests" (st_k i) (st_t i) ∈ lw_tbl := by decide +kernel
  have h2 : ∀ i, i < 4 → (flatA (Jvm.Cond.and given_1 narrow_1) [])[([496, 545, 516, 672] : List Nat).getD i 0]? = some (Cond.exactly (.string "SpongeDigests" (st_k i)) "java/lang/String") := by decide +kernel
  obtain ⟨a, -, -, -, ha, -⟩ := Cond.exactly_spec (hfl _ (fl_at (h2 i hi)))
  exact ⟨a, vk_R.of (hts _ (h1 i hi)) ha⟩
theorem st_arrc {args : Array Value} {s : State} {ty : FieldType} (h : (Cond.arrayClass ty).before args s = true) : ∃ c : ClassId, ArrOfT s c ty ∧ s.vm.findClass ("[" ++ ty.toString) = some c := by
  obtain ⟨c, k, comp, h1, h2, h3⟩ := Cond.arrayClass_spec h
  exact ⟨c, fun N z => ⟨(fun k h => by cases h), k, h2, comp, h3⟩, h1⟩

