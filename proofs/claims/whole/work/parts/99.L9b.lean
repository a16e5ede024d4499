theorem st_B {args : Array Value} {s : State} (hts : ∀ w ∈ lw_tbl, w.before args s = true) (hgv : (Jvm.Cond.and given_1 narrow_1).before args s = true) : ∃ B : Bx, b_z B = s.heap.size ∧ va_K B.1 classes (b_y B) s ∧ KX B s := by
  have htW : ∀ w ∈ W0, w.before args s = true := fun w hw => hts w (List.mem_filter.mp hw).1
  have hfl := flat_of_before _ hgv
  obtain ⟨c0, j0, hK0⟩ := u_known (C := "SpongeDigests$BlockHash") (T := T_H) (N := 14) (n := 14) htW in_H (htW _ wd_66)
  obtain ⟨c1, j1, hK1⟩ := u_known (C := "SpongeDigests$Bytes") (T := T_Y) (N := 2) (n := 2) htW in_Y (htW _ wd_33)
  obtain ⟨c2, j2, hK2⟩ := u_known (C := "SpongeDigests$Sponge") (T := T_P) (N := 3) (n := 3) htW in_P (htW _ wd_49)
  obtain ⟨c3, j3, hK3⟩ := u_known (C := "SpongeDigests") (T := T_D) (N := 9) (n := 9) htW in_D (htW _ wd_24)
  obtain ⟨c4, j4, hK4⟩ := u_known (C := "SpongeDigestsModel") (T := T_O) (N := 24) (n := 24) htW in_O (htW _ wd_737)
  obtain ⟨a0, hA0, hN0⟩ := st_arrc (htW _ wd_47)
  obtain ⟨a1, hA1, hN1⟩ := st_arrc (htW _ wd_64)
  obtain ⟨a2, hA2, hN2⟩ := st_arrc (htW _ wd_892)
  have hov : (Cond.arrayOver (.object "SpongeDigests$Bytes")).before args s = true := hts _ (by decide +kernel)
  have hova : (Cond.arrayOver (.array .byte)).before args s = true := hts _ (by decide +kernel)
  obtain ⟨p3, a3, k3, o1, o2, o3, o4, o5⟩ := Cond.arrayOver_spec hov
  obtain ⟨p4, a4, k4, q1, q2, q3, q4, q5⟩ := arrayOverA_spec hova
  have hp4 : p4 = a0 := Option.some.inj (q1.symm.trans hN0)
  subst hp4
  have hz : ∀ k, ∃ t : Nat, k < 12 → va_Z "SpongeDigests" (s_nm k) (s_ds k) (.ref t) (fun q => s.heap.size ≤ q) s s.heap ∧ va_T (s_ty k) t (s_N k) (s_f k) (fun q => s.heap.size ≤ q) s s.heap := by
    intro k
    by_cases hk : k < 12
    · obtain ⟨t, h⟩ := st_Z hts hgv (htW _ wd_1) k hk
      exact ⟨t, fun _ => h⟩
    · exact ⟨0, fun h => absurd h hk⟩
  have hg : ∀ i, ∃ t : Nat, i < 4 → vk_R "SpongeDigests" (st_k i) (st_t i) t s := by
    intro i
    by_cases hi : i < 4
    · obtain ⟨t, h⟩ := st_str hgv hts i hi
      exact ⟨t, fun _ => h⟩
    · exact ⟨0, fun h => absurd h hi⟩
  have hA : ∀ a : Nat, a < s.heap.size → ¬ (fun q : Nat => s.heap.size ≤ q) a := fun a h => Nat.not_le.mpr h
  refine ⟨((fun k => match k with | 0 => c0 | 1 => c1 | 2 => c2 | 3 => c3 | _ => c4, fun k => match k with | 0 => j0 | 1 => j1 | 2 => j2 | 3 => j3 | _ => j4), fun k => match k with | 0 => p4 | 1 => a1 | 2 => a2 | 3 => a3 | _ => a4, s.heap.size, fun k => Classical.choose (hz k), fun i => Classical.choose (hg i)), rfl, ⟨?_, ?_⟩, Nat.le_refl _, ?_, fun k hk => Classical.choose_spec (hz k) hk, ?_, ?_, fun i hi => Classical.choose_spec (hg i) hi, ?_, ?_, va_AO.of hov, k4, q3, q4⟩
  · intro k w hw
    match k, hw with
    | 0, hw => cases hw; exact hK0
    | 1, hw => cases hw; exact hK1
    | 2, hw => cases hw; exact hK2
    | 3, hw => cases hw; exact hK3
    | 4, hw => cases hw; exact hK4
    | k + 5, hw => simp [classes] at hw
  · intro k w hw
    match k, hw with
    | 0, hw => cases hw; exact ⟨hA0, hN0⟩
    | 1, hw => cases hw; exact ⟨hA1, hN1⟩
    | 2, hw => cases hw; exact ⟨hA2, hN2⟩
    | 3, hw => cases hw; exact ⟨fun N z => ⟨(fun k h => by cases h), k3, o3, p3, o4⟩, k3, p3, o3, o4, o1, o5⟩
    | 4, hw => cases hw; exact ⟨fun N z => ⟨(fun k h => by cases h), k4, q3, p4, q4⟩, q5⟩
    | k + 5, hw => simp at hw
  · have hn : ∀ w ∈ nestWords, w ∈ lw_tbl := by decide +kernel
    exact fun w hw => va_Nw.of (nest_on hw) (hts w (hn w hw))
  · exact vx_Zqof (hts _ (by decide +kernel)) (hts _ (by decide +kernel)) (hfl _ (fl_at (n := 34) (by decide +kernel))) hA
  · exact vx_Zqof (hts _ (by decide +kernel)) (hts _ (by decide +kernel)) (hfl _ (fl_at (n := 35) (by decide +kernel))) hA
  · have hn : ∀ w ∈ exWords, w ∈ lw_tbl := by decide +kernel
    exact fun w hw => va_Nw.of (ex_on hw) (hts w (hn w hw))
  · exact va_Nc.of (hfl _ (fl_at (n := 492) (by decide +kernel)))

