def vl (D : Nat → Nat) : Nat → Nat
  | 0 => 0
  | n + 1 => vl D n + D n * 65536 ^ n
theorem vl_eq {D E : Nat → Nat} (n : Nat) (h : ∀ j, j < n → D j = E j) : vl D n = vl E n := by
  induction n with
  | zero => rfl
  | succ n ih =>
    show vl D n + D n * 65536 ^ n = vl E n + E n * 65536 ^ n
    rw [ih (fun j hj => h j (by omega)), h n (by omega)]
theorem vl_up (D : Nat → Nat) (n k x : Nat) (h : k < n) : vl (va_up D k (D k + x)) n = vl D n + x * 65536 ^ k := by
  induction n with
  | zero => omega
  | succ n ih =>
    show vl (va_up D k (D k + x)) n + va_up D k (D k + x) n * 65536 ^ n = vl D n + D n * 65536 ^ n + x * 65536 ^ k
    by_cases c : k = n
    · subst c
      rw [va_up_self, vl_eq (D := va_up D k (D k + x)) (E := D) k (fun j hj => if_neg (show ¬ j = k by omega)), Nat.add_mul]
      omega
    · rw [ih (by omega), show va_up D k (D k + x) n = D n from if_neg (fun e => c e.symm)]
      omega
theorem vl_lt (D : Nat → Nat) (n : Nat) (h : ∀ j, j < n → D j < 65536) : vl D n < 65536 ^ n := by
  induction n with
  | zero => exact Nat.zero_lt_one
  | succ n ih =>
    have h1 := ih (fun j hj => h j (by omega))
    have h2 : D n + 1 ≤ 65536 := h n (by omega)
    have h3 : (D n + 1) * 65536 ^ n ≤ 65536 * 65536 ^ n := Nat.mul_le_mul_right _ h2
    show vl D n + D n * 65536 ^ n < 65536 ^ (n + 1)
    rw [Nat.pow_succ, Nat.mul_comm (65536 ^ n) 65536]
    rw [Nat.succ_mul] at h3
    omega
def dgW (W P j : Nat) : Nat := if j < 4 then P / 2 ^ (16 * j) % 65536 else W
theorem dg_sum (W P : Nat) (h : P < 2 ^ 64) : vl (dgW W P) 5 = W * 2 ^ 64 + P := by
  show ((((0 + dgW W P 0 * 65536 ^ 0) + dgW W P 1 * 65536 ^ 1) + dgW W P 2 * 65536 ^ 2) + dgW W P 3 * 65536 ^ 3) + dgW W P 4 * 65536 ^ 4 = _
  simp only [dgW]
  simp
  omega
def cnI (D : Nat → Nat) (W P i : Nat) : Nat → (Nat → Nat) → Nat → Nat := fun j E => va_up E (i + j) (E (i + j) + D i * dgW W P j)
def cnM (N i : Nat) : Nat := if N - i < 5 then N - i else 5
def cnF (N : Nat) (D : Nat → Nat) (W P : Nat) : Nat → (Nat → Nat) → Nat → Nat := fun i E => it (cnI D W P i) (cnM N i) E
def cnv (N : Nat) (D : Nat → Nat) (W P : Nat) : Nat → Nat := it (cnF N D W P) N (fun _ => 0)
theorem cnI_vl (N : Nat) (D : Nat → Nat) (W P i n : Nat) (E : Nat → Nat) (h : i + n ≤ N) : vl (it (cnI D W P i) n E) N = vl E N + D i * 65536 ^ i * vl (dgW W P) n := by
  induction n with
  | zero => rfl
  | succ n ih =>
    show vl (va_up (it (cnI D W P i) n E) (i + n) (it (cnI D W P i) n E (i + n) + D i * dgW W P n)) N = vl E N + D i * 65536 ^ i * (vl (dgW W P) n + dgW W P n * 65536 ^ n)
    rw [vl_up _ N _ _ (by omega), ih (by omega), Nat.mul_add, Nat.pow_add]
    have e : D i * dgW W P n * (65536 ^ i * 65536 ^ n) = D i * 65536 ^ i * (dgW W P n * 65536 ^ n) := by
      rw [Nat.mul_assoc, Nat.mul_assoc, Nat.mul_left_comm (dgW W P n)]
    omega
theorem vl_add (D : Nat → Nat) (n m : Nat) : vl D (n + m) = vl D n + 65536 ^ n * vl (fun j => D (n + j)) m := by
  induction m with
  | zero => rfl
  | succ m ih =>
    show vl D (n + m) + D (n + m) * 65536 ^ (n + m) = vl D n + 65536 ^ n * (vl (fun j => D (n + j)) m + D (n + m) * 65536 ^ m)
    rw [ih, Nat.mul_add, Nat.pow_add]
    have e : D (n + m) * (65536 ^ n * 65536 ^ m) = 65536 ^ n * (D (n + m) * 65536 ^ m) := by rw [Nat.mul_left_comm]
    omega
theorem cnF_vl (N : Nat) (D : Nat → Nat) (W P i : Nat) (E : Nat → Nat) (h : i < N) : vl (cnF N D W P i E) N % 65536 ^ N = (vl E N + D i * 65536 ^ i * vl (dgW W P) 5) % 65536 ^ N := by
  unfold cnF
  have hm : i + cnM N i ≤ N := by unfold cnM; split <;> omega
  rw [cnI_vl N D W P i _ E hm]
  by_cases c : N - i < 5
  · have e1 : cnM N i = N - i := if_pos c
    rw [e1]
    have e2 := vl_add (dgW W P) (N - i) (5 - (N - i))
    rw [show N - i + (5 - (N - i)) = 5 by omega] at e2
    rw [e2, Nat.mul_add]
    have e3 : ∀ z, D i * 65536 ^ i * (65536 ^ (N - i) * z) = 65536 ^ N * (D i * z) := by
      intro z
      have e4 : 65536 ^ N = 65536 ^ i * 65536 ^ (N - i) := by rw [← Nat.pow_add, show i + (N - i) = N by omega]
      rw [e4]
      generalize 65536 ^ i = a
      generalize 65536 ^ (N - i) = b
      rw [Nat.mul_assoc, Nat.mul_assoc, Nat.mul_left_comm (D i), Nat.mul_left_comm (D i) b z]
    rw [e3, ← Nat.add_assoc, Nat.add_mul_mod_self_left]
  · rw [show cnM N i = 5 from if_neg c]
theorem vl_z (n : Nat) : vl (fun _ => 0) n = 0 := by
  induction n with
  | zero => rfl
  | succ n ih => show vl (fun _ => 0) n + 0 * 65536 ^ n = 0; rw [ih, Nat.zero_mul]
theorem cnv_vl (N : Nat) (D : Nat → Nat) (W P : Nat) : vl (cnv N D W P) N % 65536 ^ N = (vl D N * vl (dgW W P) 5) % 65536 ^ N := by
  unfold cnv
  have key : ∀ n, n ≤ N → vl (it (cnF N D W P) n (fun _ => 0)) N % 65536 ^ N = (vl D n * vl (dgW W P) 5) % 65536 ^ N := by
    intro n
    induction n with
    | zero => intro _; show vl (fun _ => 0) N % _ = (0 * _) % _; rw [Nat.zero_mul, vl_z]
    | succ n ih =>
      intro hn
      show vl (cnF N D W P n (it (cnF N D W P) n (fun _ => 0))) N % 65536 ^ N = ((vl D n + D n * 65536 ^ n) * vl (dgW W P) 5) % 65536 ^ N
      rw [cnF_vl N D W P n _ (by omega), Nat.add_mod, ih (by omega), ← Nat.add_mod, Nat.add_mul]
  exact key N (Nat.le_refl _)
theorem cnI_le (N : Nat) (D : Nat → Nat) (W P i n : Nat) (E : Nat → Nat) (hD : ∀ j, j < N → D j < 65536) (hi : i < N) (hW : W < 65536) (b : Nat) (hb : 65536 * 65536 ≤ b) (hE : ∀ t, E t ≤ i * b) : ∀ t, it (cnI D W P i) n E t ≤ i * b + (if t < i + n then b else 0) := by
  induction n with
  | zero => intro t; exact Nat.le_trans (hE t) (Nat.le_add_right _ _)
  | succ n ih =>
    intro t
    show va_up (it (cnI D W P i) n E) (i + n) (it (cnI D W P i) n E (i + n) + D i * dgW W P n) t ≤ _
    have h1 := ih t
    unfold va_up
    by_cases c : t = i + n
    · rw [if_pos c, if_pos (by omega)]
      rw [← c]
      rw [if_neg (by omega)] at h1
      have h2 : dgW W P n < 65536 := by unfold dgW; split <;> omega
      have h3 : D i * dgW W P n ≤ 65536 * 65536 := Nat.mul_le_mul (Nat.le_of_lt (hD i hi)) (Nat.le_of_lt h2)
      omega
    · rw [if_neg c]
      by_cases c2 : t < i + n
      · rw [if_pos c2] at h1; rw [if_pos (by omega)]; exact h1
      · rw [if_neg c2] at h1; rw [if_neg (by omega)]; exact h1
theorem cnF_le (N : Nat) (D : Nat → Nat) (W P n : Nat) (hn : n ≤ N) (hD : ∀ j, j < N → D j < 65536) (hW : W < 65536) (b : Nat) (hb : 65536 * 65536 ≤ b) : ∀ t, it (cnF N D W P) n (fun _ => 0) t ≤ n * b := by
  induction n with
  | zero => intro t; exact Nat.zero_le _
  | succ n ih =>
    intro t
    have h1 := cnI_le N D W P n (cnM N n) _ hD (by omega) hW b hb (ih (by omega)) t
    have h2 : it (cnF N D W P) (n + 1) (fun _ => 0) t = it (cnI D W P n) (cnM N n) (it (cnF N D W P) n (fun _ => 0)) t := rfl
    rw [h2, Nat.succ_mul]
    split at h1 <;> omega
abbrev NC : Type := Nat × (Nat → Nat)
def nrF (E : Nat → Nat) : Nat → NC → NC := fun i s => ((s.1 + E i) / 65536, va_up s.2 i ((s.1 + E i) % 65536))
theorem nr_inv (E D : Nat → Nat) (n : Nat) : vl (it (nrF E) n (0, D)).2 n + (it (nrF E) n (0, D)).1 * 65536 ^ n = vl E n ∧ ∀ j, j < n → (it (nrF E) n (0, D)).2 j < 65536 := by
  induction n with
  | zero => exact ⟨rfl, fun j hj => absurd hj (by omega)⟩
  | succ n ih =>
    show vl (nrF E n (it (nrF E) n (0, D))).2 (n + 1) + (nrF E n (it (nrF E) n (0, D))).1 * 65536 ^ (n + 1) = vl E n + E n * 65536 ^ n ∧ ∀ j, j < n + 1 → (nrF E n (it (nrF E) n (0, D))).2 j < 65536
    generalize it (nrF E) n (0, D) = s at ih ⊢
    obtain ⟨h1, h2⟩ := ih
    refine ⟨?_, fun j hj => ?_⟩
    · show vl (va_up s.2 n ((s.1 + E n) % 65536)) n + va_up s.2 n ((s.1 + E n) % 65536) n * 65536 ^ n + (s.1 + E n) / 65536 * 65536 ^ (n + 1) = _
      rw [va_up_self, vl_eq (D := va_up s.2 n ((s.1 + E n) % 65536)) (E := s.2) n (fun j hj => if_neg (show ¬ j = n by omega)), ← h1, Nat.pow_succ]
      have e : (s.1 + E n) % 65536 * 65536 ^ n + (s.1 + E n) / 65536 * (65536 ^ n * 65536) = (s.1 + E n) * 65536 ^ n := by
        rw [Nat.mul_comm (65536 ^ n) 65536, ← Nat.mul_assoc, ← Nat.add_mul]
        congr 1
        omega
      rw [Nat.add_mul] at e
      omega
    · show va_up s.2 n ((s.1 + E n) % 65536) j < 65536
      unfold va_up
      by_cases c : j = n
      · rw [if_pos c]; omega
      · rw [if_neg c]; exact h2 j (by omega)
theorem nr_c (E D : Nat → Nat) (n : Nat) (hE : ∀ j, j < n → E j ≤ 16 * 2 ^ 32) : (it (nrF E) n (0, D)).1 ≤ 2 ^ 32 := by
  induction n with
  | zero => exact Nat.zero_le _
  | succ n ih =>
    have h1 := ih (fun j hj => hE j (by omega))
    have h2 := hE n (by omega)
    show ((it (nrF E) n (0, D)).1 + E n) / 65536 ≤ 2 ^ 32
    omega
def mul1 (N W P : Nat) : Nat → (Nat → Nat) → Nat → Nat := fun _ D => (it (nrF (cnv N D W P)) N (0, D)).2
def pwr (N W P n : Nat) : Nat → Nat := it (mul1 N W P) n (fun i => if i = 0 then 1 else 0)
theorem pwr_ok (N W P n : Nat) (hN : 0 < N) (hP : P < 2 ^ 64) : (∀ j, j < N → pwr N W P n j < 65536) ∧ vl (pwr N W P n) N = (W * 2 ^ 64 + P) ^ n % 65536 ^ N := by
  induction n with
  | zero =>
    refine ⟨fun j _ => ?_, ?_⟩
    · show (if j = 0 then 1 else 0) < 65536
      split <;> decide
    · rw [Nat.pow_zero, Nat.mod_eq_of_lt (Nat.one_lt_pow (by omega) (by decide))]
      have key : ∀ n, 0 < n → vl (fun i => if i = 0 then 1 else 0) n = 1 := by
        intro n hn
        induction n with
        | zero => omega
        | succ n ih =>
          show vl (fun i => if i = 0 then 1 else 0) n + (if n = 0 then 1 else 0) * 65536 ^ n = 1
          by_cases c : n = 0
          · subst c; rfl
          · rw [if_neg c, ih (by omega), Nat.zero_mul]
      exact key N hN
  | succ n ih =>
    obtain ⟨a1, a2⟩ := ih
    show (∀ j, j < N → (it (nrF (cnv N (pwr N W P n) W P)) N (0, pwr N W P n)).2 j < 65536) ∧ vl (it (nrF (cnv N (pwr N W P n) W P)) N (0, pwr N W P n)).2 N = _
    obtain ⟨b1, b2⟩ := nr_inv (cnv N (pwr N W P n) W P) (pwr N W P n) N
    refine ⟨b2, ?_⟩
    have c1 := vl_lt _ N b2
    have c2 := cnv_vl N (pwr N W P n) W P
    rw [dg_sum W P hP, a2] at c2
    rw [← b1, Nat.add_mul_mod_self_right, Nat.mod_eq_of_lt c1] at c2
    rw [c2, Nat.mod_mul_mod, ← Nat.pow_succ]
def tpN (N W P p : Nat) : Nat := pwr N W P p (4 * p) + pwr N W P p (4 * p + 1) * 65536
theorem vl_0 (D : Nat → Nat) (n : Nat) : (∀ j, j < n → D j = 0) ↔ vl D n = 0 := by
  induction n with
  | zero => exact ⟨fun _ => rfl, fun _ j hj => absurd hj (by omega)⟩
  | succ n ih =>
    have hp : 0 < 65536 ^ n := Nat.pow_pos (by decide)
    constructor
    · intro h
      show vl D n + D n * 65536 ^ n = 0
      rw [ih.mp (fun j hj => h j (by omega)), h n (by omega), Nat.zero_mul]
    · intro h j hj
      have h' : vl D n + D n * 65536 ^ n = 0 := h
      have h1 : D n * 65536 ^ n = 0 := by omega
      have h2 : D n = 0 := by
        rcases Nat.mul_eq_zero.mp h1 with h | h
        · exact h
        · omega
      by_cases c : j = n
      · rw [c]; exact h2
      · exact ih.mpr (by omega) j (by omega)
theorem abv_ok (N W P p num : Nat) (hP : P < 2 ^ 64) (hV : (W * 2 ^ 64 + P) ^ p < 65536 ^ (4 * p + 2)) (hp : 4 * p + 2 ≤ N) : (num < tpN N W P p ∨ (tpN N W P p = num ∧ ¬ ∀ j, j < 4 * p → pwr N W P p j = 0)) ↔ num * 65536 ^ (4 * p) < (W * 2 ^ 64 + P) ^ p := by
  obtain ⟨a1, a2⟩ := pwr_ok N W P p (by omega) hP
  have hlt : 65536 ^ (4 * p + 2) ≤ 65536 ^ N := Nat.pow_le_pow_right (by decide) hp
  rw [Nat.mod_eq_of_lt (by omega)] at a2
  have b1 := vl_add (pwr N W P p) (4 * p + 2) (N - (4 * p + 2))
  rw [show 4 * p + 2 + (N - (4 * p + 2)) = N by omega] at b1
  generalize hz : vl (fun j => pwr N W P p (4 * p + 2 + j)) (N - (4 * p + 2)) = z at b1
  have hz0 : z = 0 := by
    cases z with
    | zero => rfl
    | succ z =>
      rw [Nat.mul_succ] at b1
      omega
  subst hz0
  have b2 : vl (pwr N W P p) (4 * p + 2) = vl (pwr N W P p) (4 * p) + pwr N W P p (4 * p) * 65536 ^ (4 * p) + pwr N W P p (4 * p + 1) * 65536 ^ (4 * p + 1) := rfl
  have b3 := vl_lt (pwr N W P p) (4 * p) (fun j hj => a1 j (by omega))
  have e : vl (pwr N W P p) (4 * p) + tpN N W P p * 65536 ^ (4 * p) = (W * 2 ^ 64 + P) ^ p := by
    rw [← a2, b1, b2, Nat.mul_zero]
    unfold tpN
    rw [Nat.add_mul, Nat.pow_succ, Nat.mul_assoc, Nat.mul_comm 65536 (65536 ^ (4 * p))]
    omega
  rw [vl_0, ← e]
  generalize vl (pwr N W P p) (4 * p) = r at b3 ⊢
  generalize tpN N W P p = t
  generalize 65536 ^ (4 * p) = m at b3 ⊢
  constructor
  · rintro (h | ⟨h1, h2⟩)
    · have h3 : (num + 1) * m ≤ t * m := Nat.mul_le_mul_right _ h
      rw [Nat.succ_mul] at h3
      omega
    · subst h1
      omega
  · intro h
    rcases Nat.lt_trichotomy num t with h1 | h1 | h1
    · exact Or.inl h1
    · subst h1
      exact Or.inr ⟨rfl, by omega⟩
    · have h3 : (t + 1) * m ≤ num * m := Nat.mul_le_mul_right _ h1
      rw [Nat.succ_mul] at h3
      omega
