theorem mk_t : mk9 true = -1 := by decide +kernel
theorem and_mk (x : Int64) : x &&& mk9 true = x := by rw [mk_t]; simp
theorem lush_0 (x : Int64) : lush x (nI 0) = x := by
  unfold lush
  rw [show (nI 0).toInt64.toUInt64 &&& Int64.toUInt64 63 = 0 by decide]
  simp
theorem rot_t (x : Int64) (n : Int32) : rotrC true x n = rightR x n := by
  unfold rotrC rightR
  rw [and_mk]
  rfl
theorem thr_t3 (x : Int64) : thr true x 3 = rightR x (nI 14) ^^^ rightR x (nI 18) ^^^ rightR x (nI 41) := by
  unfold thr
  rw [rot_t, rot_t, rot_t]
  rfl
theorem thr_t0 (x : Int64) : thr true x 0 = rightR x (nI 28) ^^^ rightR x (nI 34) ^^^ rightR x (nI 39) := by
  unfold thr
  rw [rot_t, rot_t, rot_t]
  rfl
theorem tws_t9 (x : Int64) : tws true x 9 = rightR x (nI 19) ^^^ rightR x (nI 61) ^^^ lush x (nI 6) := by
  unfold tws
  rw [rot_t, rot_t]
  rfl
theorem tws_t6 (x : Int64) : tws true x 6 = rightR x (nI 1) ^^^ rightR x (nI 8) ^^^ lush x (nI 7) := by
  unfold tws
  rw [rot_t, rot_t]
  rfl
theorem up_up {α : Type} (f : Nat → α) (k : Nat) (a b : α) : va_up (va_up f k a) k b = va_up f k b := by
  funext j
  unfold va_up
  by_cases h : j = k
  · rw [if_pos h, if_pos h]
  · rw [if_neg h, if_neg h, if_neg h]
def w6V (g : Nat → Int8) (t : Nat) : Nat → Int64 → Int64 := fun k s => lshl s (nI 8) ||| ((g (8 * t + k)).toInt32.toInt64 &&& 255)
theorem w6I_v (g : Nat → Int8) (t n : Nat) (w : Nat → Int64) (a : Int64) : it (w6I g t) n (va_up w t a) = va_up w t (it (w6V g t) n a) := by
  induction n with
  | zero => rfl
  | succ n ih =>
    show w6I g t n (it (w6I g t) n (va_up w t a)) = _
    rw [ih]
    unfold w6I
    rw [va_up_self, up_up]
    rfl
theorem w6F_v (g : Nat → Int8) (t : Nat) (w : Nat → Int64) : w6F g t w = va_up w t (it (w6V g t) 8 0) := w6I_v g t 8 w 0
theorem it_eq {σ : Type} {F F2 : Nat → σ → σ} {n : Nat} (h : ∀ k s, k < n → F k s = F2 k s) (s : σ) : it F n s = it F2 n s := by
  induction n with
  | zero => rfl
  | succ n ih =>
    show F n (it F n s) = F2 n (it F2 n s)
    rw [ih (fun k s hk => h k s (by omega)), h n _ (by omega)]
theorem wd_t (g g2 : Nat → Int8) (t : Nat) (ht : t < 16) (h : ∀ j, j < 128 → g j = g2 j) : wd1 true g t = it (w6V g2 t) 8 0 := by
  show it (wdF true g t) 8 0 = _
  refine it_eq (fun k s hk => ?_) 0
  show lshl s (nI 8) ||| (ub (g (t * 8 + k))).toInt64 = _
  rw [ub_l, h _ (by omega), Nat.mul_comm t 8]
  rfl
