/-! the pure part: shares and their bits -/
def oeq (x y : Option Int64) : Bool := match x, y with
  | some a, some b => decide (a = b)
  | _, _ => false
theorem oeq_eq {x y : Option Int64} (h : oeq x y = true) : x = y ∧ y.isSome = true := by
  unfold oeq at h
  cases x with
  | none => cases y <;> exact absurd h (by simp)
  | some a =>
    cases y with
    | none => exact absurd h (by simp)
    | some b => exact ⟨by rw [of_decide_eq_true h], rfl⟩
def t_nb (n a : Nat) : Bool := n64b (FP.ddiv (FP.i2d (nI a)) (FP.i2d (nI n))) && oeq (f_X5_bitsOf (FP.ddiv (FP.i2d (nI a)) (FP.i2d (nI n)))) (f_X6_bits (FP.ddiv (FP.i2d (nI a)) (FP.i2d (nI n))))
set_option maxRecDepth 100000 in
theorem t_nball : (List.range 10).all (fun n => (List.range (n + 2)).all (fun a => t_nb (n + 1) a)) = true := by decide +kernel
set_option maxRecDepth 100000 in
theorem t_bit1b : oeq (f_X5_bitsOf FP.dconst1) (f_X6_bits FP.dconst1) = true := by decide +kernel
theorem t_bit1 : f_X5_bitsOf FP.dconst1 = f_X6_bits FP.dconst1 ∧ (f_X6_bits FP.dconst1).isSome = true := oeq_eq t_bit1b
theorem t_n64 {n a : Nat} (hn : n < 11) (h0 : 0 < n) (ha : a ≤ n) : n64b (FP.ddiv (FP.i2d (nI a)) (FP.i2d (nI n))) = true ∧ f_X5_bitsOf (FP.ddiv (FP.i2d (nI a)) (FP.i2d (nI n))) = f_X6_bits (FP.ddiv (FP.i2d (nI a)) (FP.i2d (nI n))) ∧ (f_X6_bits (FP.ddiv (FP.i2d (nI a)) (FP.i2d (nI n)))).isSome = true := by
  have h1 := List.all_eq_true.mp t_nball (n - 1) (List.mem_range.mpr (by omega))
  have h2 := List.all_eq_true.mp h1 a (List.mem_range.mpr (by omega))
  rw [show n - 1 + 1 = n from by omega] at h2
  unfold t_nb at h2
  rw [Bool.and_eq_true] at h2
  exact ⟨h2.1, oeq_eq h2.2⟩
