/-- sums of lengths -/
def usum (f : Nat → Int) : Nat → Int
  | 0 => 0
  | n + 1 => usum f n + f n
theorem usum_b {f : Nat → Int} {n : Nat} (h : ∀ j, j < n → 1 ≤ f j ∧ f j ≤ 16) : (n : Int) ≤ usum f n ∧ usum f n ≤ 16 * n := by
  induction n with
  | zero => simp [usum]
  | succ n ih =>
    have h1 := ih (fun j hj => h j (by omega))
    have h2 := h n (by omega)
    simp only [usum]
    omega
