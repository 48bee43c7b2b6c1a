theorem law_true (xs : Nat → Int32) (L z : Nat) (hL : L ≤ 2560) : ∃ (N : Nat) (hf : Hp), J_Law_law N xs L (z, fun _ => none) = some (1, hf) := by
  sorry
