theorem pure_law (xs : Nat → Int32) (L : Nat) (hL : L ≤ 3584) : ∃ A', fL_law xs L xs_A0 = some (.inl (some (.int 1)), A') := by
  sorry
