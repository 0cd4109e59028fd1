/-- STAGE B: the law over numbers, for every script -/
theorem pure_law (L : Nat) (xs : Nat → Int32) (hL : L ≤ 3072) : wp_start L xs := by
  sorry
