/-! MATCH of the reference: all rows one after another -/
theorem pw_b : ∀ b : Nat, b < 6 → ∀ k : Nat, k < 7 → b ^ k ≤ 15625 := by decide +kernel
