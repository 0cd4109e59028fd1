theorem ck_len : ∀ c : Nat, c < 358 → 0 < (bT.getD c []).length ∧ ((iT.getD c []).length = 1 ∨ (iT.getD c []).length = (bT.getD c []).length) := by decide +kernel
