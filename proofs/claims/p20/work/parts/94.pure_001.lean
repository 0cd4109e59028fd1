theorem ck_ini : ∀ c : Nat, c < 358 → ∀ q : Nat, q < (bT.getD c []).length → ((bd c q).2 < (bd c q).1 ∨ ((bd c q).1 ≤ ini c q ∧ ini c q ≤ (bd c q).2)) := by decide +kernel
