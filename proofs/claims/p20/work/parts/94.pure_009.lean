theorem ck_to : ∀ k : Nat, k < 4 → 0 < pT.getD (77 + 25 * k) 0 ∧ ini (77 + 25 * k) 0 = 0 := by decide +kernel
