theorem ck_5 : ∀ p : Nat, p < 36 → p < pT.getD 5 0 ∧ ini 5 p = 0 := by decide +kernel
