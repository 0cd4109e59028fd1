theorem ck_sl : ∀ p : Nat, p < 4 → (p < pT.getD 20 0 ∧ ini 20 p = -1) ∧ (p < pT.getD 21 0 ∧ ini 21 p = -1) := by decide +kernel
