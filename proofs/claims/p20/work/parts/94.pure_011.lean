theorem ck_ps : ∀ r : Nat, r < 20 → (0 < pT.getD (176 + 8 * r) 0 ∧ ini (176 + 8 * r) 0 = 0) ∧ ∀ p : Nat, p < 4 → p < pT.getD (181 + 8 * r) 0 ∧ ini (181 + 8 * r) p = -1 := by decide +kernel
