theorem rq_57 : ∀ a : Nat, a < 8 → bd 342 (57 + 3 * a) = (0, 5) ∧ bd 342 (57 + 3 * a + 1) = (0, 5) ∧ bd 342 (57 + 3 * a + 2) = (0, 5) := by decide +kernel
theorem rq_hp : ∀ a : Nat, a < 5 → 10 + 5 * a < pT.getD 342 0 ∧ bd 342 (10 + 5 * a) = (0, 5) := by decide +kernel
theorem rq_jp : ∀ a : Nat, a < 4 → 35 + 4 * a < pT.getD 342 0 ∧ bd 342 (35 + 4 * a) = (0, 5) := by decide +kernel
