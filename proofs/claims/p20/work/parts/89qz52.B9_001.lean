/-- a place of the row that is free -/
def fre (D : Dd) (c : Int) : Prop := ¬ (3 ≤ c ∧ c ≤ 9) ∧ (∀ i : Int, 0 ≤ i → i < D 4 → ¬ 10 + 5 * i + 1 = c ∧ ¬ 10 + 5 * i + 2 = c) ∧ (∀ j : Int, 0 ≤ j → j < D 5 → ¬ 35 + 4 * j + 1 = c ∧ ¬ 35 + 4 * j + 3 = c) ∧ (∀ w : Int, 0 ≤ w → w < D 6 → ¬ 51 + w = c) ∧ (∀ k : Int, 0 ≤ k → k < D 3 → ¬ 57 + 3 * k = c ∧ ¬ 57 + 3 * k + 1 = c)
