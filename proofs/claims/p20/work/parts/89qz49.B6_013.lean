abbrev gTc (m : Mm) (a b c d : Int) : Prop := ¬ m 4 0 = 0 ∧ ¬ b = -1 ∧ (0 ≤ a ∧ a ≤ 999) ∧ (0 ≤ d ∧ d ≤ 999) ∧ (1 ≤ b ∧ b ≤ 20) ∧ (0 ≤ c ∧ c ≤ 99) ∧ m 3 4 < 10
