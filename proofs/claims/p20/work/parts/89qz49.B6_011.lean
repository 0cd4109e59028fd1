abbrev gTs (m : Mm) (a b c d : Int) : Prop := ¬ m 346 0 = 0 ∧ (0 ≤ a ∧ a ≤ 999) ∧ (1 ≤ b ∧ b ≤ 20) ∧ (0 ≤ c ∧ c ≤ 99) ∧ (0 ≤ d ∧ d ≤ 999) ∧ ¬ m 346 157 = 10
