/-- places that few methods write -/
abbrev spP (c p : Int) : Prop := (c = 336 ∧ (p = 1 ∨ p = 2 ∨ p = 21 ∨ p = 22)) ∨ c = 337 ∨ c = 355 ∨ c = 356 ∨ c = 357 ∨ ((c = 3 ∨ c = 76 ∨ c = 101 ∨ c = 126 ∨ c = 151) ∧ (p = 2 ∨ p = 3 ∨ p = 9)) ∨ (c = 346 ∧ (p = 9 ∨ (0 ≤ p ∧ p ≤ 6))) ∨ (c = 1 ∧ p = 1) ∨ c = 2 ∨ (c = 0 ∧ p = 7)
