/-! feed, end, force, seed, test, undo, image, back: alike they stay -/
abbrev KZ (c p : Int) : Prop := (4 ≤ c ∧ c ≤ 27) ∨ (c = 3 ∧ (p = 2 ∨ p = 4)) ∨ (76 ≤ c ∧ c ≤ 335) ∨ c = 346 ∨ c = 347 ∨ c = 354 ∨ c = 357 ∨ (c = 0 ∧ (p = 4 ∨ p = 5)) ∨ (c = 336 ∧ (p = 25 ∨ p = 23 ∨ p = 2)) ∨ (c = 55 ∧ (p = 1 ∨ p = 2)) ∨ 358 ≤ c ∨ c = 30 ∨ c = 338 ∨ c = 340 ∨ c = 341
