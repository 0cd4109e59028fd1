abbrev lw3 (m : Mm) (c p : Int) : Prop := (c = 338 ∧ p < 400 * m 336 2) ∨ (c = 340 ∧ p < 48 * m 336 2) ∨ (c = 341 ∧ p < m 336 2)
