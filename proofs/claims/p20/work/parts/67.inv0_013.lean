abbrev spX (X : Mm) (c p : Int) : Prop := spP c p ∨ (c = 338 ∧ p < 400 * X 336 2) ∨ (c = 340 ∧ p < 48 * X 336 2) ∨ (c = 341 ∧ p < X 336 2)
