def Good (X : Mm) : Prop := X 336 21 < X 336 2 ∧ (∀ k : Int, 0 ≤ k → k < 4 → X 357 k = 0 ∨ X 355 k < X 336 2) ∧ (0 ≤ X 336 2 ∧ X 336 2 ≤ 6) ∧ ∀ t : Int, 0 ≤ t → t < X 336 2 → rulOK X t
