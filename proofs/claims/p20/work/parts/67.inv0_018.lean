def PlOK (f : Int → Int) (P H J : Int) : Prop := (∀ h : Int, 0 ≤ h → h < H → f (10 + 5 * h) < P) ∧ (∀ j : Int, 0 ≤ j → j < J → f (35 + 4 * j) < P)
