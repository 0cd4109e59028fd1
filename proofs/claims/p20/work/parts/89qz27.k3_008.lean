/-- between clauses -/
def Lx (b : Int → Int) (n : Int) (T : Int → List Int → Prop) (O0 R0 : List Int) (M : Mm) (m : Int) (W V : List Int) (k : Int) : Prop := (∀ (f : Int) (E : List Int), Bcc b n m (M 336 8) (M 336 12) [] (O0 ++ W) k f E → T f E) ∧ M 336 9 = 0 ∧ M 336 8 ≤ n ∧ RQ M (R0 ++ V)
