/-- the reference's row `read` is as told -/
def Rd (D : Dd) (M : Mm) : Prop := ∀ p : Int, 0 ≤ p → p < 117 → M 342 p = D p
