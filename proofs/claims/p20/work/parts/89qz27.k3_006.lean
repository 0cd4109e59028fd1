/-- where clause i of row t lies: from a on -/
def Ent (M : Mm) (t i a : Int) (c : Cz) : Prop := M 340 (48 * t + 4 * i) = a ∧ M 340 (48 * t + 4 * i + 1) = a + (c.1.length : Int) ∧ ((c.2.1 = false ∧ c.2.2 = [] ∧ M 340 (48 * t + 4 * i + 2) = -1) ∨ (c.2.1 = true ∧ M 340 (48 * t + 4 * i + 2) = a + (c.1.length : Int) ∧ M 340 (48 * t + 4 * i + 3) = a + (c.1.length : Int) + (c.2.2.length : Int)))
