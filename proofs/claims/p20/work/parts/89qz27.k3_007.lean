/-- a SUM is a number, a TEST a test -/
def Tyc (c : Cz) : Prop := tyl c.1 = some [false] ∧ (c.2.1 = true → tyl c.2.2 = some [true])
