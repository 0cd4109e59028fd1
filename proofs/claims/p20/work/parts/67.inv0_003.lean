def okb (b : Int × Int) (v : Int) : Prop := b.2 < b.1 ∨ (b.1 ≤ v ∧ v ≤ b.2)
