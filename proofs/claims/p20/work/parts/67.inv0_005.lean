abbrev isSt (c : Int) : Prop := c ∈ lSt
