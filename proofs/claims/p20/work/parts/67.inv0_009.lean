abbrev isSc (c : Int) : Prop := c ∈ lSc
