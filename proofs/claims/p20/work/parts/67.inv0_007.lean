abbrev isTo (c : Int) : Prop := c ∈ lTo
