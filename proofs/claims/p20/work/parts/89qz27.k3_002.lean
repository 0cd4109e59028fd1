def row1 (c : Cz) : List Int := c.1 ++ c.2.2
