def cod1 (c : Cz) : List Int := c.1 ++ (c.2.2 ++ [if c.2.1 then -26 else -25])
