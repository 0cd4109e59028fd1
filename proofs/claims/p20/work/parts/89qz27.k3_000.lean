/-! a clause: the signs of its SUM, whether it has a TEST, the signs of that -/
abbrev Cz : Type := List Int × Bool × List Int
