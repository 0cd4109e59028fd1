def lSc : List Int := [3, 76, 101, 126, 151]
