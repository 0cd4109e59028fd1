def lTo : List Int := [4, 32, 77, 102, 127, 152]
