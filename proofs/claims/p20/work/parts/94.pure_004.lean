theorem iT_st : iT.getD 346 [] = [0] ∧ iT.getD 354 [] = [0] ∧ iT.getD 357 [] = [0] ∧ iT.getD 356 [] = [0] ∧ iT.getD 30 [] = [-2] := by decide +kernel
