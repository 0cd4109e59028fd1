theorem iT_tp : iT.getD 2 [] = [0] ∧ iT.getD 337 [] = [0] ∧ pT.getD 2 0 = 400 ∧ pT.getD 337 0 = 400 := by decide +kernel
