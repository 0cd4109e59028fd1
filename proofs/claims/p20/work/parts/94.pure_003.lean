theorem pT_st : pT.getD 336 0 = 38 ∧ pT.getD 357 0 = 4 ∧ pT.getD 356 0 = 4 ∧ pT.getD 30 0 = 6 ∧ pT.getD 55 0 = 12 := by decide +kernel
