theorem nwA_2 : ∀ i, i < 25 → tables_1[nwP.getD (50 + i) 0]? = (nwT[50 + i]?).map nwC := by decide +kernel
