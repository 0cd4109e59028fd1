theorem nwA_1 : ∀ i, i < 25 → tables_1[nwP.getD (25 + i) 0]? = (nwT[25 + i]?).map nwC := by decide +kernel
