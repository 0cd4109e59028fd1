theorem nwA_3 : ∀ i, i < 25 → tables_1[nwP.getD (75 + i) 0]? = (nwT[75 + i]?).map nwC := by decide +kernel
