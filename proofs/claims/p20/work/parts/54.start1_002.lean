theorem nwA_0 : ∀ i, i < 25 → tables_1[nwP.getD (0 + i) 0]? = (nwT[0 + i]?).map nwC := by decide +kernel
