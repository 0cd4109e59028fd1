theorem txA : ∀ i, i < 21 → tables_1[txP.getD i 0]? = (txR[i]?).map (fun q => Cond.stringRef q.1 q.2.1 q.2.2.1) := by decide +kernel
