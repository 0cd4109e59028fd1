theorem tx7 : ∀ i, i < txN → txL.getD i 0 < 2 ^ 31 := by decide +kernel
