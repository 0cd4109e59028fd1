theorem tx1 : ∀ i, i < txN → Cond.exactly (txT i) "java/lang/String" ∈ FL := by decide +kernel
