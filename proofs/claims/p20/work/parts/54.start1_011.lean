theorem tx2 : ∀ i, i < txN → Cond.eq (.field (txT i) "java/lang/String" "coder" "B") (.int 0) ∈ FL := by decide +kernel
