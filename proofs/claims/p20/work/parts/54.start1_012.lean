theorem tx3 : ∀ i, i < txN → Cond.arrayOf (.field (txT i) "java/lang/String" "value" "[B") .byte ∈ FL := by decide +kernel
