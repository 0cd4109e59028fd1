theorem tx4 : ∀ i, i < txN → Cond.eq (.length (.field (txT i) "java/lang/String" "value" "[B")) (.int (Int32.ofNat (txL.getD i 0))) ∈ FL := by decide +kernel
