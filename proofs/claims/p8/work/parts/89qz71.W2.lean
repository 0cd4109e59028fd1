/-! WAY and BRINGS of both sides -/
theorem RZ.wk {S : Sh} {M : Mm} {n : Int} (h : RZ S M n) : Wok (M 4 0) (M 5) (M 6) := h.2.2.2.1.2.2.1
theorem RZ.fb {S : Sh} {M : Mm} {n : Int} (h : RZ S M n) : ∀ p : Int, 0 ≤ p → p < 36 → M 5 p ≤ 5 := fun p p0 p1 => (h.inv.a_5 (i := p) p0 p1).2
