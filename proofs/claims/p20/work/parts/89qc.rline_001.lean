theorem Rd.same {D : Dd} {m m' : Mm} (h : Rd D m) (f : ∀ p : Int, m' 342 p = m 342 p) : Rd D m' := fun p p0 p1 => (f p).trans (h p p0 p1)
