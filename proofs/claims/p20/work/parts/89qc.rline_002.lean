theorem Rd.up {D : Dd} {m m' : Mm} {c v : Int} (h : Rd D m) (f : ∀ p : Int, ¬ p = c → m' 342 p = m 342 p) (x : m' 342 c = v) : Rd (ud D c v) m' := by
  intro p p0 p1
  by_cases e : p = c
  · rw [e, x, ud_at]
  · rw [f p e, ud_ne e]
    exact h p p0 p1
