theorem okb_n {b : Int × Int} {v : Int} (hb : b = (1, 0)) : okb b v := by
  subst hb
  exact Or.inl (by decide)
