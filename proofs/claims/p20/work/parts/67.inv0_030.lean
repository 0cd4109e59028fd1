theorem okb_of {b : Int × Int} {l u v : Int} (hb : b = (l, u)) (hl : l ≤ v) (hu : v ≤ u) : okb b v := by
  subst hb
  exact Or.inr ⟨hl, hu⟩
