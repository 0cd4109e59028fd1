theorem H2_none {f : Int → Int} (h : ∀ p : Int, 0 ≤ p → p < 4 → f p = -1) : H2 f := by
  intro g g0
  have e : hbt f g 4 = 0 := hbt_ext (f := f) (h := g) (n := 0) 4 (fun j j0 j1 => by rw [h j (by omega) (by omega)]; omega)
  rw [e]; decide
