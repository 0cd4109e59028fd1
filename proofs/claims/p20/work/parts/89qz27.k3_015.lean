theorem Tbl.snoc {M : Mm} {t : Int} : ∀ (l : List Cz) (i a : Int) (c : Cz), Tbl M t i a l → Tyc c → Ent M t (i + (l.length : Int)) (a + ((rowC l).length : Int)) c → Tbl M t i a (l ++ [c]) := by
  intro l
  induction l with
  | nil =>
    intro i a c _ hy h
    have h2 : Ent M t (i + ((0 : Nat) : Int)) (a + ((0 : Nat) : Int)) c := h
    rw [show i + ((0 : Nat) : Int) = i by omega, show a + ((0 : Nat) : Int) = a by omega] at h2
    exact ⟨⟨hy, h2⟩, trivial⟩
  | cons d l ih =>
    intro i a c z hy h
    refine ⟨z.1, ih (i + 1) _ c z.2 hy ?_⟩
    have e1 : ((d :: l).length : Int) = (l.length : Int) + 1 := by rw [List.length_cons]; omega
    have e2 : ((rowC (d :: l)).length : Int) = ((row1 d).length : Int) + ((rowC l).length : Int) := by
      show ((row1 d ++ rowC l).length : Int) = _
      rw [List.length_append]; omega
    rw [e1, e2] at h
    rw [show i + 1 + (l.length : Int) = i + ((l.length : Int) + 1) by omega, show a + ((row1 d).length : Int) + ((rowC l).length : Int) = a + (((row1 d).length : Int) + ((rowC l).length : Int)) by omega]
    exact h
