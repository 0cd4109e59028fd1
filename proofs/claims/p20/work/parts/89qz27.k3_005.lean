theorem codC_snoc : ∀ (l : List Cz) (c : Cz), codC (l ++ [c]) = codC l ++ cod1 c ∧ rowC (l ++ [c]) = rowC l ++ row1 c := by
  intro l c
  induction l with
  | nil => exact ⟨List.append_nil _, List.append_nil _⟩
  | cons d l ih =>
    refine ⟨?_, ?_⟩
    · show cod1 d ++ codC (l ++ [c]) = (cod1 d ++ codC l) ++ cod1 c
      rw [ih.1, List.append_assoc]
    · show row1 d ++ rowC (l ++ [c]) = (row1 d ++ rowC l) ++ row1 c
      rw [ih.2, List.append_assoc]
