theorem ty_n1 : ∀ (V : List Int) (D D' : List Bool), V.foldl ty1 (some D) = some D' → ∀ x : Int, x ∈ V → ¬ x = -1 := by
  intro V
  induction V with
  | nil => intro D D' _ x hx; cases hx
  | cons y V ih =>
    intro D D' h x hx
    obtain ⟨E, h1, h2⟩ := ty_split h
    rcases List.mem_cons.mp hx with e | e
    · rw [e]
      have := ty_cases h1
      omega
    · exact ih E D' h2 x e
