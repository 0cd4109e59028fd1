theorem RwR.low {m m' : Mm} {r : Int} {Cs : List Cz} (a2 : RwR m r Cs) (r0 : 0 ≤ r) (F : ∀ c p : Int, (c = 338 ∧ p < 400 * (r + 1)) ∨ (c = 340 ∧ p < 48 * (r + 1)) ∨ (c = 341 ∧ p < r + 1) → m' c p = m c p) : RwR m' r Cs := by
  obtain ⟨r1, r2, r3, r4, r5⟩ := a2
  refine ⟨?_, ?_, by rw [F 341 _ (by omega)]; exact r3, r4, r5⟩
  · refine Hs.same _ _ (fun j j0 j1 => F 338 _ (Or.inl ⟨rfl, ?_⟩)) r1
    rw [List.length_map] at j1
    omega
  · exact Tbl.same Cs 0 0 (fun p q => F 340 p (by omega)) r2
