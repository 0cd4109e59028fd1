theorem nwA : ∀ q ∈ nwT, nwC q ∈ lw_tbl := by
  intro q hq
  obtain ⟨i, hi⟩ := List.getElem?_of_mem hq
  have hl : i < 100 := (List.getElem?_eq_some_iff.mp hi).1
  have key : tables_1[nwP.getD i 0]? = (nwT[i]?).map nwC := by
    rcases (show i < 25 ∨ (25 ≤ i ∧ i < 50) ∨ (50 ≤ i ∧ i < 75) ∨ (75 ≤ i ∧ i < 100) by omega) with h | h | h | h
    · have := nwA_0 i h; rwa [Nat.zero_add] at this
    · have := nwA_1 (i - 25) (by omega); rwa [show 25 + (i - 25) = i by omega] at this
    · have := nwA_2 (i - 50) (by omega); rwa [show 50 + (i - 50) = i by omega] at this
    · have := nwA_3 (i - 75) (by omega); rwa [show 75 + (i - 75) = i by omega] at this
  rw [hi] at key
  exact List.mem_append_right _ (List.mem_of_getElem? key)
