theorem tx6 : ∀ i, i < txN → ∀ j, j < txN → i < j → Cond.not (Cond.eq (txT i) (txT j)) ∈ FL ∨ Cond.not (Cond.eq (txT j) (txT i)) ∈ FL := by
  intro i hi j hj hij
  have key : ∃ p : Nat, FL[p]? = some (Cond.not (Cond.eq (txT i) (txT j))) ∨ FL[p]? = some (Cond.not (Cond.eq (txT j) (txT i))) := by
    match i, hi, hij with
    | 0, _, hij => exact ⟨_, tx6_0 j hj hij⟩
    | 1, _, hij => exact ⟨_, tx6_1 j hj hij⟩
    | 2, _, hij => exact ⟨_, tx6_2 j hj hij⟩
    | 3, _, hij => exact ⟨_, tx6_3 j hj hij⟩
    | 4, _, hij => exact ⟨_, tx6_4 j hj hij⟩
    | 5, _, hij => exact ⟨_, tx6_5 j hj hij⟩
    | 6, _, hij => exact ⟨_, tx6_6 j hj hij⟩
    | 7, _, hij => exact ⟨_, tx6_7 j hj hij⟩
    | 8, _, hij => exact ⟨_, tx6_8 j hj hij⟩
    | 9, _, hij => exact ⟨_, tx6_9 j hj hij⟩
    | 10, _, hij => exact ⟨_, tx6_10 j hj hij⟩
    | 11, _, hij => exact ⟨_, tx6_11 j hj hij⟩
    | 12, _, hij => exact ⟨_, tx6_12 j hj hij⟩
    | 13, _, hij => exact ⟨_, tx6_13 j hj hij⟩
    | 14, _, hij => exact ⟨_, tx6_14 j hj hij⟩
    | 15, _, hij => exact ⟨_, tx6_15 j hj hij⟩
    | q + 16, hi, hij => exact absurd hj (by have : txN = 17 := rfl; omega)
  obtain ⟨p, h | h⟩ := key
  · exact Or.inl (List.mem_of_getElem? h)
  · exact Or.inr (List.mem_of_getElem? h)
