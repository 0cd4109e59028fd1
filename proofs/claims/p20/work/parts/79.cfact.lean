theorem wrd_no {b : Int → Int} {n q : Int} {k : Nat} (h : Wk b n k q) (h2 : 2 ≤ tl k) : q < n ∧ b q = tw k 0 := by
  have z := h.1 0 (by omega) (by omega)
  rw [Int.add_zero] at z
  exact z
