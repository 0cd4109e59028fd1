theorem Inv.rd {X : Mm} {S : Sh} {M : Mm} (h : Inv X S M) (c p : Nat) (l u : Int) (hc : c < 358) (hp : p < pT.getD c 0) (hb : bd c p = (l, u)) (hlu : l ≤ u) : l ≤ M c p ∧ M c p ≤ u := by
  have q := h.1 c p hc hp
  rw [hb] at q
  rcases q with q | q
  · exact absurd q (by show ¬ u < l; omega)
  · exact q
