theorem Inv.rdI {X : Mm} {S : Sh} {M : Mm} (h : Inv X S M) (c : Nat) {i : Int} (l u : Int) (hc : c < 358) (p : Nat) (hp : i = p) (hb : p < pT.getD c 0 ∧ l ≤ (bd c p).1 ∧ (bd c p).2 ≤ u ∧ (bd c p).1 ≤ (bd c p).2) : l ≤ M c i ∧ M c i ≤ u := by
  have q := h.1 c p hc hb.1
  subst hp
  rcases q with q | q
  · exact absurd q (by omega)
  · omega
