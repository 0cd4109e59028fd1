theorem Inv.flag {X : Mm} {S : Sh} {M : Mm} (h : Inv X S M) (hx : X (-1) 0 = 1) {p : Int} (hp : p = 9 ∨ (0 ≤ p ∧ p ≤ 6)) : M 348 p = X 346 p := h.2.2.2.2.2.1 hx p hp
