theorem Inv.g {X : Mm} {S : Sh} {M : Mm} (h : Inv X S M) {c p : Int} (hs : spP c p) : M c p = X c p := h.2.1 c p (Or.inl hs)
