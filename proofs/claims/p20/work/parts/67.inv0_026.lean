theorem Inv.good {X : Mm} {S : Sh} {M : Mm} (h : Inv X S M) : Good X := h.2.2.2.2.1
