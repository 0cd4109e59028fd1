theorem Inv.row55 {X : Mm} {S : Sh} {M : Mm} (h : Inv X S M) : rowv S (M 55 1) := h.2.2.2.1
