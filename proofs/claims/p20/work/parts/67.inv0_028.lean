theorem Inv.pl {X : Mm} {S : Sh} {M : Mm} (h : Inv X S M) : PLi X M := h.2.2.2.2.2.2
