theorem Inv.row30 {X : Mm} {S : Sh} {M : Mm} (h : Inv X S M) {i : Int} (h0 : 0 ≤ i) (h1 : i < 6) : rowv S (M 30 i) := h.2.2.1 i h0 h1
