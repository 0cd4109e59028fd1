theorem Inv.rA {X : Mm} {S : Sh} {M : Mm} (h : Inv X S M) {c : Int} {n : Nat} {l u : Int} {i : Int} (hc : 0 ≤ c ∧ c.toNat < 358) (hn : pT.getD c.toNat 0 = n) (hb : bT.getD c.toNat [] = [(l, u)]) (hlu : l ≤ u) (h0 : 0 ≤ i) (h1 : i < n) : l ≤ M c i ∧ M c i ≤ u := by
  have q := h.rd c.toNat i.toNat l u hc.2 (by omega) (bd_u hb _) hlu
  rw [Int.toNat_of_nonneg hc.1, Int.toNat_of_nonneg h0] at q
  exact q
