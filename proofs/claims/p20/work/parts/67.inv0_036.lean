theorem Inv.wA {X : Mm} {S : Sh} {M : Mm} (h : Inv X S M) {c : Int} (b : Int × Int) {i v : Int} (hpl : ¬ (c = 346 ∨ c = 347 ∨ c = 354 ∨ c = 336)) (hb : bT.getD c.toNat [] = [b]) (hv : okb b v) (hs : ¬ spX X c i) (h30 : ¬ (c = 30 ∨ c = 348)) (h55 : c ≠ 55) : Inv X S (up M c i v) := h.wr (h.pl.put (by omega) (fun e => absurd e (by omega))) (fun c' p' e1 e2 => by
  have e3 : c' = c.toNat := by omega
  rw [e3, bd_u hb]
  exact hv) hs h30 (fun z => h55 z.1)
