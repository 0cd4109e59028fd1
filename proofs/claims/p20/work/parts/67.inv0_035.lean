theorem Inv.wl {X : Mm} {S : Sh} {M : Mm} (h : Inv X S M) (c p : Nat) {v : Int} (hpl : PLi X (up M c p v)) (hb : okb (bd c p) v) (hs : ¬ spX X c p) (h30 : ¬ ((c : Int) = 30 ∨ (c : Int) = 348)) (h55 : ¬ ((c : Int) = 55 ∧ (p : Int) = 1)) : Inv X S (up M c p v) := h.wr hpl (fun c' p' e1 e2 => by
  have e3 : c' = c := by omega
  have e4 : p' = p := by omega
  rw [e3, e4]
  exact hb) hs h30 h55
