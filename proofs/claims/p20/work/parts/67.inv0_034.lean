theorem Inv.wr {X : Mm} {S : Sh} {M : Mm} (h : Inv X S M) {c p v : Int} (hpl : PLi X (up M c p v)) (hb : ∀ c' p' : Nat, (c' : Int) = c → (p' : Int) = p → okb (bd c' p') v) (hs : ¬ spX X c p) (h30 : ¬ (c = 30 ∨ c = 348)) (h55 : ¬ (c = 55 ∧ p = 1)) : Inv X S (up M c p v) := by
  refine ⟨fun c' p' h1 h2 => ?_, fun c' p' h1 => ?_, fun i h1 h2 => ?_, ?_, h.good, fun hx p' hp' => ?_, ?_⟩
  · by_cases e : (c' : Int) = c ∧ (p' : Int) = p
    · have q : up M c p v c' p' = v := by rw [e.1, e.2]; exact up_at _ _ _ _
      rw [q]
      exact hb c' p' e.1 e.2
    · rw [up_ne e]
      exact h.1 c' p' h1 h2
  · rw [up_ne (fun z => hs (by rw [← z.1, ← z.2]; exact h1))]
    exact h.2.1 c' p' h1
  · rw [up_ne (fun z => h30 (Or.inl z.1.symm))]
    exact h.row30 h1 h2
  · rw [up_ne (fun z => h55 ⟨z.1.symm, z.2.symm⟩)]
    exact h.row55
  · rw [up_ne (fun z => h30 (Or.inr z.1.symm))]
    exact h.flag hx hp'
  · exact hpl
