theorem Inv.wrow55 {X : Mm} {S : Sh} {M : Mm} (h : Inv X S M) {v : Int} (hv : rowv S v) : Inv X S (up M 55 1 v) := by
  refine ⟨fun c' p' h1 h2 => ?_, fun c' p' h1 => ?_, fun i h1 h2 => ?_, ?_, h.good, fun hx p' hp' => ?_, ?_⟩
  · by_cases e : (c' : Int) = 55 ∧ (p' : Int) = 1
    · have e1 : c' = 55 := by omega
      have e2 : p' = 1 := by omega
      subst e1 e2
      exact okb_n (by decide +kernel)
    · rw [up_ne e]
      exact h.1 c' p' h1 h2
  · rw [up_ne (fun z => by rw [z.1, z.2] at h1; revert h1; omega)]
    exact h.2.1 c' p' h1
  · rw [up_ne (fun z => absurd z.1 (by decide))]
    exact h.row30 h1 h2
  · rw [up_at]
    exact hv
  · rw [up_ne (fun z => absurd z.1 (by decide))]
    exact h.flag hx hp'
  · exact h.pl.put (by decide) (fun e => absurd e (by decide))
