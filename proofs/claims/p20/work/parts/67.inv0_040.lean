theorem Inv.unflag {X : Mm} {S : Sh} {M : Mm} (h : Inv (up X (-1) 0 1) S M) : Inv X S M := by
  have e : ∀ c p : Int, ¬ c = -1 → up X (-1) 0 1 c p = X c p := fun c p hc => up_ne (fun z => hc z.1)
  have g := h.good
  refine ⟨h.1, fun c p hs => ?_, h.2.2.1, h.2.2.2.1, ?_, fun _ p hp => ?_, ?_⟩
  · rw [← e c p (by omega)]
    refine h.2.1 c p ?_
    rw [show spX (up X (-1) 0 1) c p = (spP c p ∨ (c = 338 ∧ p < 400 * up X (-1) 0 1 336 2) ∨ (c = 340 ∧ p < 48 * up X (-1) 0 1 336 2) ∨ (c = 341 ∧ p < up X (-1) 0 1 336 2)) from rfl, e 336 2 (by decide)]
    exact hs
  · have pe : ∀ (t : Int) (n : Nat) (i d : Int), pfx (up X (-1) 0 1) t n i d = pfx X t n i d := by
      intro t n
      induction n with
      | zero => intro i d; rfl
      | succ n ih => intro i d; simp only [pfx, ih, e 338 _ (by decide)]
    have re : ∀ t : Int, rulOK (up X (-1) 0 1) t = rulOK X t := by
      intro t
      simp only [rulOK, pfr, pe, e 341 _ (by decide), e 340 _ (by decide)]
    unfold Good at g ⊢
    simp only [re, e 336 _ (by decide), e 355 _ (by decide), e 357 _ (by decide)] at g
    exact g
  · rw [h.flag (up_at _ _ _ _) hp, e 346 p (by decide)]
  · have q := h.pl
    unfold PLi at q ⊢
    simp only [e 346 _ (by decide)] at q
    exact ⟨q.1, fun _ => q.2.1 (up_at _ _ _ _), q.2.2⟩
