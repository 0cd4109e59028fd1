theorem JX.forced {S : Sh} {m0 m2 : Mm} (h : JX S m0) (j : Jc S m2) (F : ∀ c p : Int, spP c p → ¬ (c = 3 ∧ p = 2) → ¬ (c = 336 ∧ p = 21) → m2 c p = m0 c p) (e1 : m2 3 2 = m2 336 21) : JX S m2 := by
  obtain ⟨jc, xr, ⟨⟨a1, a2, a3⟩, a4, a5⟩⟩ := h
  refine ⟨j, ?_, ?_⟩
  · unfold Xr at xr ⊢
    rw [F 3 3 (by decide) (by omega) (by omega), F 336 22 (by decide) (by omega) (by omega), F 76 3 (by decide) (by omega) (by omega), F 356 0 (by decide) (by omega) (by omega), F 76 9 (by decide) (by omega) (by omega), F 357 0 (by decide) (by omega) (by omega), F 101 3 (by decide) (by omega) (by omega), F 356 1 (by decide) (by omega) (by omega), F 101 9 (by decide) (by omega) (by omega), F 357 1 (by decide) (by omega) (by omega), F 126 3 (by decide) (by omega) (by omega), F 356 2 (by decide) (by omega) (by omega), F 126 9 (by decide) (by omega) (by omega), F 357 2 (by decide) (by omega) (by omega), F 151 3 (by decide) (by omega) (by omega), F 356 3 (by decide) (by omega) (by omega), F 151 9 (by decide) (by omega) (by omega), F 357 3 (by decide) (by omega) (by omega)]
    exact xr
  · unfold Ya
    rw [F 1 1 (by decide) (by omega) (by omega), F 336 1 (by decide) (by omega) (by omega), F 0 7 (by decide) (by omega) (by omega), F 336 2 (by decide) (by omega) (by omega), F 76 2 (by decide) (by omega) (by omega), F 355 0 (by decide) (by omega) (by omega), F 357 0 (by decide) (by omega) (by omega), F 101 2 (by decide) (by omega) (by omega), F 355 1 (by decide) (by omega) (by omega), F 357 1 (by decide) (by omega) (by omega), F 126 2 (by decide) (by omega) (by omega), F 355 2 (by decide) (by omega) (by omega), F 357 2 (by decide) (by omega) (by omega), F 151 2 (by decide) (by omega) (by omega), F 355 3 (by decide) (by omega) (by omega), F 357 3 (by decide) (by omega) (by omega)]
    refine ⟨⟨a1, fun p p0 p1 => ?_, a3⟩, e1, a5⟩
    rw [F 2 p (by omega) (by omega) (by omega), F 337 p (by omega) (by omega) (by omega)]
    exact a2 p p0 p1
