theorem Tys.n1 {Cs : List Cz} (h : Tys Cs) : N1 Cs := by
  intro c hc
  obtain ⟨⟨t1, t2⟩, t3⟩ := h c hc
  refine ⟨ty_n1 _ _ _ t1, fun x hx => ?_⟩
  cases e : c.2.1 with
  | false =>
    rw [t3 e] at hx
    cases hx
  | true => exact ty_n1 _ _ _ (t2 e) x hx
