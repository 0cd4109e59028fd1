theorem Shp.new {S : Sh} (h : Shp S) (ci n : Nat) : Shp (newS S ci n) := by
  refine ⟨by show 358 ≤ S.1 + 1; have := h.1; omega, fun a ha => ?_⟩
  have h1 := h.1
  have e : ¬ (a : Int) = (S.1 : Int) := by omega
  show (if (a : Int) = (S.1 : Int) then ci else S.2.1 a) = _ ∧ (if (a : Int) = (S.1 : Int) then n else S.2.2 a) = _
  rw [if_neg e, if_neg e]
  exact h.2 a ha
theorem rowv.new {S : Sh} {v : Int} (h : rowv S v) (ci n : Nat) : rowv (newS S ci n) v := by
  rcases h with h | ⟨h1, h2, h3⟩
  · exact Or.inl h
  · obtain ⟨q0, q1, q2⟩ := h1
    have e : ¬ v = (S.1 : Int) := by omega
    refine Or.inr ⟨⟨q0, by show v.toNat < S.1 + 1; omega, ?_⟩, ?_, h3⟩
    · show (if v = (S.1 : Int) then ci else S.2.1 v) = 14
      rw [if_neg e]; exact q2
    · show (if v = (S.1 : Int) then n else S.2.2 v) ≤ 399
      rw [if_neg e]; exact h2
