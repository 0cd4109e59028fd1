theorem CP.push {m m1 : Mm} {st : List Bool} {s : Int} (h : CP m st) (h0 : 0 ≤ m 52 5) (f : ∀ c p : Int, ¬ (c = 52 ∧ p = 5) ∧ ¬ (c = 54 ∧ p = m 52 5) → m1 c p = m c p) (h5 : m1 52 5 = m 52 5 + 1) (hs : m1 54 (m 52 5) = s) : stk (m1 54) (m1 52 5).toNat = (if s = -27 then true :: st else if s = -22 then false :: st else st) ∧ (((s = -23 ∨ s = -24) → ¬ hNt (m 54) (m 52 5).toNat) → okp (m1 54) (m1 52 5).toNat) ∧ (((-24 ≤ s ∧ s ≤ -12) ∨ s = -27) → ∀ j : Int, 0 ≤ j → j < m1 52 5 → (-24 ≤ m1 54 j ∧ m1 54 j ≤ -12) ∨ m1 54 j = -27) := by
  obtain ⟨p1, p2, p3, p4⟩ := h
  have en : (m1 52 5).toNat = (m 52 5).toNat + 1 := by omega
  have ct : (((m 52 5).toNat : Nat) : Int) = m 52 5 := by omega
  obtain ⟨q1, q2, q3⟩ := stk_same (f := m1 54) (g := m 54) (m 52 5).toNat (fun j j0 j1 => f 54 j (by omega))
  refine ⟨?_, fun hh => ?_, fun hh j j0 j1 => ?_⟩
  · rw [en]
    show (if m1 54 (((m 52 5).toNat : Nat) : Int) = -27 then true :: stk (m1 54) (m 52 5).toNat else if m1 54 (((m 52 5).toNat : Nat) : Int) = -22 then false :: stk (m1 54) (m 52 5).toNat else stk (m1 54) (m 52 5).toNat) = _
    rw [ct, hs, q1, p1]
  · rw [en]
    refine ⟨by rw [q3]; exact p3, fun z => ?_⟩
    rw [ct, hs] at z
    rw [q2]
    exact hh z
  · by_cases e : j = m 52 5
    · rw [e, hs]; exact hh
    · rw [f 54 j (by omega)]
      exact p4 j j0 (by omega)
