theorem WD.put {D : Dd} {c v : Int} (h : WD D) (f : fre D c) : WD (ud D c v) := by
  obtain ⟨⟨h7, h8⟩, hh, hj, hw, hu, hb⟩ := h
  obtain ⟨f0, f1, f2, f3, f4⟩ := f
  have e : ∀ p : Int, 3 ≤ p → p ≤ 9 → ud D c v p = D p := fun p a b => ud_ne (by omega)
  refine ⟨⟨by rw [e 7 (by decide) (by decide)]; exact h7, by rw [e 8 (by decide) (by decide)]; exact h8⟩, fun i i0 i1 => ?_, fun j j0 j1 => ?_, fun w w0 w1 => ?_, fun k l k0 k1 l0 l1 q => ?_, ?_⟩
  · rw [e 4 (by decide) (by decide)] at i1
    rw [ud_ne (f1 i i0 i1).1, ud_ne (f1 i i0 i1).2]; exact hh i i0 i1
  · rw [e 5 (by decide) (by decide)] at j1
    rw [ud_ne (f2 j j0 j1).1, ud_ne (f2 j j0 j1).2]; exact hj j j0 j1
  · rw [e 6 (by decide) (by decide)] at w1
    rw [ud_ne (f3 w w0 w1)]; exact hw w w0 w1
  · rw [e 3 (by decide) (by decide)] at k1 l1
    unfold rMt at q
    rw [ud_ne (f4 k k0 k1).1, ud_ne (f4 k k0 k1).2, ud_ne (f4 l l0 l1).1, ud_ne (f4 l l0 l1).2] at q
    exact hu k l k0 k1 l0 l1 q
  · rw [e 3 (by decide) (by decide), e 4 (by decide) (by decide), e 5 (by decide) (by decide), e 6 (by decide) (by decide), e 9 (by decide) (by decide)]
    exact hb
