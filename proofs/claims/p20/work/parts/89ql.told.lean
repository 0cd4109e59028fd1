/-! what is told, held by a Told at cell u as the row D says -/
def TLr (u : Int) (D : Dd) (M : Mm) : Prop := ∀ a c : Int, 0 ≤ a → a ≤ 5 → 0 ≤ c → c ≤ 5 → (M (u + 1) (6 * a + c) = 0 ∧ ¬ Rt D a c) ∨ (1 ≤ M (u + 1) (6 * a + c) ∧ ∃ k : Int, 0 ≤ k ∧ k < D 3 ∧ ((D (57 + 3 * k) = a ∧ D (57 + 3 * k + 1) = c) ∨ (D (57 + 3 * k) = c ∧ D (57 + 3 * k + 1) = a)) ∧ M (u + 1) (6 * a + c) = D (57 + 3 * k + 2))
def TLc (u : Int) (D : Dd) (M : Mm) : Prop := M u 0 = D 0 ∧ M u 1 = D 1 ∧ M u 2 = D 2 ∧ M u 3 = D 3 ∧ M u 4 = D 4 ∧ M u 5 = D 5 ∧ M u 6 = D 9 ∧ M u 7 = D 6
def TLh (u : Int) (D : Dd) (M : Mm) : Prop := ∀ i : Int, 0 ≤ i → i < D 4 → M (u + 3) i = D (10 + 5 * i + 3) ∧ M (u + 4) i = D (10 + 5 * i + 4)
def TLt (u : Int) (D : Dd) (M : Mm) : Prop := ∀ i : Int, 0 ≤ i → i < D 9 → M (u + 5) i = D (81 + 3 * i) ∧ M (u + 6) i = D (81 + 3 * i + 1) ∧ M (u + 7) i = D (81 + 3 * i + 2)
def TLw (u : Int) (D : Dd) (M : Mm) : Prop := ∀ i : Int, 0 ≤ i → i < D 6 → M (u + 8) i = D (93 + 4 * i) ∧ M (u + 9) i = D (93 + 4 * i + 1) ∧ M (u + 10) i = D (93 + 4 * i + 2) ∧ M (u + 11) i = D (93 + 4 * i + 3)
def TL (u : Int) (D : Dd) (M : Mm) : Prop := TLc u D M ∧ TLr u D M ∧ TLh u D M ∧ TLt u D M ∧ TLw u D M
theorem LC.told {X : Mm} {S : Sh} {D : Dd} {m m' : Mm} (h : LC D m) (hm : Inv X S m) (c : ∀ i : Int, 0 ≤ i → i ≤ 7 → m' 4 i = m 32 i) (r : ∀ p : Int, 0 ≤ p → p < 36 → m' 5 p = m 33 p) (s : ∀ p : Int, 0 ≤ p → p < 5 → m' 7 p = m 35 p ∧ m' 8 p = m 36 p) (t : ∀ p : Int, 0 ≤ p → p < 4 → m' 9 p = m 37 p ∧ m' 10 p = m 38 p ∧ m' 11 p = m 39 p) (w : ∀ p : Int, 0 ≤ p → p < 6 → m' 12 p = m 40 p ∧ m' 13 p = m 41 p ∧ m' 14 p = m 42 p ∧ m' 15 p = m 43 p) : TL 4 D m' := by
  have b4 := hm.f_32_4
  have b6 := hm.f_32_6
  have b7 := hm.f_32_7
  obtain ⟨⟨q0, q1, q2, q3, q4, q5, q6, q7⟩, lr, lh, lj, lt, lw, ls⟩ := h
  refine ⟨⟨?_, ?_, ?_, ?_, ?_, ?_, ?_, ?_⟩, fun a e a0 a1 e0 e1 => ?_, fun i i0 i1 => ?_, fun i i0 i1 => ?_, fun i i0 i1 => ?_⟩
  · rw [c 0 (by decide) (by decide)]; exact q0
  · rw [c 1 (by decide) (by decide)]; exact q1
  · rw [c 2 (by decide) (by decide)]; exact q2
  · rw [c 3 (by decide) (by decide)]; exact q3
  · rw [c 4 (by decide) (by decide)]; exact q4
  · rw [c 5 (by decide) (by decide)]; exact q5
  · rw [c 6 (by decide) (by decide)]; exact q6
  · rw [c 7 (by decide) (by decide)]; exact q7
  · rw [show (4 : Int) + 1 = 5 from rfl, r _ (by omega) (by omega)]
    exact lr a e a0 a1 e0 e1
  · rw [show (4 : Int) + 3 = 7 from rfl, show (4 : Int) + 4 = 8 from rfl, (s i i0 (by omega)).1, (s i i0 (by omega)).2]
    have z := lh i i0 i1
    exact ⟨z.2.1, z.2.2⟩
  · rw [show (4 : Int) + 5 = 9 from rfl, show (4 : Int) + 6 = 10 from rfl, show (4 : Int) + 7 = 11 from rfl, (t i i0 (by omega)).1, (t i i0 (by omega)).2.1, (t i i0 (by omega)).2.2]
    exact lt i i0 i1
  · rw [show (4 : Int) + 8 = 12 from rfl, show (4 : Int) + 9 = 13 from rfl, show (4 : Int) + 10 = 14 from rfl, show (4 : Int) + 11 = 15 from rfl, (w i i0 (by omega)).1, (w i i0 (by omega)).2.1, (w i i0 (by omega)).2.2.1, (w i i0 (by omega)).2.2.2]
    exact lw i i0 i1
