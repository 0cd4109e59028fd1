/-- a letter stands at next -/
def LtC (M : Mm) : Prop := M 336 8 < M 336 1 ∧ 97 ≤ M 337 (M 336 8) ∧ M 337 (M 336 8) ≤ 122
/-- no blank stands at next -/
def NSp (M : Mm) : Prop := M 336 8 < M 336 1 ∧ ¬ M 337 (M 336 8) = 32
theorem LtC.ns {M : Mm} (h : LtC M) : NSp M := ⟨h.1, by have := h.2.1; omega⟩
theorem LtC.same {M M1 : Mm} (h : LtC M) (h1 : M1 336 8 = M 336 8) (h2 : M1 336 1 = M 336 1) (h3 : ∀ p : Int, M1 337 p = M 337 p) : LtC M1 := by
  unfold LtC at h ⊢
  rw [h1, h2, h3]
  exact h
