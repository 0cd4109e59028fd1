theorem sc_in : ∀ c ∈ lSc, (c + 1) ∈ lTo ∧ (c + 13) ∈ lSt ∧ (c = 3 ∨ c = 76 ∨ c = 101 ∨ c = 126 ∨ c = 151) := by decide +kernel
theorem sc_sp : ∀ c ∈ lSc, spP c 2 ∧ spP c 3 ∧ spP c 9 := by
  intro c hc
  rcases (sc_in c hc).2.2 with e | e | e | e | e <;> subst e <;> exact ⟨by decide, by decide, by decide⟩
theorem sc_no : ∀ c ∈ lSc, 0 ≤ c ∧ (¬ c.toNat = 30 ∧ ¬ (c.toNat = 55 ∧ (2 : Nat) = 1)) ∧ (¬ c.toNat = 30 ∧ ¬ (c.toNat = 55 ∧ (3 : Nat) = 1)) ∧ ¬ (c.toNat = 346 ∨ c.toNat = 347 ∨ c.toNat = 354 ∨ (c.toNat = 336 ∧ (2 : Nat) = 25)) ∧ ¬ (c.toNat = 346 ∨ c.toNat = 347 ∨ c.toNat = 354 ∨ (c.toNat = 336 ∧ (3 : Nat) = 25)) ∧ ¬ (336 : Int) = c ∧ ¬ ((355 : Int) = c ∨ (357 : Int) = c ∨ (341 : Int) = c ∨ (340 : Int) = c ∨ (338 : Int) = c) := by decide +kernel
theorem spP_ne {c p : Int} (h : spP c p) : ¬ c = -1 := by omega
theorem no5 {c d : Int} (h : ¬ ((355 : Int) = d ∨ (357 : Int) = d ∨ (341 : Int) = d ∨ (340 : Int) = d ∨ (338 : Int) = d)) (q : c = 355 ∨ c = 357 ∨ c = 341 ∨ c = 340 ∨ c = 338) : ¬ c = d := by omega
theorem im_cell : ∀ p : Nat, p < 4 → p < pT.getD 28 0 ∧ bd 28 p = (76 + 25 * (p : Int), 76 + 25 * (p : Int)) ∧ (76 + 25 * (p : Int)) ∈ lSc := by decide +kernel
theorem Inv.im {X : Mm} {S : Sh} {M : Mm} (h : Inv X S M) {i : Int} (h0 : 0 ≤ i) (h1 : i ≤ 3) : M 28 i = 76 + 25 * i := by
  obtain ⟨q0, q1, -⟩ := im_cell i.toNat (by omega)
  have q := h.rd 28 i.toNat _ _ (by decide) q0 q1 (Int.le_refl _)
  rw [Int.toNat_of_nonneg h0] at q
  exact Int.le_antisymm q.2 q.1
theorem im_sc {i : Int} (h0 : 0 ≤ i) (h1 : i ≤ 3) : isSc (76 + 25 * i) := by
  have q := (im_cell i.toNat (by omega)).2.2
  rw [Int.toNat_of_nonneg h0] at q
  exact q
