theorem g_sc {L : Nat} {xs : Nat → Int32} {i : Int} {K : Int → Prop} (h0 : 0 ≤ i) (h1 : i < L) (h : ∀ v : Int, v = (xs i.toNat).toInt → -2147483648 ≤ v → v ≤ 2147483647 → K v) : wSc L xs i K := ⟨⟨h0, h1⟩, h _ rfl (k32_r _).1 (k32_r _).2⟩
theorem Xr.k {M : Mm} (h : Xr M) {k : Int} (h0 : 0 ≤ k) (h1 : k ≤ 3) : M (76 + 25 * k) 3 = M 356 k ∧ M (76 + 25 * k) 9 = M 357 k := by
  obtain ⟨-, a0, a1, a2, a3⟩ := h
  rcases (show k = 0 ∨ k = 1 ∨ k = 2 ∨ k = 3 by omega) with e | e | e | e <;> subst e
  · exact a0
  · exact a1
  · exact a2
  · exact a3
theorem Xr.mk {M : Mm} (h : M 3 3 = M 336 22) (hk : ∀ k : Int, 0 ≤ k → k ≤ 3 → M (76 + 25 * k) 3 = M 356 k ∧ M (76 + 25 * k) 9 = M 357 k) : Xr M := ⟨h, hk 0 (by decide) (by decide), hk 1 (by decide) (by decide), hk 2 (by decide) (by decide), hk 3 (by decide) (by decide)⟩
theorem Ya.k {M : Mm} (h : Ya M) {k : Int} (h0 : 0 ≤ k) (h1 : k ≤ 3) : M 357 k = 0 ∨ M (76 + 25 * k) 2 = M 355 k := by
  obtain ⟨-, -, a0, a1, a2, a3⟩ := h
  rcases (show k = 0 ∨ k = 1 ∨ k = 2 ∨ k = 3 by omega) with e | e | e | e <;> subst e
  · exact a0
  · exact a1
  · exact a2
  · exact a3
theorem Ya.mk {M : Mm} (h : M 1 1 = M 336 1 ∧ (∀ p : Int, 0 ≤ p → p < 400 → M 2 p = M 337 p) ∧ M 0 7 = M 336 2) (h2 : M 3 2 = M 336 21) (hk : ∀ k : Int, 0 ≤ k → k ≤ 3 → M 357 k = 0 ∨ M (76 + 25 * k) 2 = M 355 k) : Ya M := ⟨h, h2, hk 0 (by decide) (by decide), hk 1 (by decide) (by decide), hk 2 (by decide) (by decide), hk 3 (by decide) (by decide)⟩
/-- what of Ya no image and no going back touches -/
theorem Ya.up {M M1 : Mm} (h : Ya M) (hs : ∀ c p : Int, (c = 1 ∨ c = 2 ∨ c = 0 ∨ c = 337 ∨ (c = 336 ∧ (p = 1 ∨ p = 2))) → spP c p → M1 c p = M c p) : M1 1 1 = M1 336 1 ∧ (∀ p : Int, 0 ≤ p → p < 400 → M1 2 p = M1 337 p) ∧ M1 0 7 = M1 336 2 := by
  obtain ⟨⟨a1, a2, a3⟩, -⟩ := h
  rw [hs 1 1 (by decide) (by decide), hs 336 1 (by decide) (by decide), hs 0 7 (by decide) (by decide), hs 336 2 (by decide) (by decide)]
  exact ⟨a1, fun p p0 p1 => by rw [hs 2 p (by omega) (by omega), hs 337 p (by omega) (by omega)]; exact a2 p p0 p1, a3⟩
theorem Ya.out {M M1 : Mm} (h : Ya M) (hs : ∀ c p : Int, ¬ (c = 3 ∧ p = 3) → ¬ (c = 336 ∧ p = 22) → M1 c p = M c p) : Ya M1 := by
  obtain ⟨⟨a1, a2, a3⟩, a4, a5⟩ := h
  unfold Ya
  rw [hs 1 1 (by omega) (by omega), hs 336 1 (by omega) (by omega), hs 0 7 (by omega) (by omega), hs 336 2 (by omega) (by omega), hs 3 2 (by omega) (by omega), hs 336 21 (by omega) (by omega), hs 76 2 (by omega) (by omega), hs 101 2 (by omega) (by omega), hs 126 2 (by omega) (by omega), hs 151 2 (by omega) (by omega), hs 355 0 (by omega) (by omega), hs 355 1 (by omega) (by omega), hs 355 2 (by omega) (by omega), hs 355 3 (by omega) (by omega), hs 357 0 (by omega) (by omega), hs 357 1 (by omega) (by omega), hs 357 2 (by omega) (by omega), hs 357 3 (by omega) (by omega)]
  exact ⟨⟨a1, fun p p0 p1 => by rw [hs 2 p (by omega) (by omega), hs 337 p (by omega) (by omega)]; exact a2 p p0 p1, a3⟩, a4, a5⟩
