theorem lowa : ∀ s : Nat, s < 1024 → 0 < s → 0 ≤ iAnd (s : Int) ((s : Int) - 1) ∧ iAnd (s : Int) ((s : Int) - 1) < s := by decide +kernel
theorem s_X12_bits {S : Sh} {M : Mm} {K : Int → Mm → Prop} {a : Int} (ha : 0 ≤ a ∧ a < 1024) (h : ∀ r, 0 ≤ r ∧ r ≤ 1024 → K r M) : wp_X12_bits S M a K := by
  have key : ∀ (n : Nat) (u1 u2 : Int), 0 ≤ u1 → 0 ≤ u2 ∧ u2 < 1024 → u1 + u2 ≤ 1024 → u2 < n → wp_X12_bits_4 S K n u1 u2 M := by
    intro n
    induction n with
    | zero => intro u1 u2 _ h2 _ h3; exact absurd h3 (by omega)
    | succ n ih =>
      intro u1 u2 h1 h2 h3 h4
      simp (disch := omega) only [wp_X12_bits_4, wC, wIf, wA, wS, wO, w32_id]
      refine ⟨fun _ => h u1 (by omega), fun hne => ?_⟩
      have q := lowa u2.toNat (by omega) (by omega)
      rw [Int.toNat_of_nonneg h2.1] at q
      exact ih _ _ (by omega) (by omega) (by omega) (by omega)
  exact ⟨1024, key 1024 0 a (by omega) ha (by omega) (by omega)⟩
