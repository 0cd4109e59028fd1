theorem s_X12_jugOf {S : Sh} {M : Mm} {K : Int → Mm → Prop} {a b : Int} (hS : Shp S) (hR : RfM M) (ha : 0 ≤ a ∧ a ≤ 3) (hb : 0 ≤ b ∧ b ≤ 3) (h : K (M 346 (35 + 4 * a + b)) M) : wp_X12_jugOf S M 336 a b K := by
  simp (disch := omega) only [wp_X12_jugOf, wGetR, wGet, wC, wLd, wIf, wA, wM, nc, hR.f20, hS.k336, hS.k346, hS.l346, w32_id]
  refine ⟨trivial, by decide, trivial, by omega, h⟩
theorem bit4a : ∀ s : Nat, s < 16 → ∀ j : Nat, j < 4 → 0 ≤ iOr (s : Int) (iShl 1 (j : Int)) ∧ iOr (s : Int) (iShl 1 (j : Int)) ≤ 15 := by decide +kernel
theorem bit4b : ∀ s : Nat, s < 16 → 0 ≤ iOr (s : Int) 0 ∧ iOr (s : Int) 0 ≤ 15 := by decide +kernel
theorem bit4 {s j : Int} (hs : 0 ≤ s ∧ s ≤ 15) (hj : 0 ≤ j ∧ j ≤ 3) : 0 ≤ iOr s (iShl 1 j) ∧ iOr s (iShl 1 j) ≤ 15 := by
  have h := bit4a s.toNat (by omega) j.toNat (by omega)
  rw [Int.toNat_of_nonneg hs.1, Int.toNat_of_nonneg hj.1] at h
  exact h
theorem bit4z {s : Int} (hs : 0 ≤ s ∧ s ≤ 15) : 0 ≤ iOr s 0 ∧ iOr s 0 ≤ 15 := by
  have h := bit4b s.toNat (by omega)
  rw [Int.toNat_of_nonneg hs.1] at h
  exact h
theorem s_X12_held {S : Sh} {M : Mm} {K : Int → Mm → Prop} {a : Int} (hS : Shp S) (hR : RfM M) (hj : M 346 5 ≤ 4) (h : ∀ r, 0 ≤ r ∧ r ≤ 15 → K r M) : wp_X12_held S M 336 a K := by
  have key : ∀ (n : Nat) (u2 u3 : Int), 0 ≤ u2 ∧ u2 ≤ 15 → 0 ≤ u3 ∧ u3 ≤ 4 → 5 - u3 ≤ n → wp_X12_held_4 S K n 336 a u2 u3 M := by
    intro n
    induction n with
    | zero => intro u2 u3 _ h3 h4; exact absurd h4 (by omega)
    | succ n ih =>
      intro u2 u3 h2 h3 h4
      simp only [wp_X12_held_4, wp_X12_held_32, wGetR, wGet, wC, wLd, wIf, wA, wO, nc, hR.f20, hS.k336, hS.k346, hS.l346]
      refine ⟨trivial, by decide, trivial, by decide, fun _ => h u2 h2, fun hlt => ⟨trivial, ?_⟩⟩
      refine s_X12_jugOf hS hR (by omega) (by omega) ⟨fun _ => ?_, fun _ => ?_⟩
      · rw [w32_id (by omega) (by omega)]
        exact ih _ _ (bit4z h2) (by omega) (by omega)
      · rw [w32_id (by omega) (by omega)]
        exact ih _ _ (bit4 h2 (by omega)) (by omega) (by omega)
  exact ⟨5, key 5 0 0 (by omega) (by omega) (by omega)⟩
theorem lowa : ∀ s : Nat, s < 1024 → 0 < s → 0 ≤ iAnd (s : Int) ((s : Int) - 1) ∧ iAnd (s : Int) ((s : Int) - 1) < s := by decide +kernel
theorem s_X12_bits {S : Sh} {M : Mm} {K : Int → Mm → Prop} {a : Int} (ha : 0 ≤ a ∧ a < 1024) (h : ∀ r, 0 ≤ r ∧ r ≤ 1024 → K r M) : wp_X12_bits S M a K := by
  have key : ∀ (n : Nat) (u1 u2 : Int), 0 ≤ u1 → 0 ≤ u2 ∧ u2 < 1024 → u1 + u2 ≤ 1024 → u2 < n → wp_X12_bits_4 S K n u1 u2 M := by
    intro n
    induction n with
    | zero => intro u1 u2 _ h2 _ h3; exact absurd h3 (by omega)
    | succ n ih =>
      intro u1 u2 h1 h2 h3 h4
      simp (disch := omega) only [wp_X12_bits_4, wC, wIf, wA, wS, wO, w32_id]
      refine ⟨fun _ => h u1 (by omega), fun hne => ?_⟩
      have q := lowa u2.toNat (by omega) (by omega)
      rw [Int.toNat_of_nonneg h2.1] at q
      exact ih _ _ (by omega) (by omega) (by omega) (by omega)
  exact ⟨1024, key 1024 0 a (by omega) ha (by omega) (by omega)⟩
