theorem nc (n : Nat) : ((no_index (@OfNat.ofNat Nat n (instOfNatNat n)) : Nat) : Int) = @OfNat.ofNat Int n (@instOfNat n) := rfl
theorem s_X12_isDairy {S : Sh} {M : Mm} {K : Int → Mm → Prop} (hS : Shp S) (hR : RfM M) (h1 : 0 < M 346 0 → K 1 M) (h0 : ¬ 0 < M 346 0 → K 0 M) : wp_X12_isDairy S M 336 K := by
  simp only [wp_X12_isDairy, wGetR, wGet, wC, wLd, wIf, nc, hR.f20, hS.k336, hS.k346, hS.l346]
  refine ⟨trivial, by decide, trivial, by decide, ?_, ?_⟩
  · intro h; exact ⟨by decide, h0 (by omega)⟩
  · intro h; exact ⟨by decide, h1 (by omega)⟩
theorem s_X12_handOf {S : Sh} {M : Mm} {K : Int → Mm → Prop} {a b : Int} (hS : Shp S) (hR : RfM M) (ha : 0 ≤ a ∧ a ≤ 4) (hb : 0 ≤ b ∧ b ≤ 4) (h : K (M 346 (10 + 5 * a + b)) M) : wp_X12_handOf S M 336 a b K := by
  simp (disch := omega) only [wp_X12_handOf, wGetR, wGet, wC, wLd, wIf, wA, wM, nc, hR.f20, hS.k336, hS.k346, hS.l346, w32_id]
  refine ⟨trivial, by decide, trivial, by omega, h⟩
theorem s_X12_seed {S : Sh} {M : Mm} {K : Int → Mm → Prop} {a : Int} (hS : Shp S) (h0 : a < 0 → K (-1) M) (h1 : 0 ≤ a → K (M 336 22) (up M 336 22 a)) : wp_X12_seed S M 336 a K := by
  simp (disch := omega) only [wp_X12_seed, wGetR, wGet, wPut, wC, wLd, wIf, wA, wM, nc, hS.k336, w32_id]
  refine ⟨fun h => ⟨trivial, trivial, h1 h⟩, fun h => h0 (by omega)⟩
