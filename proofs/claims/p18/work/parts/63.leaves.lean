theorem s_X12_in {S : Sh} {M : Mm} {K : Int → Mm → Prop} {v a b : Int} (h1 : a ≤ v ∧ v ≤ b → K 1 M) (h0 : ¬ (a ≤ v ∧ v ≤ b) → K 0 M) : wp_X12_in S M v a b K := by
  simp only [wp_X12_in, wC, wIf, wCmp]
  refine ⟨fun h => ⟨by decide, h0 ?_⟩, fun h => ⟨fun h2 => ⟨by decide, h0 ?_⟩, fun h2 => ⟨by decide, h1 ?_⟩⟩⟩
  · split at h
    · omega
    · split at h <;> omega
  · split at h2
    · omega
    · split at h2 <;> omega
  · constructor
    · split at h
      · omega
      · omega
    · split at h2
      · omega
      · split at h2 <;> omega
theorem s_X12_isOf {S : Sh} {M : Mm} {K : Int → Mm → Prop} {a b : Int} (h : ∀ r, r = 0 ∨ r = 1 → K r M) : wp_X12_isOf S M a b K := by
  simp only [wp_X12_isOf, wC, wIf, wO]
  exact ⟨fun _ => ⟨by decide, h 0 (by decide)⟩, fun _ => ⟨by decide, h 1 (by decide)⟩⟩
theorem s_X12_isRule {S : Sh} {M : Mm} {K : Int → Mm → Prop} {a : Int} (hS : Shp S) (h1 : 0 ≤ a ∧ a < M 336 2 → K 1 M) (h0 : ¬ (0 ≤ a ∧ a < M 336 2) → K 0 M) : wp_X12_isRule S M 336 a K := by
  simp only [wp_X12_isRule, wC, wIf, wGet, nc, hS.k336]
  exact ⟨fun h => ⟨by decide, h0 (by omega)⟩, fun h => ⟨trivial, fun h2 => ⟨by decide, h0 (by omega)⟩, fun h2 => ⟨by decide, h1 (by omega)⟩⟩⟩
theorem s_X12_isPlace {S : Sh} {M : Mm} {K : Int → Mm → Prop} {a : Int} (hS : Shp S) (hR : RfM M) (h1 : 0 ≤ a ∧ a < M 346 0 → K 1 M) (h0 : ¬ (0 ≤ a ∧ a < M 346 0) → K 0 M) : wp_X12_isPlace S M 336 a K := by
  simp only [wp_X12_isPlace, wC, wIf, wGetR, wGet, wLd, nc, hR.f20, hS.k336, hS.k346, hS.l346]
  exact ⟨fun h => ⟨by decide, h0 (by omega)⟩, fun h => ⟨trivial, by decide, trivial, by decide, fun h2 => ⟨by decide, h0 (by omega)⟩, fun h2 => ⟨by decide, h1 (by omega)⟩⟩⟩
theorem s_X12_isHand {S : Sh} {M : Mm} {K : Int → Mm → Prop} {a : Int} (hS : Shp S) (hR : RfM M) (h1 : 0 ≤ a ∧ a < M 346 4 → K 1 M) (h0 : ¬ (0 ≤ a ∧ a < M 346 4) → K 0 M) : wp_X12_isHand S M 336 a K := by
  simp only [wp_X12_isHand, wC, wIf, wGetR, wGet, wLd, nc, hR.f20, hS.k336, hS.k346, hS.l346]
  exact ⟨fun h => ⟨by decide, h0 (by omega)⟩, fun h => ⟨trivial, by decide, trivial, by decide, fun h2 => ⟨by decide, h0 (by omega)⟩, fun h2 => ⟨by decide, h1 (by omega)⟩⟩⟩
theorem s_X12_isJug {S : Sh} {M : Mm} {K : Int → Mm → Prop} {a : Int} (hS : Shp S) (hR : RfM M) (h1 : 0 ≤ a ∧ a < M 346 5 → K 1 M) (h0 : ¬ (0 ≤ a ∧ a < M 346 5) → K 0 M) : wp_X12_isJug S M 336 a K := by
  simp only [wp_X12_isJug, wC, wIf, wGetR, wGet, wLd, nc, hR.f20, hS.k336, hS.k346, hS.l346]
  exact ⟨fun h => ⟨by decide, h0 (by omega)⟩, fun h => ⟨trivial, by decide, trivial, by decide, fun h2 => ⟨by decide, h0 (by omega)⟩, fun h2 => ⟨by decide, h1 (by omega)⟩⟩⟩
theorem s_X12_isWant {S : Sh} {M : Mm} {K : Int → Mm → Prop} {a : Int} (hS : Shp S) (hR : RfM M) (h1 : 0 ≤ a ∧ a < M 346 6 → K 1 M) (h0 : ¬ (0 ≤ a ∧ a < M 346 6) → K 0 M) : wp_X12_isWant S M 336 a K := by
  simp only [wp_X12_isWant, wC, wIf, wGetR, wGet, wLd, nc, hR.f20, hS.k336, hS.k346, hS.l346]
  exact ⟨fun h => ⟨by decide, h0 (by omega)⟩, fun h => ⟨trivial, by decide, trivial, by decide, fun h2 => ⟨by decide, h0 (by omega)⟩, fun h2 => ⟨by decide, h1 (by omega)⟩⟩⟩
theorem s_X12_atMost {S : Sh} {M : Mm} {K : Int → Mm → Prop} {a b : Int} (h : K (min a b) M) : wp_X12_atMost S M a b K := by
  simp only [wp_X12_atMost, wIf]
  exact ⟨fun q => by rw [Int.min_eq_left q] at h; exact h, fun q => by rw [Int.min_eq_right (by omega)] at h; exact h⟩
theorem s_X12_moreTired {S : Sh} {M : Mm} {K : Int → Mm → Prop} {a t : Int} (hS : Shp S) (hR : RfM M) (ha : 0 ≤ a ∧ a ≤ 4) (ht : 0 ≤ t ∧ t ≤ 99) (hb : 0 ≤ M 346 (10 + 5 * a + 4) ∧ M 346 (10 + 5 * a + 4) ≤ 5) (h : ∀ r, 0 ≤ r ∧ r ≤ 99 → K r M) : wp_X12_moreTired S M 336 a t K := by
  simp only [wp_X12_moreTired, wC, wA, hS.k336]
  refine ⟨trivial, s_X12_handOf hS hR ha (by omega) ?_⟩
  rw [w32_id (by omega) (by omega)]
  exact s_X12_atMost (h _ (by omega))
theorem s_X12_stands {S : Sh} {M : Mm} {K : Int → Mm → Prop} {a : Int} (hS : Shp S) (hR : RfM M) (ha : 0 ≤ a ∧ a ≤ 3) (h1 : M 346 (35 + 4 * a + 1) < 0 ∧ M 346 (35 + 4 * a + 3) = 0 → K 1 M) (h0 : ¬ (M 346 (35 + 4 * a + 1) < 0 ∧ M 346 (35 + 4 * a + 3) = 0) → K 0 M) : wp_X12_stands S M 336 a K := by
  simp only [wp_X12_stands, wC, wIf, hS.k336]
  refine ⟨trivial, s_X12_jugOf hS hR ha (by omega) ⟨fun q => ⟨by decide, h0 (by omega)⟩, fun q => ⟨trivial, s_X12_jugOf hS hR ha (by omega) ⟨fun q2 => ⟨by decide, h0 (fun z => q2 z.2)⟩, fun q2 => ⟨by decide, h1 ⟨by omega, Classical.not_not.mp q2⟩⟩⟩⟩⟩⟩
theorem s_X12_wantOf {S : Sh} {M : Mm} {K : Int → Mm → Prop} {a b : Int} (hS : Shp S) (hR : RfM M) (ha : 0 ≤ a ∧ a ≤ 5) (hb : 0 ≤ b ∧ b ≤ 3) (h : K (M 346 (93 + 4 * a + b)) M) : wp_X12_wantOf S M 336 a b K := by
  simp (disch := omega) only [wp_X12_wantOf, wGetR, wGet, wC, wLd, wIf, wA, wM, nc, hR.f20, hS.k336, hS.k346, hS.l346, w32_id]
  refine ⟨trivial, by decide, trivial, by omega, h⟩
theorem s_X12_isAtPlace {S : Sh} {M : Mm} {K : Int → Mm → Prop} {a : Int} (hS : Shp S) (hR : RfM M) (ha : 0 ≤ a ∧ a ≤ 4) (h1 : M 346 (10 + 5 * a + 1) = 0 → K 1 M) (h0 : ¬ M 346 (10 + 5 * a + 1) = 0 → K 0 M) : wp_X12_isAtPlace S M 336 a K := by
  simp only [wp_X12_isAtPlace, wC, wIf, hS.k336]
  exact ⟨trivial, s_X12_handOf hS hR ha (by omega) ⟨fun q => ⟨by decide, h0 q⟩, fun q => ⟨by decide, h1 (Classical.not_not.mp q)⟩⟩⟩
theorem s_X12_spot {S : Sh} {M : Mm} {K : Int → Mm → Prop} {a b : Int} (ha : 0 ≤ a ∧ a ≤ 12) (hb : 0 ≤ b ∧ b ≤ 300) (h : K (301 * a + b) M) : wp_X12_spot S M a b K := by
  simp (disch := omega) only [wp_X12_spot, wC, wA, wM, w32_id]
  exact h
