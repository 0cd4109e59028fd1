theorem ww_test {S : Sh} {m0 : Mm} {K : Int → Int → Mm → Prop} {K1 : Int → Mm → Prop} {n a b c d : Int} (hS : Shp S) (hz : RZ S m0 n) (hK : ∀ (r : Int) (M : Mm), wp_X12_test S M 336 a b c d (fun r2 M2 => K r r2 M2) → K1 r M) (hk : ∀ (r r2 : Int) (M1 : Mm), RZ S M1 n → K r r2 M1) : wp_X11_test S m0 0 a b c d K1 := by
  have hm := hz.inv
  have ct := hz.ct
  have db := hz.db
  have t34 : m0 3 4 = m0 346 157 := hz.tt.1
  refine zs_test11 hS hm (fun c1 e m1 hm1 f1 y1 => ?_) (fun q1 q2 => ?_) (fun m1 g1 hm1 f1 ya yb yc yd ye => ?_)
  · have j1 := hz.1.of hm1
    refine hK _ _ (zs_test12 hS j1.inv (fun _ m2 hm2 f2 y2 => ?_) (fun z => absurd e z) (fun m2 g2 => absurd g2.2.2.1.1 (by omega)))
    refine hk _ _ m2 (hz.tests (j1.of hm2) (fun c p p1 p2 p3 => by rw [f2 c p (by omega), f1 c p p1]) ⟨?_, fun i i0 i1 => absurd i1 (by omega)⟩ (by omega) (fun _ => ?_))
    · rw [f2 3 4 (by omega), y1, y2]
    · rw [f2 3 4 (by omega), y1]
  · refine hK _ _ (zs_test12 hS hm (fun e m2 hm2 f2 y2 => ?_) (fun _ _ => hk _ _ m0 hz) (fun m2 g2 _ _ _ _ _ _ _ => ?_))
    · have z0 : m0 4 0 = 0 := by
        by_cases z : m0 4 0 = 0
        · exact z
        · exact absurd ⟨z, e⟩ q1
      have z1 : m0 3 4 = 0 := hz.2.2.2.1.2.1 z0
      refine hk _ _ m2 (hz.tests (hz.1.of hm2) (fun c p p1 p2 p3 => by rw [f2 c p (by omega)]) ⟨?_, fun i i0 i1 => absurd i1 (by omega)⟩ (by omega) (fun _ => ?_))
      · rw [f2 3 4 (by omega), z1, y2]
      · rw [f2 3 4 (by omega), z1]
    · exfalso
      obtain ⟨z1, z2, z3, z4, z5, z6⟩ := g2
      exact q2 ⟨by omega, by omega, z2, z5, z3, z4, by omega⟩
  · have j1 := hz.1.of hm1
    obtain ⟨z1, z2, z3, z4, z5, z6, z7⟩ := g1
    have e46 : m1 346 = m0 346 := funext (fun p => f1 346 p (by omega) (by omega))
    refine hK _ _ (zs_test12 hS j1.inv (fun e => absurd e z2) (fun _ q => absurd (show gTs m1 a b c d by unfold gTs; rw [e46]; exact ⟨by omega, z3, z5, z6, z4, by omega⟩) q) (fun m2 g2 hm2 f2 xa xb xc xd xe => ?_))
    rw [e46] at f2 xa xb xc xd xe
    have F : ∀ c p : Int, ¬ (c = 3 ∧ p = 4) → ¬ (24 ≤ c ∧ c ≤ 27 ∧ p = m0 3 4) → ¬ (c = 346 ∧ (p = 157 ∨ (117 + 4 * m0 346 157 ≤ p ∧ p ≤ 120 + 4 * m0 346 157))) → m2 c p = m0 c p := fun c p p1 p2 p3 => by rw [f2 c p p3, f1 c p p1 p2]
    refine hk _ _ m2 (hz.tests (j1.of hm2) (fun c p p1 p2 p3 => F c p p1 (by omega) (by omega)) ⟨?_, fun i i0 i1 => ?_⟩ (by omega) (fun q => ?_))
    · rw [f2 3 4 (by omega), ye, xe, t34]
    · rw [xe] at i1
      by_cases e : i = m0 346 157
      · subst e
        rw [← t34] at xa xb xc xd ⊢
        show m2 24 (m0 3 4) = _ ∧ m2 25 (m0 3 4) = _ ∧ m2 26 (m0 3 4) = _ ∧ m2 27 (m0 3 4) = _
        rw [f2 24 _ (by omega), f2 25 _ (by omega), f2 26 _ (by omega), f2 27 _ (by omega), ya, yb, yc, yd, xa, xb, xc, xd]
        exact ⟨rfl, rfl, rfl, rfl⟩
      · have q := hz.tt.2 i i0 (by omega)
        rw [F _ i (by omega) (by omega) (by omega), F _ i (by omega) (by omega) (by omega), F _ i (by omega) (by omega) (by omega), F _ i (by omega) (by omega) (by omega), F 346 _ (by omega) (by omega) (by omega), F 346 _ (by omega) (by omega) (by omega), F 346 _ (by omega) (by omega) (by omega), F 346 _ (by omega) (by omega) (by omega)]
        exact q
    · rw [F 4 0 (by omega) (by omega) (by omega)] at q
      exact absurd q z1
