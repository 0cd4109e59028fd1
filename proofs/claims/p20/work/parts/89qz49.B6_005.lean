theorem zz_feed {S : Sh} {m0 : Mm} {K : Int → Int → Mm → Prop} {K1 : Int → Mm → Prop} {u1 u2 u3 u4 u5 n : Int} (hS : Shp S) (hz : RZ S m0 n) (hK : ∀ (r : Int) (M : Mm), wp_X12_feed S M 336 u1 u2 u3 u4 u5 (fun r2 M2 => K r r2 M2) → K1 r M) (hk : ∀ (r : Int) (M1 : Mm), RZ S M1 n → K r r M1) : wp_X11_feed S m0 0 u1 u2 u3 u4 u5 K1 := by
  have hj := hz.1
  obtain ⟨jc, xr, ⟨⟨a1, a2, a3⟩, a4, a5⟩⟩ := id hj
  obtain ⟨l, hl⟩ : ∃ l : Int, m0 1 1 = l := ⟨_, rfl⟩
  refine zk_feed11 hS jc hl (fun z => ?_) (fun m1 j1 l0 l1 f1 e1 w1 => ?_)
  · refine hK _ _ ?_
    refine zk_feed12 hS jc (a1.symm.trans hl) (fun _ => hk _ m0 hz) (fun m2 _ _ z2 _ _ _ => absurd z2 z)
  · refine hK _ _ ?_
    refine zk_feed12 hS j1 (l := l) (by rw [f1 336 1 (by omega) (by omega), ← a1]; exact hl) (fun z => absurd l1 z) (fun m2 j2 _ _ f2 e2 w2 => hk _ m2 (hz.keep ⟨j2, ?_, ?_⟩ (fun c p q => by unfold KZ at q; rw [f2 c p (by omega) (by omega), f1 c p (by omega) (by omega)])))
    · have F : ∀ c p : Int, ¬ c = 1 → ¬ c = 2 → ¬ (c = 336 ∧ p = 1) → ¬ c = 337 → m2 c p = m0 c p := fun c p q1 q2 q3 q4 => by rw [f2 c p q3 (by omega), f1 c p (by omega) (by omega)]
      unfold Xr at xr ⊢
      rw [F 3 3 (by omega) (by omega) (by omega) (by omega), F 336 22 (by omega) (by omega) (by omega) (by omega), F 76 3 (by omega) (by omega) (by omega) (by omega), F 356 0 (by omega) (by omega) (by omega) (by omega), F 76 9 (by omega) (by omega) (by omega) (by omega), F 357 0 (by omega) (by omega) (by omega) (by omega), F 101 3 (by omega) (by omega) (by omega) (by omega), F 356 1 (by omega) (by omega) (by omega) (by omega), F 101 9 (by omega) (by omega) (by omega) (by omega), F 357 1 (by omega) (by omega) (by omega) (by omega), F 126 3 (by omega) (by omega) (by omega) (by omega), F 356 2 (by omega) (by omega) (by omega) (by omega), F 126 9 (by omega) (by omega) (by omega) (by omega), F 357 2 (by omega) (by omega) (by omega) (by omega), F 151 3 (by omega) (by omega) (by omega) (by omega), F 356 3 (by omega) (by omega) (by omega) (by omega), F 151 9 (by omega) (by omega) (by omega) (by omega), F 357 3 (by omega) (by omega) (by omega) (by omega)]
      exact xr
    · have F : ∀ c p : Int, ¬ c = 1 → ¬ c = 2 → ¬ (c = 336 ∧ p = 1) → ¬ c = 337 → m2 c p = m0 c p := fun c p q1 q2 q3 q4 => by rw [f2 c p q3 (by omega), f1 c p (by omega) (by omega)]
      have G2 : ∀ p : Int, m2 2 p = m1 2 p := fun p => f2 2 p (by omega) (by omega)
      obtain ⟨v1, v2, v3, v4, v5⟩ := w1
      obtain ⟨x1, x2, x3, x4, x5⟩ := w2
      unfold Ya
      rw [F 0 7 (by omega) (by omega) (by omega) (by omega), F 336 2 (by omega) (by omega) (by omega) (by omega), F 3 2 (by omega) (by omega) (by omega) (by omega), F 336 21 (by omega) (by omega) (by omega) (by omega), F 76 2 (by omega) (by omega) (by omega) (by omega), F 355 0 (by omega) (by omega) (by omega) (by omega), F 357 0 (by omega) (by omega) (by omega) (by omega), F 101 2 (by omega) (by omega) (by omega) (by omega), F 355 1 (by omega) (by omega) (by omega) (by omega), F 357 1 (by omega) (by omega) (by omega) (by omega), F 126 2 (by omega) (by omega) (by omega) (by omega), F 355 2 (by omega) (by omega) (by omega) (by omega), F 357 2 (by omega) (by omega) (by omega) (by omega), F 151 2 (by omega) (by omega) (by omega) (by omega), F 355 3 (by omega) (by omega) (by omega) (by omega), F 357 3 (by omega) (by omega) (by omega) (by omega)]
      refine ⟨⟨by rw [f2 1 1 (by omega) (by omega)]; omega, fun p p0 p1 => ?_, a3⟩, a4, a5⟩
      rw [G2]
      by_cases c0 : l ≤ p ∧ p < l + 4
      · have y1 := v1 (p - l) (by omega) (by omega)
        have y2 := x1 (p - l) (by omega) (by omega)
        rw [show l + (p - l) = p by omega] at y1 y2
        rw [y1, y2]
      by_cases c1 : l + 4 ≤ p ∧ p < l + 8
      · have y1 := v2 (p - (l + 4)) (by omega) (by omega)
        have y2 := x2 (p - (l + 4)) (by omega) (by omega)
        rw [show l + 4 + (p - (l + 4)) = p by omega] at y1 y2
        rw [y1, y2]
      by_cases c2 : l + 8 ≤ p ∧ p < l + 12
      · have y1 := v3 (p - (l + 8)) (by omega) (by omega)
        have y2 := x3 (p - (l + 8)) (by omega) (by omega)
        rw [show l + 8 + (p - (l + 8)) = p by omega] at y1 y2
        rw [y1, y2]
      by_cases c3 : l + 12 ≤ p ∧ p < l + 16
      · have y1 := v4 (p - (l + 12)) (by omega) (by omega)
        have y2 := x4 (p - (l + 12)) (by omega) (by omega)
        rw [show l + 12 + (p - (l + 12)) = p by omega] at y1 y2
        rw [y1, y2]
      by_cases c4 : l + 16 ≤ p ∧ p < l + 20
      · have y1 := v5 (p - (l + 16)) (by omega) (by omega)
        have y2 := x5 (p - (l + 16)) (by omega) (by omega)
        rw [show l + 16 + (p - (l + 16)) = p by omega] at y1 y2
        rw [y1, y2]
      rw [f1 2 p (by omega) (by omega), f2 337 p (by omega) (by omega), f1 337 p (by omega) (by omega)]
      exact a2 p p0 p1
