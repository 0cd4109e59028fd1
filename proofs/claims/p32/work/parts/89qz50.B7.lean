section
/-! undo, image, back -/
theorem zz_undo {S : Sh} {m0 : Mm} {K : Int → Int → Mm → Prop} {K1 : Int → Mm → Prop} {n : Int} (hS : Shp S) (hz : RZ S m0 n) (hK : ∀ (r : Int) (M : Mm), wp_X12_undo S M 336 (fun r2 M2 => K r r2 M2) → K1 r M) (hk : ∀ (r : Int) (M1 : Mm), RZ S M1 n → K r r M1) : wp_X11_undo S m0 0 K1 := by
  have hm := hz.inv
  have eu : m0 0 5 = m0 336 25 := hz.2.1.2.2.1
  refine zx_undo11 hS hm (fun z => hK _ _ (zx_undo12 hS hz.1 (fun _ => hk _ m0 hz) (fun r M1 _ nz _ _ _ _ _ _ => absurd (eu.symm.trans z) nz))) (fun i m1 hm1 nz ei i0 i1 f1 n1 v1 w0 w1 w2 w3 w4 => ?_)
  have j1 := hz.1.of hm1
  have e25 : m1 336 25 = m0 336 25 := f1 336 25 (by first | decide | exact fun z => absurd z.1 (by decide) | exact ⟨fun z => absurd z.1 (by decide), fun z => absurd z.1 (by decide)⟩ | omega) (by first | decide | exact fun z => absurd z.1 (by decide) | exact ⟨fun z => absurd z.1 (by decide), fun z => absurd z.1 (by decide)⟩ | omega)
  refine hK _ _ (zx_undo12 hS j1 (fun z => absurd (eu.trans (e25.symm.trans z)) nz) (fun r m2 j2 nz2 er r0 r1 x25 f2 g2 => ?_))
  rw [e25] at er
  have e : m0 0 5 - 1 = r := by omega
  rw [e]
  obtain ⟨_, ⟨⟨⟨⟨b4, b5, b6, b9, b157⟩, b3⟩, tl, sr, tt⟩, im, _, pa⟩, cr, xz⟩ := id hz
  have db : DB (m0 346) := ⟨b4, b5, b6, b9, b157⟩
  have F : ∀ c p : Int, ¬ (16 ≤ c ∧ c ≤ 23) → ¬ (c = 0 ∧ (p = 4 ∨ p = 5)) → ¬ (c = 346 ∧ 0 ≤ p ∧ p < 57) → ¬ (c = 336 ∧ p = 25) → m2 c p = m0 c p := fun c p q1 q2 q3 q4 => by rw [f2 c p q3 q4, f1 c p q1 q2]
  obtain ⟨⟨sr', _⟩, tl'⟩ := pa r r0 (by omega)
  have ex : (m0 0 4 + 20 - m0 336 25 + r) % 20 = i := by omega
  rw [ex] at sr'
  have D0 : ∀ p : Int, 0 ≤ p → p < 57 → m2 346 p = uD m0 r p := fun p p0 p1 => by
    rw [g2 p p0 p1, f1 347 _ (by first | decide | exact fun z => absurd z.1 (by decide) | exact ⟨fun z => absurd z.1 (by decide), fun z => absurd z.1 (by decide)⟩ | omega) (by first | decide | exact fun z => absurd z.1 (by decide) | exact ⟨fun z => absurd z.1 (by decide), fun z => absurd z.1 (by decide)⟩ | omega)]
    rfl
  have G : ∀ p : Int, (tp p ∨ ¬ (0 ≤ p ∧ p < 57)) → m2 346 p = m0 346 p := fun p q => by
    by_cases z : 0 ≤ p ∧ p < 57
    · rw [D0 p z.1 z.2]
      exact tl' p z.2 (q.resolve_right (fun y => y z))
    · exact F 346 p (by first | decide | exact fun z => absurd z.1 (by decide) | exact ⟨fun z => absurd z.1 (by decide), fun z => absurd z.1 (by decide)⟩ | omega) (by first | decide | exact fun z => absurd z.1 (by decide) | exact ⟨fun z => absurd z.1 (by decide), fun z => absurd z.1 (by decide)⟩ | omega) (by first | decide | exact fun z => absurd z.1 (by decide) | exact ⟨fun z => absurd z.1 (by decide), fun z => absurd z.1 (by decide)⟩ | omega) (by first | decide | exact fun z => absurd z.1 (by decide) | exact ⟨fun z => absurd z.1 (by decide), fun z => absurd z.1 (by decide)⟩ | omega)
  have db2 : DB (m2 346) := db.move (fun p q => G p (by omega))
  have E : ∀ c p : Int, 16 ≤ c → c ≤ 23 → m2 c p = m1 c p := fun c p q1 q2 => f2 c p (by first | exact fun y => absurd (y.1 ▸ z) (by decide) | exact fun y => absurd (y.1 ▸ q) (by decide) | exact z | exact q | exact z.1 | exact q.1 | exact z.2 | exact q.2 | omega) (by omega)
  have x4 := tl' 4 (by omega) (by omega)
  have x5 := tl' 5 (by omega) (by omega)
  have x6 := tl' 6 (by omega) (by omega)
  refine hk _ m2 ⟨j2, ⟨⟨⟨db2, by rw [G 3 (by omega)]; exact b3⟩, ?_, ?_, ?_⟩, fun k k0 k1 => ?_, ?_, fun q q0 q1 => ?_⟩, cr.same (fun c p q => F c p (by omega) (by omega) (by omega) (by omega)), ?_⟩
  · exact tl.move db b3 (fun p _ _ => F _ p (by omega) (by omega) (by omega) (by omega)) (fun c p q => F _ p (by omega) (by omega) (by omega) (by omega)) (fun p q => G p (Or.inl q))
  · refine sr'.mv (by omega) (by omega) (by omega) (by omega) (fun p p0 p1 => ?_) (fun c p q => ?_) D0
    · rw [E _ p (by omega) (by omega)]
      rcases (show p = 0 ∨ p = 1 by omega) with z | z <;> subst z
      · exact w0
      · exact w1
    · obtain ⟨p0, q⟩ := q
      rw [E _ p (by omega) (by omega)]
      rcases (show c = 1 ∨ c = 2 ∨ c = 3 ∨ c = 4 ∨ c = 5 ∨ c = 6 ∨ c = 7 by omega) with z | z | z | z | z | z | z <;> subst z
      · rw [show 176 + 8 * i + 1 = 177 + 8 * i by omega]; exact (w2 p p0 (by omega)).1
      · rw [show 176 + 8 * i + 2 = 178 + 8 * i by omega]; exact (w2 p p0 (by omega)).2.1
      · rw [show 176 + 8 * i + 3 = 179 + 8 * i by omega]; exact (w2 p p0 (by omega)).2.2
      · rw [show 176 + 8 * i + 4 = 180 + 8 * i by omega]; exact (w3 p p0 (by omega)).1
      · rw [show 176 + 8 * i + 5 = 181 + 8 * i by omega]; exact (w3 p p0 (by omega)).2.1
      · rw [show 176 + 8 * i + 6 = 182 + 8 * i by omega]; exact (w3 p p0 (by omega)).2.2
      · rw [show 176 + 8 * i + 7 = 183 + 8 * i by omega]; exact w4 p p0 (by omega)
  · exact tt.move db (F 3 4 (by first | decide | exact fun z => absurd z.1 (by decide) | exact ⟨fun z => absurd z.1 (by decide), fun z => absurd z.1 (by decide)⟩ | omega) (by first | decide | exact fun z => absurd z.1 (by decide) | exact ⟨fun z => absurd z.1 (by decide), fun z => absurd z.1 (by decide)⟩ | omega) (by first | decide | exact fun z => absurd z.1 (by decide) | exact ⟨fun z => absurd z.1 (by decide), fun z => absurd z.1 (by decide)⟩ | omega) (by first | decide | exact fun z => absurd z.1 (by decide) | exact ⟨fun z => absurd z.1 (by decide), fun z => absurd z.1 (by decide)⟩ | omega)) (fun c p c0 c1 _ _ => F _ p (by omega) (by omega) (by omega) (by omega)) (fun p p0 p1 => G p (by omega))
  · rw [F 357 k (by first | decide | exact fun z => absurd z.1 (by decide) | exact ⟨fun z => absurd z.1 (by decide), fun z => absurd z.1 (by decide)⟩ | omega) (by first | decide | exact fun z => absurd z.1 (by decide) | exact ⟨fun z => absurd z.1 (by decide), fun z => absurd z.1 (by decide)⟩ | omega) (by first | decide | exact fun z => absurd z.1 (by decide) | exact ⟨fun z => absurd z.1 (by decide), fun z => absurd z.1 (by decide)⟩ | omega) (by first | decide | exact fun z => absurd z.1 (by decide) | exact ⟨fun z => absurd z.1 (by decide), fun z => absurd z.1 (by decide)⟩ | omega), show iD m2 k = iD m0 k from funext (fun p => F 354 _ (by first | decide | exact fun z => absurd z.1 (by decide) | exact ⟨fun z => absurd z.1 (by decide), fun z => absurd z.1 (by decide)⟩ | omega) (by first | decide | exact fun z => absurd z.1 (by decide) | exact ⟨fun z => absurd z.1 (by decide), fun z => absurd z.1 (by decide)⟩ | omega) (by first | decide | exact fun z => absurd z.1 (by decide) | exact ⟨fun z => absurd z.1 (by decide), fun z => absurd z.1 (by decide)⟩ | omega) (by first | decide | exact fun z => absurd z.1 (by decide) | exact ⟨fun z => absurd z.1 (by decide), fun z => absurd z.1 (by decide)⟩ | omega))]
    exact (im k k0 k1).imp (fun z => z) (fun z => z.same (fun c p c0 c1 => F c p (by omega) (by omega) (by omega) (by omega)) (F _ 4 (by omega) (by omega) (by omega) (by omega)) (fun p _ _ => rfl))
  · rw [x25, f2 0 5 (by first | decide | exact fun z => absurd z.1 (by decide) | exact ⟨fun z => absurd z.1 (by decide), fun z => absurd z.1 (by decide)⟩ | omega) (by first | decide | exact fun z => absurd z.1 (by decide) | exact ⟨fun z => absurd z.1 (by decide), fun z => absurd z.1 (by decide)⟩ | omega), v1]; omega
  · rw [x25] at q1 ⊢
    rw [f2 0 4 (by first | decide | exact fun z => absurd z.1 (by decide) | exact ⟨fun z => absurd z.1 (by decide), fun z => absurd z.1 (by decide)⟩ | omega) (by first | decide | exact fun z => absurd z.1 (by decide) | exact ⟨fun z => absurd z.1 (by decide), fun z => absurd z.1 (by decide)⟩ | omega), n1]
    obtain ⟨⟨srq, _⟩, tlq⟩ := pa q q0 (by omega)
    have ey : (i + 20 - r + q) % 20 = (m0 0 4 + 20 - m0 336 25 + q) % 20 := by omega
    obtain ⟨o, ho⟩ : ∃ o : Int, o = (m0 0 4 + 20 - m0 336 25 + q) % 20 := ⟨_, rfl⟩
    rw [ey]
    rw [← ho] at srq ⊢
    have ob : 0 ≤ o ∧ o ≤ 19 := by omega
    have eD : uD m2 q = uD m0 q := funext (fun p => F 347 _ (by first | decide | exact fun z => absurd z.1 (by decide) | exact ⟨fun z => absurd z.1 (by decide), fun z => absurd z.1 (by decide)⟩ | omega) (by first | decide | exact fun z => absurd z.1 (by decide) | exact ⟨fun z => absurd z.1 (by decide), fun z => absurd z.1 (by decide)⟩ | omega) (by first | decide | exact fun z => absurd z.1 (by decide) | exact ⟨fun z => absurd z.1 (by decide), fun z => absurd z.1 (by decide)⟩ | omega) (by first | decide | exact fun z => absurd z.1 (by decide) | exact ⟨fun z => absurd z.1 (by decide), fun z => absurd z.1 (by decide)⟩ | omega))
    have y4 := tlq 4 (by omega) (by omega)
    have y5 := tlq 5 (by omega) (by omega)
    have y6 := tlq 6 (by omega) (by omega)
    refine ⟨⟨?_, db2⟩, fun p p1 tq => ?_⟩
    · rw [eD]
      exact srq.mv (by omega) (by omega) (by omega) (by omega) (fun p _ _ => F _ p (by omega) (by omega) (by omega) (by omega)) (fun c p z => F _ p (by omega) (by omega) (by omega) (by omega)) (fun p _ _ => rfl)
    · rw [eD, G p (Or.inl tq)]; exact tlq p p1 tq
  · obtain ⟨⟨s1, s2, s3, s4⟩, xb, xc, xd, xe, xf⟩ := xz
    have pi := xc i i0 i1
    refine ⟨⟨?_, ?_, ?_, ?_⟩, fun k k0 k1 => (xb k k0 k1).move (F _ _ (by omega) (by omega) (by omega) (by omega)) (F _ _ (by omega) (by omega) (by omega) (by omega)) (F _ _ (by omega) (by omega) (by omega) (by omega)) (fun p _ _ => F _ _ (by omega) (by omega) (by omega) (by omega)) (fun p _ _ => F _ _ (by omega) (by omega) (by omega) (by omega)) (fun p _ _ => F _ _ (by omega) (by omega) (by omega) (by omega)), fun r r0 r1 => ?_, ?_, fun k k0 k1 => ?_, ?_⟩
    · show m2 16 0 ≤ n
      rw [E 16 0 (by omega) (by omega), w0]; exact pi.1
    · rw [F _ 0 (by omega) (by omega) (by omega) (by omega), F 3 4 (by first | decide | exact fun z => absurd z.1 (by decide) | exact ⟨fun z => absurd z.1 (by decide), fun z => absurd z.1 (by decide)⟩ | omega) (by first | decide | exact fun z => absurd z.1 (by decide) | exact ⟨fun z => absurd z.1 (by decide), fun z => absurd z.1 (by decide)⟩ | omega) (by first | decide | exact fun z => absurd z.1 (by decide) | exact ⟨fun z => absurd z.1 (by decide), fun z => absurd z.1 (by decide)⟩ | omega) (by first | decide | exact fun z => absurd z.1 (by decide) | exact ⟨fun z => absurd z.1 (by decide), fun z => absurd z.1 (by decide)⟩ | omega)]; exact s2
    · exact s3.move (F _ _ (by omega) (by omega) (by omega) (by omega)) (fun p _ _ => F _ _ (by omega) (by omega) (by omega) (by omega)) (fun p _ _ => F _ _ (by omega) (by omega) (by omega) (by omega))
    · refine pi.2.move (fun p p0 p1 => ?_)
      show m2 21 p = _
      rw [E 21 p (by omega) (by omega), show 176 + 8 * i + 5 = 181 + 8 * i by omega]
      exact (w3 p p0 p1).2.1
    · rw [F _ 0 (by omega) (by omega) (by omega) (by omega)]
      exact ⟨(xc r r0 r1).1, (xc r r0 r1).2.move (fun p _ _ => F _ _ (by omega) (by omega) (by omega) (by omega))⟩
    · exact xd.move b3 (fun p q => G p (by omega))
    · rw [F 357 k (by first | decide | exact fun z => absurd z.1 (by decide) | exact ⟨fun z => absurd z.1 (by decide), fun z => absurd z.1 (by decide)⟩ | omega) (by first | decide | exact fun z => absurd z.1 (by decide) | exact ⟨fun z => absurd z.1 (by decide), fun z => absurd z.1 (by decide)⟩ | omega) (by first | decide | exact fun z => absurd z.1 (by decide) | exact ⟨fun z => absurd z.1 (by decide), fun z => absurd z.1 (by decide)⟩ | omega) (by first | decide | exact fun z => absurd z.1 (by decide) | exact ⟨fun z => absurd z.1 (by decide), fun z => absurd z.1 (by decide)⟩ | omega), show iD m2 k = iD m0 k from funext (fun p => F 354 _ (by first | decide | exact fun z => absurd z.1 (by decide) | exact ⟨fun z => absurd z.1 (by decide), fun z => absurd z.1 (by decide)⟩ | omega) (by first | decide | exact fun z => absurd z.1 (by decide) | exact ⟨fun z => absurd z.1 (by decide), fun z => absurd z.1 (by decide)⟩ | omega) (by first | decide | exact fun z => absurd z.1 (by decide) | exact ⟨fun z => absurd z.1 (by decide), fun z => absurd z.1 (by decide)⟩ | omega) (by first | decide | exact fun z => absurd z.1 (by decide) | exact ⟨fun z => absurd z.1 (by decide), fun z => absurd z.1 (by decide)⟩ | omega))]; exact xe k k0 k1
    · rw [F 55 2 (by first | decide | exact fun z => absurd z.1 (by decide) | exact ⟨fun z => absurd z.1 (by decide), fun z => absurd z.1 (by decide)⟩ | omega) (by first | decide | exact fun z => absurd z.1 (by decide) | exact ⟨fun z => absurd z.1 (by decide), fun z => absurd z.1 (by decide)⟩ | omega) (by first | decide | exact fun z => absurd z.1 (by decide) | exact ⟨fun z => absurd z.1 (by decide), fun z => absurd z.1 (by decide)⟩ | omega) (by first | decide | exact fun z => absurd z.1 (by decide) | exact ⟨fun z => absurd z.1 (by decide), fun z => absurd z.1 (by decide)⟩ | omega), F 336 23 (by first | decide | exact fun z => absurd z.1 (by decide) | exact ⟨fun z => absurd z.1 (by decide), fun z => absurd z.1 (by decide)⟩ | omega) (by first | decide | exact fun z => absurd z.1 (by decide) | exact ⟨fun z => absurd z.1 (by decide), fun z => absurd z.1 (by decide)⟩ | omega) (by first | decide | exact fun z => absurd z.1 (by decide) | exact ⟨fun z => absurd z.1 (by decide), fun z => absurd z.1 (by decide)⟩ | omega) (by first | decide | exact fun z => absurd z.1 (by decide) | exact ⟨fun z => absurd z.1 (by decide), fun z => absurd z.1 (by decide)⟩ | omega)]; exact xf
theorem zz_image {S : Sh} {m0 : Mm} {K : Int → Int → Mm → Prop} {K1 : Int → Mm → Prop} {n u : Int} (hS : Shp S) (hz : RZ S m0 n) (hK : ∀ (r : Int) (M : Mm), wp_X12_image S M 336 u (fun r2 M2 => K r r2 M2) → K1 r M) (hk : ∀ (r : Int) (M1 : Mm), RZ S M1 n → K r r M1) : wp_X11_image S m0 0 u K1 := by
  have hj := hz.1
  refine zx_image11 hS hj.1 (fun w => hK _ _ (zx_image12 hS hj.1 (fun _ => hk _ m0 hz) (fun r M1 a b _ _ _ _ _ _ _ => absurd ⟨a, b⟩ w))) (fun r m1 a b j1 er ff t0 t1 s0 s1 x0 x1 f1 z1 y1 v1 => ?_)
  have e46 : m1 346 = m0 346 := funext (fun p => ff 346 p (by first | decide | exact fun z => absurd z.1 (by decide) | exact ⟨fun z => absurd z.1 (by decide), fun z => absurd z.1 (by decide)⟩ | omega) (by first | decide | exact fun z => absurd z.1 (by decide) | exact ⟨fun z => absurd z.1 (by decide), fun z => absurd z.1 (by decide)⟩ | omega))
  have e22 : m1 336 22 = m0 336 22 := ff 336 22 (by first | decide | exact fun z => absurd z.1 (by decide) | exact ⟨fun z => absurd z.1 (by decide), fun z => absurd z.1 (by decide)⟩ | omega) (by first | decide | exact fun z => absurd z.1 (by decide) | exact ⟨fun z => absurd z.1 (by decide), fun z => absurd z.1 (by decide)⟩ | omega)
  have e21 : m1 336 21 = m0 336 21 := ff 336 21 (by first | decide | exact fun z => absurd z.1 (by decide) | exact ⟨fun z => absurd z.1 (by decide), fun z => absurd z.1 (by decide)⟩ | omega) (by first | decide | exact fun z => absurd z.1 (by decide) | exact ⟨fun z => absurd z.1 (by decide), fun z => absurd z.1 (by decide)⟩ | omega)
  refine hK _ _ (zx_image12 hS j1 (fun w => absurd ⟨a, b⟩ w) (fun r2 m2 _ _ j2 er2 f2 g2 x2 y2 v2 => ?_))
  have e : r2 = r := by
    rw [er2, er, e46]
    exact hz.sr.1.1.symm
  rw [e]
  have F : ∀ c p : Int, ¬ (76 + 25 * u ≤ c ∧ c ≤ 76 + 25 * u + 24) → ¬ (c = 354 ∧ 158 * u ≤ p ∧ p < 158 * u + 158) → ¬ ((c = 355 ∨ c = 356 ∨ c = 357) ∧ p = u) → m2 c p = m0 c p := fun c p q1 q2 q3 => by rw [f2 c p q2 q3, ff c p (by omega) (by omega)]
  have E : ∀ c p : Int, c ≤ 335 → m2 c p = m1 c p := fun c p q => f2 c p (by first | exact fun y => absurd (y.1 ▸ z) (by decide) | exact fun y => absurd (y.1 ▸ q) (by decide) | exact z | exact q | exact z.1 | exact q.1 | exact z.2 | exact q.2 | omega) (by omega)
  have D0 : ∀ p : Int, 0 ≤ p → p < 158 → iD m2 u p = m0 346 p := fun p p0 p1 => by
    show m2 354 (158 * u + p) = _
    rw [g2 p p0 p1, e46]
  have jx : JX S m2 := by
    refine ⟨j2, Xr.mk ?_ (fun k k0 k1 => ?_), Ya.mk (hj.2.2.up (fun c p q hs => F c p (by omega) (by omega) (by omega))) ?_ (fun k k0 k1 => ?_)⟩
    · rw [F 3 3 (by first | decide | exact fun z => absurd z.1 (by decide) | exact ⟨fun z => absurd z.1 (by decide), fun z => absurd z.1 (by decide)⟩ | omega) (by first | decide | exact fun z => absurd z.1 (by decide) | exact ⟨fun z => absurd z.1 (by decide), fun z => absurd z.1 (by decide)⟩ | omega) (by first | decide | exact fun z => absurd z.1 (by decide) | exact ⟨fun z => absurd z.1 (by decide), fun z => absurd z.1 (by decide)⟩ | omega), F 336 22 (by first | decide | exact fun z => absurd z.1 (by decide) | exact ⟨fun z => absurd z.1 (by decide), fun z => absurd z.1 (by decide)⟩ | omega) (by first | decide | exact fun z => absurd z.1 (by decide) | exact ⟨fun z => absurd z.1 (by decide), fun z => absurd z.1 (by decide)⟩ | omega) (by first | decide | exact fun z => absurd z.1 (by decide) | exact ⟨fun z => absurd z.1 (by decide), fun z => absurd z.1 (by decide)⟩ | omega)]
      exact hj.2.1.1
    · by_cases e : k = u
      · rw [e, E _ 3 (by omega), E _ 9 (by omega), x2, y2, z1, y1, e22]
        exact ⟨hj.2.1.1, rfl⟩
      · rw [F _ 3 (by omega) (by omega) (by omega), F _ 9 (by omega) (by omega) (by omega), F 356 k (by first | decide | exact fun z => absurd z.1 (by decide) | exact ⟨fun z => absurd z.1 (by decide), fun z => absurd z.1 (by decide)⟩ | omega) (by first | decide | exact fun z => absurd z.1 (by decide) | exact ⟨fun z => absurd z.1 (by decide), fun z => absurd z.1 (by decide)⟩ | omega) (by first | decide | exact fun z => absurd z.1 (by decide) | exact ⟨fun z => absurd z.1 (by decide), fun z => absurd z.1 (by decide)⟩ | omega), F 357 k (by first | decide | exact fun z => absurd z.1 (by decide) | exact ⟨fun z => absurd z.1 (by decide), fun z => absurd z.1 (by decide)⟩ | omega) (by first | decide | exact fun z => absurd z.1 (by decide) | exact ⟨fun z => absurd z.1 (by decide), fun z => absurd z.1 (by decide)⟩ | omega) (by first | decide | exact fun z => absurd z.1 (by decide) | exact ⟨fun z => absurd z.1 (by decide), fun z => absurd z.1 (by decide)⟩ | omega)]
        exact hj.2.1.k k0 k1
    · rw [F 3 2 (by first | decide | exact fun z => absurd z.1 (by decide) | exact ⟨fun z => absurd z.1 (by decide), fun z => absurd z.1 (by decide)⟩ | omega) (by first | decide | exact fun z => absurd z.1 (by decide) | exact ⟨fun z => absurd z.1 (by decide), fun z => absurd z.1 (by decide)⟩ | omega) (by first | decide | exact fun z => absurd z.1 (by decide) | exact ⟨fun z => absurd z.1 (by decide), fun z => absurd z.1 (by decide)⟩ | omega), F 336 21 (by first | decide | exact fun z => absurd z.1 (by decide) | exact ⟨fun z => absurd z.1 (by decide), fun z => absurd z.1 (by decide)⟩ | omega) (by first | decide | exact fun z => absurd z.1 (by decide) | exact ⟨fun z => absurd z.1 (by decide), fun z => absurd z.1 (by decide)⟩ | omega) (by first | decide | exact fun z => absurd z.1 (by decide) | exact ⟨fun z => absurd z.1 (by decide), fun z => absurd z.1 (by decide)⟩ | omega)]
      exact hj.2.2.2.1
    · by_cases e : k = u
      · rw [e, E _ 2 (by omega), v2, v1, e21]
        exact Or.inr hj.2.2.2.1
      · rw [F _ 2 (by omega) (by omega) (by omega), F 355 k (by first | decide | exact fun z => absurd z.1 (by decide) | exact ⟨fun z => absurd z.1 (by decide), fun z => absurd z.1 (by decide)⟩ | omega) (by first | decide | exact fun z => absurd z.1 (by decide) | exact ⟨fun z => absurd z.1 (by decide), fun z => absurd z.1 (by decide)⟩ | omega) (by first | decide | exact fun z => absurd z.1 (by decide) | exact ⟨fun z => absurd z.1 (by decide), fun z => absurd z.1 (by decide)⟩ | omega), F 357 k (by first | decide | exact fun z => absurd z.1 (by decide) | exact ⟨fun z => absurd z.1 (by decide), fun z => absurd z.1 (by decide)⟩ | omega) (by first | decide | exact fun z => absurd z.1 (by decide) | exact ⟨fun z => absurd z.1 (by decide), fun z => absurd z.1 (by decide)⟩ | omega) (by first | decide | exact fun z => absurd z.1 (by decide) | exact ⟨fun z => absurd z.1 (by decide), fun z => absurd z.1 (by decide)⟩ | omega)]
        exact hj.2.2.k k0 k1
  obtain ⟨_, ⟨rd, im, eu, pa⟩, cr, xz⟩ := id hz
  have F0 : ∀ c p : Int, ¬ (76 ≤ c ∧ c ≤ 175) → ¬ (354 ≤ c ∧ c ≤ 357) → m2 c p = m0 c p := fun c p q1 q2 => F c p (by omega) (by omega) (by omega)
  have e46' : m2 346 = m0 346 := funext (fun p => F0 346 p (by first | decide | exact fun z => absurd z.1 (by decide) | exact ⟨fun z => absurd z.1 (by decide), fun z => absurd z.1 (by decide)⟩ | omega) (by first | decide | exact fun z => absurd z.1 (by decide) | exact ⟨fun z => absurd z.1 (by decide), fun z => absurd z.1 (by decide)⟩ | omega))
  refine hk _ m2 ⟨jx, ⟨?_, fun k k0 k1 => ?_, ?_, fun r r0 r1 => ?_⟩, cr.same (fun c p q => F0 c p (by omega) (by omega)), ?_⟩
  · rw [e46']
    exact rd.same (fun c p c0 c1 => F0 c p (by omega) (by omega)) (F0 3 4 (by first | decide | exact fun z => absurd z.1 (by decide) | exact ⟨fun z => absurd z.1 (by decide), fun z => absurd z.1 (by decide)⟩ | omega) (by first | decide | exact fun z => absurd z.1 (by decide) | exact ⟨fun z => absurd z.1 (by decide), fun z => absurd z.1 (by decide)⟩ | omega)) (fun p _ _ => rfl)
  · by_cases e : k = u
    · rw [e]
      refine Or.inr (rd.move (fun p p0 p1 => ?_) (fun c p q => ?_) (fun p p0 p1 => ?_) (fun c p q => ?_) ?_ (fun c p c0 c1 p0 p1 => ?_) D0)
      · rw [E _ p (by omega)]; exact t0 p p0 p1
      · rw [E _ p (by omega)]; exact t1 c p q
      · rw [E _ p (by omega)]; exact s0 p p0 p1
      · rw [E _ p (by omega)]; exact s1 c p q
      · rw [E _ 4 (by omega)]; exact x0
      · rw [E _ p (by omega)]; exact x1 c p c0 c1 p0 p1
    · rw [F 357 k (by first | decide | exact fun z => absurd z.1 (by decide) | exact ⟨fun z => absurd z.1 (by decide), fun z => absurd z.1 (by decide)⟩ | omega) (by first | decide | exact fun z => absurd z.1 (by decide) | exact ⟨fun z => absurd z.1 (by decide), fun z => absurd z.1 (by decide)⟩ | omega) (by first | decide | exact fun z => absurd z.1 (by decide) | exact ⟨fun z => absurd z.1 (by decide), fun z => absurd z.1 (by decide)⟩ | omega)]
      refine (im k k0 k1).imp (fun z => z) (fun z => z.same (fun c p c0 c1 => F c p (by omega) (by omega) (by omega)) (F _ 4 (by omega) (by omega) (by omega)) (fun p p0 p1 => ?_))
      exact F 354 _ (by first | decide | exact fun z => absurd z.1 (by decide) | exact ⟨fun z => absurd z.1 (by decide), fun z => absurd z.1 (by decide)⟩ | omega) (by first | decide | exact fun z => absurd z.1 (by decide) | exact ⟨fun z => absurd z.1 (by decide), fun z => absurd z.1 (by decide)⟩ | omega) (by first | decide | exact fun z => absurd z.1 (by decide) | exact ⟨fun z => absurd z.1 (by decide), fun z => absurd z.1 (by decide)⟩ | omega)
  · rw [F0 0 5 (by first | decide | exact fun z => absurd z.1 (by decide) | exact ⟨fun z => absurd z.1 (by decide), fun z => absurd z.1 (by decide)⟩ | omega) (by first | decide | exact fun z => absurd z.1 (by decide) | exact ⟨fun z => absurd z.1 (by decide), fun z => absurd z.1 (by decide)⟩ | omega), F0 336 25 (by first | decide | exact fun z => absurd z.1 (by decide) | exact ⟨fun z => absurd z.1 (by decide), fun z => absurd z.1 (by decide)⟩ | omega) (by first | decide | exact fun z => absurd z.1 (by decide) | exact ⟨fun z => absurd z.1 (by decide), fun z => absurd z.1 (by decide)⟩ | omega)]; exact eu
  · rw [F0 336 25 (by first | decide | exact fun z => absurd z.1 (by decide) | exact ⟨fun z => absurd z.1 (by decide), fun z => absurd z.1 (by decide)⟩ | omega) (by first | decide | exact fun z => absurd z.1 (by decide) | exact ⟨fun z => absurd z.1 (by decide), fun z => absurd z.1 (by decide)⟩ | omega)] at r1 ⊢
    rw [F0 0 4 (by first | decide | exact fun z => absurd z.1 (by decide) | exact ⟨fun z => absurd z.1 (by decide), fun z => absurd z.1 (by decide)⟩ | omega) (by first | decide | exact fun z => absurd z.1 (by decide) | exact ⟨fun z => absurd z.1 (by decide), fun z => absurd z.1 (by decide)⟩ | omega)]
    obtain ⟨o, ho⟩ : ∃ o : Int, o = (m0 0 4 + 20 - m0 336 25 + r) % 20 := ⟨_, rfl⟩
    obtain ⟨⟨srq, dbq⟩, tlq⟩ := pa r r0 r1
    rw [← ho] at srq ⊢
    have ob : 0 ≤ o ∧ o ≤ 19 := by omega
    have db := hz.db
    have eD : uD m2 r = uD m0 r := funext (fun p => F0 347 _ (by first | decide | exact fun z => absurd z.1 (by decide) | exact ⟨fun z => absurd z.1 (by decide), fun z => absurd z.1 (by decide)⟩ | omega) (by first | decide | exact fun z => absurd z.1 (by decide) | exact ⟨fun z => absurd z.1 (by decide), fun z => absurd z.1 (by decide)⟩ | omega))
    have y4 := tlq 4 (by omega) (by omega)
    have y5 := tlq 5 (by omega) (by omega)
    have y6 := tlq 6 (by omega) (by omega)
    unfold RU
    rw [eD, e46']
    exact ⟨⟨srq.mv (by omega) (by omega) (by omega) (by omega) (fun p _ _ => F0 _ p (by omega) (by omega)) (fun c p z => F0 _ p (by omega) (by omega)) (fun p _ _ => rfl), dbq⟩, tlq⟩
  · obtain ⟨xs, xb, xc, xd, xe, xf⟩ := xz
    refine ⟨xs.move (F0 _ _ (by omega) (by omega)) (F0 _ _ (by omega) (by omega)) (F0 _ _ (by omega) (by omega)) (fun p _ _ => F0 _ _ (by omega) (by omega)) (fun p _ _ => F0 _ _ (by omega) (by omega)) (fun p _ _ => F0 _ _ (by omega) (by omega)), fun k k0 k1 => ?_, fun r r0 r1 => ?_, by rw [e46']; exact xd, fun k k0 k1 => ?_, ?_⟩
    · by_cases e : k = u
      · rw [e]
        refine xs.move ?_ ?_ ?_ (fun p p0 p1 => ?_) (fun p p0 p1 => ?_) (fun p p0 p1 => ?_)
        · rw [E _ 0 (by omega)]; exact s0 0 (by omega) (by omega)
        · rw [E _ 0 (by omega)]; exact t0 0 (by omega) (by omega)
        · rw [E _ 4 (by omega)]; exact x0
        · have q := t1 1 p (by unfold inT; omega)
          rw [show 76 + 25 * u + 1 + 1 = 76 + 25 * u + 2 by omega] at q
          rw [E _ p (by omega)]; exact q
        · have q := t1 2 p (by unfold inT; omega)
          rw [show 76 + 25 * u + 1 + 2 = 76 + 25 * u + 3 by omega] at q
          rw [E _ p (by omega)]; exact q
        · have q := s1 5 p (by unfold inS; omega)
          rw [show 76 + 25 * u + 13 + 5 = 76 + 25 * u + 18 by omega] at q
          rw [E _ p (by omega)]; exact q
      · exact (xb k k0 k1).move (F _ _ (by omega) (by omega) (by omega)) (F _ _ (by omega) (by omega) (by omega)) (F _ _ (by omega) (by omega) (by omega)) (fun p _ _ => F _ _ (by omega) (by omega) (by omega)) (fun p _ _ => F _ _ (by omega) (by omega) (by omega)) (fun p _ _ => F _ _ (by omega) (by omega) (by omega))
    · rw [F0 _ 0 (by omega) (by omega)]
      exact ⟨(xc r r0 r1).1, (xc r r0 r1).2.move (fun p _ _ => F0 _ _ (by omega) (by omega))⟩
    · by_cases e : k = u
      · rw [e]
        exact Or.inr (xd.move rd.1.2 (fun p q => D0 p (by omega) (by omega)))
      · rw [F 357 k (by first | decide | exact fun z => absurd z.1 (by decide) | exact ⟨fun z => absurd z.1 (by decide), fun z => absurd z.1 (by decide)⟩ | omega) (by first | decide | exact fun z => absurd z.1 (by decide) | exact ⟨fun z => absurd z.1 (by decide), fun z => absurd z.1 (by decide)⟩ | omega) (by first | decide | exact fun z => absurd z.1 (by decide) | exact ⟨fun z => absurd z.1 (by decide), fun z => absurd z.1 (by decide)⟩ | omega)]
        rcases im k k0 k1 with y | y
        · exact Or.inl y
        · exact (xe k k0 k1).imp (fun z => z) (fun z => z.move y.1.2 (fun p q => F 354 _ (by first | decide | exact fun z => absurd z.1 (by decide) | exact ⟨fun z => absurd z.1 (by decide), fun z => absurd z.1 (by decide)⟩ | omega) (by first | decide | exact fun z => absurd z.1 (by decide) | exact ⟨fun z => absurd z.1 (by decide), fun z => absurd z.1 (by decide)⟩ | omega) (by first | decide | exact fun z => absurd z.1 (by decide) | exact ⟨fun z => absurd z.1 (by decide), fun z => absurd z.1 (by decide)⟩ | omega)))
    · rw [F0 55 2 (by first | decide | exact fun z => absurd z.1 (by decide) | exact ⟨fun z => absurd z.1 (by decide), fun z => absurd z.1 (by decide)⟩ | omega) (by first | decide | exact fun z => absurd z.1 (by decide) | exact ⟨fun z => absurd z.1 (by decide), fun z => absurd z.1 (by decide)⟩ | omega), F0 336 23 (by first | decide | exact fun z => absurd z.1 (by decide) | exact ⟨fun z => absurd z.1 (by decide), fun z => absurd z.1 (by decide)⟩ | omega) (by first | decide | exact fun z => absurd z.1 (by decide) | exact ⟨fun z => absurd z.1 (by decide), fun z => absurd z.1 (by decide)⟩ | omega)]; exact xf
theorem zx_back11 {S : Sh} {m0 : Mm} {K : Int → Mm → Prop} {u1 : Int} (hS : Shp S) (hj : Jc S m0) (h0 : (¬ (0 ≤ u1 ∧ u1 ≤ 3) ∨ m0 (76 + 25 * u1) 9 = 0) → K (-1) m0) (hk : ∀ (r : Int) (M1 : Mm), 0 ≤ u1 → u1 ≤ 3 → ¬ m0 (76 + 25 * u1) 9 = 0 → Jc S M1 → r = m0 (76 + 25 * u1 + 13) 0 → M1 0 5 = 0 → (∀ c p : Int, ¬ (4 ≤ c ∧ c ≤ 27) → ¬ (c = 3 ∧ (p = 2 ∨ p = 3 ∨ p = 4)) → ¬ (c = 0 ∧ p = 5) → ¬ (c = 55 ∧ p = 1) → M1 c p = m0 c p) → M1 55 1 = (if M1 3 2 < 0 then -2 else M1 30 (M1 3 2)) → (∀ p : Int, 0 ≤ p → p < 8 → M1 (3 + 1) p = m0 (76 + 25 * u1 + 1) p) → (∀ c p : Int, inT c p → M1 (3 + 1 + c) p = m0 (76 + 25 * u1 + 1 + c) p) → (∀ p : Int, 0 ≤ p → p < 2 → M1 (3 + 13) p = m0 (76 + 25 * u1 + 13) p) → (∀ c p : Int, inS c p → M1 (3 + 13 + c) p = m0 (76 + 25 * u1 + 13 + c) p) → M1 3 4 = m0 (76 + 25 * u1) 4 → (∀ c p : Int, 21 ≤ c → c ≤ 24 → 0 ≤ p → p < 10 → M1 (3 + c) p = m0 (76 + 25 * u1 + c) p) → M1 3 3 = m0 (76 + 25 * u1) 3 → M1 3 2 = m0 (76 + 25 * u1) 2 → K r M1) : wp_X11_back S m0 0 u1 K := by
  have hm0 := hj.inv
  refine u_X11_back ?_
  refine g_if (fun w => g_C (h0 (Or.inl (by omega)))) (fun w => ?_)
  refine g_C ?_
  refine g_if (fun w2 => g_C (h0 (Or.inl (by omega)))) (fun w2 => ?_)
  have a : 0 ≤ u1 := by omega
  have b : u1 ≤ 3 := by omega
  have sc := im_sc a b
  refine g_getr 2 28 rfl hS.k0 hm0.f_0_2 (by decide) ?_
  refine g_ldrB (P := fun c => c = 76 + 25 * u1) (fun c hc => by omega) hS.k28 hS.l28 a (by omega) (hm0.im a b) (fun v ev hv => ?_)
  subst hv
  refine g_getu 9 rfl (hS.kB_4_0 sc) (fun fl efl => ?_)
  refine g_if (fun w3 => ?_) (fun w3 => g_C (h0 (Or.inr (by omega))))
  refine g_getr 1 3 rfl hS.k0 hm0.f_0_1 (by decide) ?_
  refine g_getr 2 28 rfl hS.k0 hm0.f_0_2 (by decide) ?_
  refine g_ldrB (P := fun c => c = 76 + 25 * u1) (fun c hc => by omega) hS.k28 hS.l28 a (by omega) (hm0.im a b) (fun v2 ev2 hv2 => ?_)
  subst hv2
  refine ⟨hS.k3, ?_⟩
  refine zx_become hS hj (by decide) sc (Or.inr (by omega)) (fun m1 j1 ff t0 t1 s0 s1 x0 x1 f1 z1 v1 => ?_)
  have hm1 := j1.inv
  refine g_C ?_
  refine g_put 5 rfl hS.k0 (hm1.w_0_5 (by decide) (by decide)) (fun m2 e2 hm2 => ?_)
  have f2 : ∀ c p : Int, ¬ (c = 0 ∧ p = 5) → m2 c p = m1 c p := fun c p q => (congrFun (congrFun e2 _) _).trans (up_ne q)
  have y2 : m2 0 5 = 0 := (congrFun (congrFun e2 _) _).trans (up_at _ _ _ _)
  refine ⟨hS.k0, ?_⟩
  refine zx_enforce hS hm2 (fun m3 hm3 f3 y3 => ?_)
  refine g_getr 1 3 rfl hS.k0 hm3.f_0_1 (by decide) ?_
  refine g_getr 1 16 rfl hS.k3 hm3.f_3_1 (by decide) ?_
  refine g_getu 0 rfl hS.k16 (fun v3 ev3 => ?_)
  have E : ∀ c p : Int, ¬ (c = 0 ∧ p = 5) → ¬ (c = 55 ∧ p = 1) → m3 c p = m1 c p := fun c p q1 q2 => by rw [f3 c p q2, f2 c p q1]
  have e16 : v3 = m0 (76 + 25 * u1 + 13) 0 := by
    rw [ev3, E 16 0 (by omega) (by omega)]
    exact s0 0 (by omega) (by omega)
  refine hk _ m3 a b (by omega) (Jc.of hm3) e16 (by rw [f3 0 5 (by first | decide | exact fun z => absurd z.1 (by decide) | exact ⟨fun z => absurd z.1 (by decide), fun z => absurd z.1 (by decide)⟩ | omega), y2]) (fun c p q1 q2 q3 q4 => by rw [E c p q3 q4]; exact ff c p (by omega) (by omega)) ?_ (fun p p0 p1 => by rw [E _ p (by omega) (by omega)]; exact t0 p p0 p1) (fun c p q => by rw [E _ p (by omega) (by omega)]; exact t1 c p q) (fun p p0 p1 => by rw [E _ p (by omega) (by omega)]; exact s0 p p0 p1) (fun c p q => by rw [E _ p (by omega) (by omega)]; exact s1 c p q) (by rw [E _ 4 (by omega) (by omega)]; exact x0) (fun c p q1 q2 q3 q4 => by rw [E _ p (by omega) (by omega)]; exact x1 c p q1 q2 q3 q4) (by rw [E _ 3 (by omega) (by omega)]; exact z1) (by rw [E _ 2 (by omega) (by omega)]; exact v1)
  rw [y3, f3 3 2 (by first | decide | exact fun z => absurd z.1 (by decide) | exact ⟨fun z => absurd z.1 (by decide), fun z => absurd z.1 (by decide)⟩ | omega)]
  by_cases z : m2 3 2 < 0
  · rw [if_pos z, if_pos z]
  · rw [if_neg z, if_neg z, f3 30 _ (by first | decide | exact fun z => absurd z.1 (by decide) | exact ⟨fun z => absurd z.1 (by decide), fun z => absurd z.1 (by decide)⟩ | omega)]
theorem zz_back {S : Sh} {m0 : Mm} {K : Int → Int → Mm → Prop} {K1 : Int → Mm → Prop} {n u : Int} (hS : Shp S) (hz : RZ S m0 n) (hK : ∀ (r : Int) (M : Mm), wp_X12_back S M 336 u (fun r2 M2 => K r r2 M2) → K1 r M) (hk : ∀ (r : Int) (M1 : Mm), RZ S M1 n → K r r M1) : wp_X11_back S m0 0 u K1 := by
  have hj := hz.1
  refine zx_back11 hS hj.1 (fun w => ?_) (fun r m1 a b nz j1 er e05 ff ce t0 t1 s0 s1 x0 x1 z1 v1 => ?_)
  · refine hK _ _ (zx_back12 hS hj.1 (fun _ => hk _ m0 hz) (fun r M1 a b nz _ _ _ _ _ _ _ => ?_))
    have q := (hj.2.1.k a b).2
    exfalso
    rcases w with w | w
    · exact w ⟨a, b⟩
    · omega
  have q := hj.2.1.k a b
  have q2 := hj.2.2.k a b
  have F1 : ∀ c p : Int, 336 ≤ c → m1 c p = m0 c p := fun c p z => ff c p (by omega) (by omega) (by omega) (by omega)
  refine hK _ _ (zx_back12 hS j1 (fun w => ?_) (fun r2 m2 _ _ nz2 j2 er2 x25 f2 g2 x22 x21 => ?_))
  · exfalso
    rcases w with w | w
    · exact w ⟨a, b⟩
    · rw [F1 357 _ (by first | decide | exact fun z => absurd z.1 (by decide) | exact ⟨fun z => absurd z.1 (by decide), fun z => absurd z.1 (by decide)⟩ | omega)] at w
      omega
  obtain ⟨_, ⟨rd, im, eu, pa⟩, cr, xz⟩ := id hz
  have rk : RD m0 (76 + 25 * u) (iD m0 u) := (im u a b).resolve_left (by omega)
  have e : r2 = r := by
    rw [er2, er, F1 354 _ (by first | decide | exact fun z => absurd z.1 (by decide) | exact ⟨fun z => absurd z.1 (by decide), fun z => absurd z.1 (by decide)⟩ | omega)]
    exact rk.2.2.1.1.1.symm
  rw [e]
  have E : ∀ c p : Int, c ≤ 335 → m2 c p = m1 c p := fun c p z => f2 c p (by first | exact fun y => absurd (y.1 ▸ z) (by decide) | exact fun y => absurd (y.1 ▸ q) (by decide) | exact z | exact q | exact z.1 | exact q.1 | exact z.2 | exact q.2 | omega) (by omega)
  have D0 : ∀ p : Int, 0 ≤ p → p < 158 → m2 346 p = iD m0 u p := fun p p0 p1 => by
    rw [g2 p p0 p1, F1 354 _ (by first | decide | exact fun z => absurd z.1 (by decide) | exact ⟨fun z => absurd z.1 (by decide), fun z => absurd z.1 (by decide)⟩ | omega)]
    rfl
  have F : ∀ c p : Int, ¬ (4 ≤ c ∧ c ≤ 27) → ¬ (c = 3 ∧ (p = 2 ∨ p = 3 ∨ p = 4)) → ¬ (c = 0 ∧ p = 5) → ¬ (c = 55 ∧ p = 1) → ¬ (c = 346 ∧ 0 ≤ p ∧ p < 158) → ¬ (c = 336 ∧ (p = 21 ∨ p = 22 ∨ p = 25)) → m2 c p = m0 c p := fun c p q1 q2 q3 q4 q5 q6 => by rw [f2 c p q5 q6, ff c p q1 q2 q3 q4]
  have jx : JX S m2 := by
    refine ⟨j2, Xr.mk ?_ (fun k k0 k1 => ?_), Ya.mk (hj.2.2.up (fun c p q hs => F c p (by omega) (by omega) (by omega) (by omega) (by omega) (by omega))) ?_ (fun k k0 k1 => ?_)⟩
    · rw [E 3 3 (by omega), z1, x22, F1 356 _ (by first | decide | exact fun z => absurd z.1 (by decide) | exact ⟨fun z => absurd z.1 (by decide), fun z => absurd z.1 (by decide)⟩ | omega)]
      exact q.1
    · rw [F _ 3 (by omega) (by omega) (by omega) (by omega) (by omega) (by omega), F _ 9 (by omega) (by omega) (by omega) (by omega) (by omega) (by omega), F 356 k (by first | decide | exact fun z => absurd z.1 (by decide) | exact ⟨fun z => absurd z.1 (by decide), fun z => absurd z.1 (by decide)⟩ | omega) (by first | decide | exact fun z => absurd z.1 (by decide) | exact ⟨fun z => absurd z.1 (by decide), fun z => absurd z.1 (by decide)⟩ | omega) (by first | decide | exact fun z => absurd z.1 (by decide) | exact ⟨fun z => absurd z.1 (by decide), fun z => absurd z.1 (by decide)⟩ | omega) (by first | decide | exact fun z => absurd z.1 (by decide) | exact ⟨fun z => absurd z.1 (by decide), fun z => absurd z.1 (by decide)⟩ | omega) (by first | decide | exact fun z => absurd z.1 (by decide) | exact ⟨fun z => absurd z.1 (by decide), fun z => absurd z.1 (by decide)⟩ | omega) (by first | decide | exact fun z => absurd z.1 (by decide) | exact ⟨fun z => absurd z.1 (by decide), fun z => absurd z.1 (by decide)⟩ | omega), F 357 k (by first | decide | exact fun z => absurd z.1 (by decide) | exact ⟨fun z => absurd z.1 (by decide), fun z => absurd z.1 (by decide)⟩ | omega) (by first | decide | exact fun z => absurd z.1 (by decide) | exact ⟨fun z => absurd z.1 (by decide), fun z => absurd z.1 (by decide)⟩ | omega) (by first | decide | exact fun z => absurd z.1 (by decide) | exact ⟨fun z => absurd z.1 (by decide), fun z => absurd z.1 (by decide)⟩ | omega) (by first | decide | exact fun z => absurd z.1 (by decide) | exact ⟨fun z => absurd z.1 (by decide), fun z => absurd z.1 (by decide)⟩ | omega) (by first | decide | exact fun z => absurd z.1 (by decide) | exact ⟨fun z => absurd z.1 (by decide), fun z => absurd z.1 (by decide)⟩ | omega) (by first | decide | exact fun z => absurd z.1 (by decide) | exact ⟨fun z => absurd z.1 (by decide), fun z => absurd z.1 (by decide)⟩ | omega)]
      exact hj.2.1.k k0 k1
    · rw [E 3 2 (by omega), v1, x21, F1 355 _ (by first | decide | exact fun z => absurd z.1 (by decide) | exact ⟨fun z => absurd z.1 (by decide), fun z => absurd z.1 (by decide)⟩ | omega)]
      rcases q2 with q2 | q2
      · omega
      · exact q2
    · rw [F _ 2 (by omega) (by omega) (by omega) (by omega) (by omega) (by omega), F 355 k (by first | decide | exact fun z => absurd z.1 (by decide) | exact ⟨fun z => absurd z.1 (by decide), fun z => absurd z.1 (by decide)⟩ | omega) (by first | decide | exact fun z => absurd z.1 (by decide) | exact ⟨fun z => absurd z.1 (by decide), fun z => absurd z.1 (by decide)⟩ | omega) (by first | decide | exact fun z => absurd z.1 (by decide) | exact ⟨fun z => absurd z.1 (by decide), fun z => absurd z.1 (by decide)⟩ | omega) (by first | decide | exact fun z => absurd z.1 (by decide) | exact ⟨fun z => absurd z.1 (by decide), fun z => absurd z.1 (by decide)⟩ | omega) (by first | decide | exact fun z => absurd z.1 (by decide) | exact ⟨fun z => absurd z.1 (by decide), fun z => absurd z.1 (by decide)⟩ | omega) (by first | decide | exact fun z => absurd z.1 (by decide) | exact ⟨fun z => absurd z.1 (by decide), fun z => absurd z.1 (by decide)⟩ | omega), F 357 k (by first | decide | exact fun z => absurd z.1 (by decide) | exact ⟨fun z => absurd z.1 (by decide), fun z => absurd z.1 (by decide)⟩ | omega) (by first | decide | exact fun z => absurd z.1 (by decide) | exact ⟨fun z => absurd z.1 (by decide), fun z => absurd z.1 (by decide)⟩ | omega) (by first | decide | exact fun z => absurd z.1 (by decide) | exact ⟨fun z => absurd z.1 (by decide), fun z => absurd z.1 (by decide)⟩ | omega) (by first | decide | exact fun z => absurd z.1 (by decide) | exact ⟨fun z => absurd z.1 (by decide), fun z => absurd z.1 (by decide)⟩ | omega) (by first | decide | exact fun z => absurd z.1 (by decide) | exact ⟨fun z => absurd z.1 (by decide), fun z => absurd z.1 (by decide)⟩ | omega) (by first | decide | exact fun z => absurd z.1 (by decide) | exact ⟨fun z => absurd z.1 (by decide), fun z => absurd z.1 (by decide)⟩ | omega)]
      exact hj.2.2.k k0 k1
  refine hk _ m2 ⟨jx, ⟨?_, fun k k0 k1 => ?_, ?_, fun r r0 r1 => absurd r1 (by omega)⟩, ⟨fun k k0 k1 => ?_, ?_⟩, ?_⟩
  · refine rk.move (fun p p0 p1 => ?_) (fun c p q => ?_) (fun p p0 p1 => ?_) (fun c p q => ?_) ?_ (fun c p c0 c1 p0 p1 => ?_) D0
    · rw [E _ p (by omega)]; exact t0 p p0 p1
    · rw [E _ p (by omega)]; exact t1 c p q
    · rw [E _ p (by omega)]; exact s0 p p0 p1
    · rw [E _ p (by omega)]; exact s1 c p q
    · rw [E _ 4 (by omega)]; exact x0
    · rw [E _ p (by omega)]; exact x1 c p c0 c1 p0 p1
  · rw [F 357 k (by first | decide | exact fun z => absurd z.1 (by decide) | exact ⟨fun z => absurd z.1 (by decide), fun z => absurd z.1 (by decide)⟩ | omega) (by first | decide | exact fun z => absurd z.1 (by decide) | exact ⟨fun z => absurd z.1 (by decide), fun z => absurd z.1 (by decide)⟩ | omega) (by first | decide | exact fun z => absurd z.1 (by decide) | exact ⟨fun z => absurd z.1 (by decide), fun z => absurd z.1 (by decide)⟩ | omega) (by first | decide | exact fun z => absurd z.1 (by decide) | exact ⟨fun z => absurd z.1 (by decide), fun z => absurd z.1 (by decide)⟩ | omega) (by first | decide | exact fun z => absurd z.1 (by decide) | exact ⟨fun z => absurd z.1 (by decide), fun z => absurd z.1 (by decide)⟩ | omega) (by first | decide | exact fun z => absurd z.1 (by decide) | exact ⟨fun z => absurd z.1 (by decide), fun z => absurd z.1 (by decide)⟩ | omega), show iD m2 k = iD m0 k from funext (fun p => F 354 _ (by first | decide | exact fun z => absurd z.1 (by decide) | exact ⟨fun z => absurd z.1 (by decide), fun z => absurd z.1 (by decide)⟩ | omega) (by first | decide | exact fun z => absurd z.1 (by decide) | exact ⟨fun z => absurd z.1 (by decide), fun z => absurd z.1 (by decide)⟩ | omega) (by first | decide | exact fun z => absurd z.1 (by decide) | exact ⟨fun z => absurd z.1 (by decide), fun z => absurd z.1 (by decide)⟩ | omega) (by first | decide | exact fun z => absurd z.1 (by decide) | exact ⟨fun z => absurd z.1 (by decide), fun z => absurd z.1 (by decide)⟩ | omega) (by first | decide | exact fun z => absurd z.1 (by decide) | exact ⟨fun z => absurd z.1 (by decide), fun z => absurd z.1 (by decide)⟩ | omega) (by first | decide | exact fun z => absurd z.1 (by decide) | exact ⟨fun z => absurd z.1 (by decide), fun z => absurd z.1 (by decide)⟩ | omega))]
    exact (im k k0 k1).imp (fun z => z) (fun z => z.same (fun c p c0 c1 => F c p (by omega) (by omega) (by omega) (by omega) (by omega) (by omega)) (F _ 4 (by omega) (by omega) (by omega) (by omega) (by omega) (by omega)) (fun p _ _ => rfl))
  · rw [x25, E 0 5 (by omega), e05]
  · rw [F 336 2 (by first | decide | exact fun z => absurd z.1 (by decide) | exact ⟨fun z => absurd z.1 (by decide), fun z => absurd z.1 (by decide)⟩ | omega) (by first | decide | exact fun z => absurd z.1 (by decide) | exact ⟨fun z => absurd z.1 (by decide), fun z => absurd z.1 (by decide)⟩ | omega) (by first | decide | exact fun z => absurd z.1 (by decide) | exact ⟨fun z => absurd z.1 (by decide), fun z => absurd z.1 (by decide)⟩ | omega) (by first | decide | exact fun z => absurd z.1 (by decide) | exact ⟨fun z => absurd z.1 (by decide), fun z => absurd z.1 (by decide)⟩ | omega) (by first | decide | exact fun z => absurd z.1 (by decide) | exact ⟨fun z => absurd z.1 (by decide), fun z => absurd z.1 (by decide)⟩ | omega) (by first | decide | exact fun z => absurd z.1 (by decide) | exact ⟨fun z => absurd z.1 (by decide), fun z => absurd z.1 (by decide)⟩ | omega)] at k1
    obtain ⟨Cs, r1, r2, r3⟩ := cr.1 k k0 k1
    refine ⟨Cs, ?_, r2.same (fun c p q => F c p (by omega) (by omega) (by omega) (by omega) (by omega) (by omega)), r3⟩
    rw [F 30 k (by first | decide | exact fun z => absurd z.1 (by decide) | exact ⟨fun z => absurd z.1 (by decide), fun z => absurd z.1 (by decide)⟩ | omega) (by first | decide | exact fun z => absurd z.1 (by decide) | exact ⟨fun z => absurd z.1 (by decide), fun z => absurd z.1 (by decide)⟩ | omega) (by first | decide | exact fun z => absurd z.1 (by decide) | exact ⟨fun z => absurd z.1 (by decide), fun z => absurd z.1 (by decide)⟩ | omega) (by first | decide | exact fun z => absurd z.1 (by decide) | exact ⟨fun z => absurd z.1 (by decide), fun z => absurd z.1 (by decide)⟩ | omega) (by first | decide | exact fun z => absurd z.1 (by decide) | exact ⟨fun z => absurd z.1 (by decide), fun z => absurd z.1 (by decide)⟩ | omega) (by first | decide | exact fun z => absurd z.1 (by decide) | exact ⟨fun z => absurd z.1 (by decide), fun z => absurd z.1 (by decide)⟩ | omega)]
    exact r1.same (fun c p q => F c p (by omega) (by omega) (by omega) (by omega) (by omega) (by omega))
  · rw [E 55 1 (by omega), E 3 2 (by omega), ce]
    by_cases z : m1 3 2 < 0
    · rw [if_pos z, if_pos z]
    · rw [if_neg z, if_neg z, E 30 _ (by omega)]
  · obtain ⟨xs, xb, xc, xd, xe, xf⟩ := xz
    have uk : UQ (iD m0 u) := (xe u a b).resolve_left (by omega)
    refine ⟨(xb u a b).move ?_ ?_ ?_ (fun p p0 p1 => ?_) (fun p p0 p1 => ?_) (fun p p0 p1 => ?_), fun k k0 k1 => (xb k k0 k1).move (F _ _ (by omega) (by omega) (by omega) (by omega) (by omega) (by omega)) (F _ _ (by omega) (by omega) (by omega) (by omega) (by omega) (by omega)) (F _ _ (by omega) (by omega) (by omega) (by omega) (by omega) (by omega)) (fun p _ _ => F _ _ (by omega) (by omega) (by omega) (by omega) (by omega) (by omega)) (fun p _ _ => F _ _ (by omega) (by omega) (by omega) (by omega) (by omega) (by omega)) (fun p _ _ => F _ _ (by omega) (by omega) (by omega) (by omega) (by omega) (by omega)), fun r r0 r1 => ?_, uk.move rk.1.2 (fun p q => D0 p (by omega) (by omega)), fun k k0 k1 => ?_, ?_⟩
    · rw [E _ 0 (by omega)]; exact s0 0 (by omega) (by omega)
    · rw [E _ 0 (by omega)]; exact t0 0 (by omega) (by omega)
    · rw [E _ 4 (by omega)]; exact x0
    · have q := t1 1 p (by unfold inT; omega)
      rw [show 76 + 25 * u + 1 + 1 = 76 + 25 * u + 2 by omega] at q
      rw [E _ p (by omega)]; exact q
    · have q := t1 2 p (by unfold inT; omega)
      rw [show 76 + 25 * u + 1 + 2 = 76 + 25 * u + 3 by omega] at q
      rw [E _ p (by omega)]; exact q
    · have q := s1 5 p (by unfold inS; omega)
      rw [show 76 + 25 * u + 13 + 5 = 76 + 25 * u + 18 by omega] at q
      rw [E _ p (by omega)]; exact q
    · rw [F _ 0 (by omega) (by omega) (by omega) (by omega) (by omega) (by omega)]
      exact ⟨(xc r r0 r1).1, (xc r r0 r1).2.move (fun p _ _ => F _ _ (by omega) (by omega) (by omega) (by omega) (by omega) (by omega))⟩
    · rw [F 357 k (by first | decide | exact fun z => absurd z.1 (by decide) | exact ⟨fun z => absurd z.1 (by decide), fun z => absurd z.1 (by decide)⟩ | omega) (by first | decide | exact fun z => absurd z.1 (by decide) | exact ⟨fun z => absurd z.1 (by decide), fun z => absurd z.1 (by decide)⟩ | omega) (by first | decide | exact fun z => absurd z.1 (by decide) | exact ⟨fun z => absurd z.1 (by decide), fun z => absurd z.1 (by decide)⟩ | omega) (by first | decide | exact fun z => absurd z.1 (by decide) | exact ⟨fun z => absurd z.1 (by decide), fun z => absurd z.1 (by decide)⟩ | omega) (by first | decide | exact fun z => absurd z.1 (by decide) | exact ⟨fun z => absurd z.1 (by decide), fun z => absurd z.1 (by decide)⟩ | omega) (by first | decide | exact fun z => absurd z.1 (by decide) | exact ⟨fun z => absurd z.1 (by decide), fun z => absurd z.1 (by decide)⟩ | omega), show iD m2 k = iD m0 k from funext (fun p => F 354 _ (by first | decide | exact fun z => absurd z.1 (by decide) | exact ⟨fun z => absurd z.1 (by decide), fun z => absurd z.1 (by decide)⟩ | omega) (by first | decide | exact fun z => absurd z.1 (by decide) | exact ⟨fun z => absurd z.1 (by decide), fun z => absurd z.1 (by decide)⟩ | omega) (by first | decide | exact fun z => absurd z.1 (by decide) | exact ⟨fun z => absurd z.1 (by decide), fun z => absurd z.1 (by decide)⟩ | omega) (by first | decide | exact fun z => absurd z.1 (by decide) | exact ⟨fun z => absurd z.1 (by decide), fun z => absurd z.1 (by decide)⟩ | omega) (by first | decide | exact fun z => absurd z.1 (by decide) | exact ⟨fun z => absurd z.1 (by decide), fun z => absurd z.1 (by decide)⟩ | omega) (by first | decide | exact fun z => absurd z.1 (by decide) | exact ⟨fun z => absurd z.1 (by decide), fun z => absurd z.1 (by decide)⟩ | omega))]; exact xe k k0 k1
    · rw [F 55 2 (by first | decide | exact fun z => absurd z.1 (by decide) | exact ⟨fun z => absurd z.1 (by decide), fun z => absurd z.1 (by decide)⟩ | omega) (by first | decide | exact fun z => absurd z.1 (by decide) | exact ⟨fun z => absurd z.1 (by decide), fun z => absurd z.1 (by decide)⟩ | omega) (by first | decide | exact fun z => absurd z.1 (by decide) | exact ⟨fun z => absurd z.1 (by decide), fun z => absurd z.1 (by decide)⟩ | omega) (by first | decide | exact fun z => absurd z.1 (by decide) | exact ⟨fun z => absurd z.1 (by decide), fun z => absurd z.1 (by decide)⟩ | omega) (by first | decide | exact fun z => absurd z.1 (by decide) | exact ⟨fun z => absurd z.1 (by decide), fun z => absurd z.1 (by decide)⟩ | omega) (by first | decide | exact fun z => absurd z.1 (by decide) | exact ⟨fun z => absurd z.1 (by decide), fun z => absurd z.1 (by decide)⟩ | omega), F 336 23 (by first | decide | exact fun z => absurd z.1 (by decide) | exact ⟨fun z => absurd z.1 (by decide), fun z => absurd z.1 (by decide)⟩ | omega) (by first | decide | exact fun z => absurd z.1 (by decide) | exact ⟨fun z => absurd z.1 (by decide), fun z => absurd z.1 (by decide)⟩ | omega) (by first | decide | exact fun z => absurd z.1 (by decide) | exact ⟨fun z => absurd z.1 (by decide), fun z => absurd z.1 (by decide)⟩ | omega) (by first | decide | exact fun z => absurd z.1 (by decide) | exact ⟨fun z => absurd z.1 (by decide), fun z => absurd z.1 (by decide)⟩ | omega) (by first | decide | exact fun z => absurd z.1 (by decide) | exact ⟨fun z => absurd z.1 (by decide), fun z => absurd z.1 (by decide)⟩ | omega) (by first | decide | exact fun z => absurd z.1 (by decide) | exact ⟨fun z => absurd z.1 (by decide), fun z => absurd z.1 (by decide)⟩ | omega)]; exact xf
end
section
/-! rule() of both sides: what is written, what is left alone -/
theorem fz_X3_read {X G : Mm} {S : Sh} {K : Int → Mm → Prop} {M : Mm} (hG : Inv X S G) (f : fr1_F G M) (h : wp_X3_read S M 52 (fun a m => fr1_F G m → K a m)) : wp_X3_read S M 52 K := fr1_X3_read hG (fun _ _ fm z => z fm) f h
theorem fz_X0_read {X G : Mm} {S : Sh} {K : Int → Mm → Prop} {M : Mm} (hG : Inv X S G) (f : fr1_F G M) (h : wp_X0_read S M 31 (fun a m => fr1_F G m → K a m)) : wp_X0_read S M 31 K := fr1_X0_read hG (fun _ _ fm z => z fm) f h
theorem fz_readsAll {X G : Mm} {S : Sh} {K : Int → Mm → Prop} {M : Mm} (hG : Inv X S G) (f : fr2_F G M) (h : wp_X12_readsAll S M 336 (fun a m => fr2_F G m → K a m)) : wp_X12_readsAll S M 336 K := fr2_X12_readsAll hG (fun _ _ fm z => z fm) f h
theorem rlen.new {S : Sh} {v : Int} (h : rowv S v) (ci n : Nat) : rlen (newS S ci n) v = rlen S v := by
  rcases h with h | ⟨h1, h2, h3⟩
  · rw [rlen, rlen, if_pos h, if_pos h]
  · obtain ⟨q0, q1, q2⟩ := h1
    have e : ¬ v = (S.1 : Int) := by omega
    have e2 : ¬ v = -2 := by omega
    rw [rlen, rlen, if_neg e2, if_neg e2]
    show (((if v = (S.1 : Int) then n else S.2.2 v) : Nat) : Int) = _
    rw [if_neg e]
theorem zw_rule11 {S : Sh} {m0 : Mm} {K : Int → Sh → Mm → Prop} {tb : Int → Int} {tn : Int} (hS : Shp S) (hj : Jc S m0) (hR : TC m0 tb tn) (h6 : m0 0 7 = 6 → K (-1) S m0) (hf : ∀ (f : Int) (M1 : Mm), Jc S M1 → (∀ c p : Int, ¬ fr1_W c p → ¬ (c = 1 ∧ p = 1) → M1 c p = m0 c p) → M1 1 1 = 0 → ¬ m0 0 7 = 6 → Bcc tb tn 0 0 0 [] [] 0 f [] → ¬ f = 0 → K (-2 - f) S M1) (hk : ∀ (S1 : Sh) (M1 : Mm) (E : List Int) (v : Int), Shp S1 → Jc S1 M1 → (∀ c p : Int, ¬ fr1_W c p → ¬ (c = 1 ∧ p = 1) → ¬ (c = 0 ∧ p = 7) → ¬ (c = 30 ∧ p = m0 0 7) → ¬ c = v → M1 c p = m0 c p) → M1 1 1 = 0 → M1 0 7 = m0 0 7 + 1 → ¬ m0 0 7 = 6 → Bcc tb tn 0 0 0 [] [] 0 0 E → M1 30 (m0 0 7) = v → rowv S1 v → rlen S1 v = (E.length : Int) → Hs (M1 v) 0 E → (∀ u : Int, rowv S u → ¬ u = v ∧ rowv S1 u ∧ rlen S1 u = rlen S u) → K (m0 0 7) S1 M1) : wp_X11_rule S m0 0 K := by
  have hm0 := hj.inv
  have hs0 := hS.1
  unfold wp_X11_rule
  refine ⟨by omega, ?_⟩
  refine g_get 7 (0) (6) rfl hS.k0 hm0.f_0_7 (fun v ev bv cv => ?_)
  refine g_C ?_
  refine g_if (fun w => ?_) (fun w => g_C (h6 (by omega)))
  refine g_getr 9 52 rfl hS.k0 hm0.f_0_9 (by decide) ?_
  refine ⟨hS.k52, ?_⟩
  have xe : ∀ c p : Int, ¬ c = -1 → sf m0 c p = m0 c p := fun c p h => sf_e m0 h
  have hRX : TC (sf m0) tb tn := ⟨(xe 1 1 (by decide)).trans hR.1, hR.2.1, fun p p0 p1 => ⟨(xe 2 p (by decide)).trans (hR.2.2 p p0 p1).1, (hR.2.2 p p0 p1).2⟩⟩
  have two : ∀ m1 : Mm, Inv (sf m0) S m1 → Jc S (up m1 1 1 0) := by
    intro m1 hm1
    refine (Jc.of hm1).put (fun c p e1 e2 => ?_) (by decide)
    have e1 : c = 1 := by omega
    have e2 : p = 1 := by omega
    subst e1 e2
    exact okb_of (l := 0) (u := 400) (by decide +kernel) (by decide) (by decide)
  refine fz_X3_read hm0 (fun _ _ _ => rfl) ?_
  refine zf_read hS hm0 hRX (fun m1 hm1 a1 n1 fr => ?_) (fun m1 E hm1 a1 rE y1 fr => ?_)
  rotate_left
  · refine g_getr 0 1 rfl hS.k0 hm1.f_0_0 (by decide) ?_
    refine g_C ?_
    refine g_putR 1 rfl hS.k1 (fun m2 e2 => ?_)
    have f2 : ∀ c p : Int, ¬ (c = 1 ∧ p = 1) → m2 c p = m1 c p := fun c p q => (congrFun (congrFun e2 _) _).trans (up_ne q)
    have z2 : m2 1 1 = 0 := (congrFun (congrFun e2 _) _).trans (up_at _ _ _ _)
    have j2 : Jc S m2 := by rw [e2]; exact two m1 hm1
    have hm2 := j2.inv
    refine g_ifT (by decide) ?_
    have y2 : m2 52 2 ≤ 399 := by
      rw [f2 52 2 (by first | decide | exact fun z => absurd z.1 (by decide) | exact ⟨fun z => absurd z.1 (by decide), fun z => absurd z.1 (by decide)⟩ | omega)]
      exact y1
    have e7 : m2 0 7 = m0 0 7 := by rw [f2 0 7 (by first | decide | exact fun z => absurd z.1 (by decide) | exact ⟨fun z => absurd z.1 (by decide), fun z => absurd z.1 (by decide)⟩ | omega), hm1.g (by decide), xe 0 7 (by decide)]
    refine g_getr 6 30 rfl hS.k0 hm2.f_0_6 (by decide) ?_
    refine g_get 7 (0) (6) rfl hS.k0 hm2.f_0_7 (fun k ek bk ck => ?_)
    refine g_getr 9 52 rfl hS.k0 hm2.f_0_9 (by decide) ?_
    refine ⟨hS.k52, ?_⟩
    unfold wp_X3_copyOfCode
    refine ⟨by omega, ?_⟩
    refine g_getr 1 53 rfl hS.k52 hm2.f_52_1 (by decide) ?_
    refine g_get 2 (0) (400) rfl hS.k52 hm2.f_52_2 (fun l el bl cl => ?_)
    unfold wp_J7_copyOf_59c91
    refine g_len 400 hS.k53 hS.l53 (by decide) ?_
    refine ⟨by omega, bl, cl, by omega, ?_⟩
    have hS3 : Shp (newS S 14 l.toNat) := hS.new 14 l.toNat
    unfold wNewA
    refine g_C ?_
    refine g_C ?_
    refine g_len 400 hS3.k53 hS3.l53 (by decide) ?_
    refine g_min (fun q q1 q2 q3 => ?_)
    have kn : isK (newS S 14 l.toNat) (S.1 : Int) 14 := by
      refine ⟨by omega, by show (S.1 : Int).toNat < S.1 + 1; omega, ?_⟩
      show (if (S.1 : Int) = (S.1 : Int) then 14 else S.2.1 (S.1 : Int)) = 14
      rw [if_pos rfl]
    have ln : (newS S 14 l.toNat).2.2 (S.1 : Int) = l.toNat := by
      show (if (S.1 : Int) = (S.1 : Int) then l.toNat else S.2.2 (S.1 : Int)) = l.toNat
      rw [if_pos rfl]
    refine ⟨hS3.k53, kn, ⟨by decide, by decide, by omega, by rw [hS3.l53]; omega, by rw [ln]; omega⟩, ?_⟩
    obtain ⟨m3, e3⟩ : ∃ m3 : Mm, m3 = cpM (newM S m2 fun _ => if 17 ≤ 14 then -1 else 0) 53 0 (S.1 : Int) 0 q := ⟨_, rfl⟩
    rw [← e3]
    have f3 : ∀ c p : Int, ¬ c = (S.1 : Int) → m3 c p = m2 c p := by
      intro c p hc
      rw [e3]
      unfold cpM newM
      rw [if_neg (fun z => hc z.1), if_neg hc]
    have x3 : ∀ p : Int, 0 ≤ p → p < l → m3 (S.1 : Int) p = m2 53 p := by
      intro p p0 p1
      rw [e3]
      unfold cpM
      rw [if_pos ⟨rfl, p0, by omega⟩]
      unfold newM
      rw [if_neg (by omega), show 0 + (p - 0) = p by omega]
    have l30 : (newS S 14 l.toNat).2.2 30 = 6 := hS3.l 30 (by decide) (by decide +kernel)
    refine ⟨hS3.k30, Or.inr kn, ⟨by omega, by rw [l30]; omega⟩, ?_⟩
    obtain ⟨m4, e4⟩ : ∃ m4 : Mm, m4 = up m3 30 k (S.1 : Int) := ⟨_, rfl⟩
    rw [← e4]
    have f4 : ∀ c p : Int, ¬ (c = 30 ∧ p = k) → m4 c p = m3 c p := fun c p q => (congrFun (congrFun e4 _) _).trans (up_ne q)
    have y4 : m4 30 k = (S.1 : Int) := (congrFun (congrFun e4 _) _).trans (up_at _ _ _ _)
    have z7 : m4 0 7 = m2 0 7 := by rw [f4 0 7 (by first | decide | exact fun z => absurd z.1 (by decide) | exact ⟨fun z => absurd z.1 (by decide), fun z => absurd z.1 (by decide)⟩ | omega), f3 0 7 (by first | decide | exact fun z => absurd z.1 (by decide) | exact ⟨fun z => absurd z.1 (by decide), fun z => absurd z.1 (by decide)⟩ | omega)]
    refine g_getu 7 rfl hS3.k0 (fun k2 ek2 => ?_)
    refine g_C ?_
    refine g_A (by omega) (by omega) ?_
    refine g_putR 7 rfl hS3.k0 (fun m5 e5 => ?_)
    have f5 : ∀ c p : Int, ¬ (c = 0 ∧ p = 7) → m5 c p = m4 c p := fun c p q => (congrFun (congrFun e5 _) _).trans (up_ne q)
    have y5 : m5 0 7 = k2 + 1 := (congrFun (congrFun e5 _) _).trans (up_at _ _ _ _)
    have F : ∀ c p : Int, c < 358 → ¬ (c = 30 ∧ p = k) → ¬ (c = 0 ∧ p = 7) → m5 c p = m2 c p := fun c p a1 a2 a3 => by rw [f5 c p a3, f4 c p a2, f3 c p (by first | exact fun y => absurd (y.1 ▸ z) (by decide) | exact fun y => absurd (y.1 ▸ q) (by decide) | exact z | exact q | exact z.1 | exact q.1 | exact z.2 | exact q.2 | omega)]
    have j5 : Jc (newS S 14 l.toNat) m5 := by
      obtain ⟨k1, k2', k3, k4, k5⟩ := j2
      refine ⟨fun c p hc hp => ?_, fun i i0 i1 => ?_, ?_, ?_, ?_⟩
      · by_cases z : (c : Int) = 30 ∧ (p : Int) = k
        · have z1 : c = 30 := by omega
          rw [z1, bd_u (b := (1, 0)) (by decide +kernel)]
          exact Or.inl (by decide)
        · by_cases z2 : (c : Int) = 0 ∧ (p : Int) = 7
          · have z3 : c = 0 := by omega
            have z4 : p = 7 := by omega
            subst z3 z4
            rw [show ((0 : Nat) : Int) = 0 from rfl, show ((7 : Nat) : Int) = 7 from rfl, y5]
            exact okb_of (l := 0) (u := 6) (by decide +kernel) (by omega) (by omega)
          · rw [F c p (by omega) z z2]
            exact k1 c p hc hp
      · by_cases z : i = k
        · rw [z, f5 30 k (by first | decide | exact fun z => absurd z.1 (by decide) | exact ⟨fun z => absurd z.1 (by decide), fun z => absurd z.1 (by decide)⟩ | omega), y4]
          exact Or.inr ⟨kn, by rw [ln]; omega, by omega⟩
        · rw [F 30 i (by first | decide | exact fun z => absurd z.1 (by decide) | exact ⟨fun z => absurd z.1 (by decide), fun z => absurd z.1 (by decide)⟩ | omega) (by first | decide | exact fun z => absurd z.1 (by decide) | exact ⟨fun z => absurd z.1 (by decide), fun z => absurd z.1 (by decide)⟩ | omega) (by first | decide | exact fun z => absurd z.1 (by decide) | exact ⟨fun z => absurd z.1 (by decide), fun z => absurd z.1 (by decide)⟩ | omega)]
          exact (k2' i i0 i1).new 14 l.toNat
      · rw [F 55 1 (by first | decide | exact fun z => absurd z.1 (by decide) | exact ⟨fun z => absurd z.1 (by decide), fun z => absurd z.1 (by decide)⟩ | omega) (by first | decide | exact fun z => absurd z.1 (by decide) | exact ⟨fun z => absurd z.1 (by decide), fun z => absurd z.1 (by decide)⟩ | omega) (by first | decide | exact fun z => absurd z.1 (by decide) | exact ⟨fun z => absurd z.1 (by decide), fun z => absurd z.1 (by decide)⟩ | omega)]
        exact k3.new 14 l.toNat
      · exact k4.same (F 336 21 (by first | decide | exact fun z => absurd z.1 (by decide) | exact ⟨fun z => absurd z.1 (by decide), fun z => absurd z.1 (by decide)⟩ | omega) (by first | decide | exact fun z => absurd z.1 (by decide) | exact ⟨fun z => absurd z.1 (by decide), fun z => absurd z.1 (by decide)⟩ | omega) (by first | decide | exact fun z => absurd z.1 (by decide) | exact ⟨fun z => absurd z.1 (by decide), fun z => absurd z.1 (by decide)⟩ | omega)) (F 336 2 (by first | decide | exact fun z => absurd z.1 (by decide) | exact ⟨fun z => absurd z.1 (by decide), fun z => absurd z.1 (by decide)⟩ | omega) (by first | decide | exact fun z => absurd z.1 (by decide) | exact ⟨fun z => absurd z.1 (by decide), fun z => absurd z.1 (by decide)⟩ | omega) (by first | decide | exact fun z => absurd z.1 (by decide) | exact ⟨fun z => absurd z.1 (by decide), fun z => absurd z.1 (by decide)⟩ | omega)) (fun c p q => F c p (by omega) (by omega) (by omega)) (fun p _ => F 341 p (by first | decide | exact fun z => absurd z.1 (by decide) | exact ⟨fun z => absurd z.1 (by decide), fun z => absurd z.1 (by decide)⟩ | omega) (by first | decide | exact fun z => absurd z.1 (by decide) | exact ⟨fun z => absurd z.1 (by decide), fun z => absurd z.1 (by decide)⟩ | omega) (by first | decide | exact fun z => absurd z.1 (by decide) | exact ⟨fun z => absurd z.1 (by decide), fun z => absurd z.1 (by decide)⟩ | omega)) (fun p _ => F 340 p (by first | decide | exact fun z => absurd z.1 (by decide) | exact ⟨fun z => absurd z.1 (by decide), fun z => absurd z.1 (by decide)⟩ | omega) (by first | decide | exact fun z => absurd z.1 (by decide) | exact ⟨fun z => absurd z.1 (by decide), fun z => absurd z.1 (by decide)⟩ | omega) (by first | decide | exact fun z => absurd z.1 (by decide) | exact ⟨fun z => absurd z.1 (by decide), fun z => absurd z.1 (by decide)⟩ | omega)) (fun p _ => F 338 p (by first | decide | exact fun z => absurd z.1 (by decide) | exact ⟨fun z => absurd z.1 (by decide), fun z => absurd z.1 (by decide)⟩ | omega) (by first | decide | exact fun z => absurd z.1 (by decide) | exact ⟨fun z => absurd z.1 (by decide), fun z => absurd z.1 (by decide)⟩ | omega) (by first | decide | exact fun z => absurd z.1 (by decide) | exact ⟨fun z => absurd z.1 (by decide), fun z => absurd z.1 (by decide)⟩ | omega))
      · unfold PL3 at k5 ⊢
        have e6 : m5 346 = m2 346 := funext (fun p => F 346 p (by first | decide | exact fun z => absurd z.1 (by decide) | exact ⟨fun z => absurd z.1 (by decide), fun z => absurd z.1 (by decide)⟩ | omega) (by first | decide | exact fun z => absurd z.1 (by decide) | exact ⟨fun z => absurd z.1 (by decide), fun z => absurd z.1 (by decide)⟩ | omega) (by first | decide | exact fun z => absurd z.1 (by decide) | exact ⟨fun z => absurd z.1 (by decide), fun z => absurd z.1 (by decide)⟩ | omega))
        have e7 : m5 347 = m2 347 := funext (fun p => F 347 p (by first | decide | exact fun z => absurd z.1 (by decide) | exact ⟨fun z => absurd z.1 (by decide), fun z => absurd z.1 (by decide)⟩ | omega) (by first | decide | exact fun z => absurd z.1 (by decide) | exact ⟨fun z => absurd z.1 (by decide), fun z => absurd z.1 (by decide)⟩ | omega) (by first | decide | exact fun z => absurd z.1 (by decide) | exact ⟨fun z => absurd z.1 (by decide), fun z => absurd z.1 (by decide)⟩ | omega))
        have e8 : m5 354 = m2 354 := funext (fun p => F 354 p (by first | decide | exact fun z => absurd z.1 (by decide) | exact ⟨fun z => absurd z.1 (by decide), fun z => absurd z.1 (by decide)⟩ | omega) (by first | decide | exact fun z => absurd z.1 (by decide) | exact ⟨fun z => absurd z.1 (by decide), fun z => absurd z.1 (by decide)⟩ | omega) (by first | decide | exact fun z => absurd z.1 (by decide) | exact ⟨fun z => absurd z.1 (by decide), fun z => absurd z.1 (by decide)⟩ | omega))
        rw [e6, e7, e8, F 336 25 (by first | decide | exact fun z => absurd z.1 (by decide) | exact ⟨fun z => absurd z.1 (by decide), fun z => absurd z.1 (by decide)⟩ | omega) (by first | decide | exact fun z => absurd z.1 (by decide) | exact ⟨fun z => absurd z.1 (by decide), fun z => absurd z.1 (by decide)⟩ | omega) (by first | decide | exact fun z => absurd z.1 (by decide) | exact ⟨fun z => absurd z.1 (by decide), fun z => absurd z.1 (by decide)⟩ | omega)]
        exact k5
    refine g_getu 7 rfl hS3.k0 (fun k3 ek3 => ?_)
    refine g_C ?_
    refine g_S (by omega) (by omega) ?_
    rw [show k3 - 1 = m0 0 7 by omega]
    have kv : rowv (newS S 14 l.toNat) (S.1 : Int) := Or.inr ⟨kn, by rw [ln]; omega, by omega⟩
    have e52 : m2 52 2 = m1 52 2 := f2 52 2 (by first | decide | exact fun z => absurd z.1 (by decide) | exact ⟨fun z => absurd z.1 (by decide), fun z => absurd z.1 (by decide)⟩ | omega)
    have lE : (E.length : Int) = l := by
      have z := congrArg List.length rE
      rw [rl_len] at z
      omega
    have rv : rlen (newS S 14 l.toNat) (S.1 : Int) = (E.length : Int) := by
      rw [rlen, if_neg (by omega), ln]
      omega
    have hE : Hs (m5 (S.1 : Int)) 0 E := by
      have z := Hs_rl (f := m1 53) (m1 52 2).toNat
      rw [rE] at z
      refine Hs.same _ _ (fun j j0 j1 => ?_) z
      rw [f5 _ _ (by omega), f4 _ _ (by omega), x3 j j0 (by omega), f2 53 j (by first | decide | exact fun z => absurd z.1 (by decide) | exact ⟨fun z => absurd z.1 (by decide), fun z => absurd z.1 (by decide)⟩ | omega)]
    exact hk _ m5 E (S.1 : Int) hS3 j5 (fun c p hs n1 n2 n3 n4 => by rw [f5 c p n2, f4 c p (by first | exact fun y => absurd (y.1 ▸ z) (by decide) | exact fun y => absurd (y.1 ▸ q) (by decide) | exact z | exact q | exact z.1 | exact q.1 | exact z.2 | exact q.2 | omega), f3 c p n4, f2 c p n1, fr c p hs]) (by rw [F 1 1 (by first | decide | exact fun z => absurd z.1 (by decide) | exact ⟨fun z => absurd z.1 (by decide), fun z => absurd z.1 (by decide)⟩ | omega) (by first | decide | exact fun z => absurd z.1 (by decide) | exact ⟨fun z => absurd z.1 (by decide), fun z => absurd z.1 (by decide)⟩ | omega) (by first | decide | exact fun z => absurd z.1 (by decide) | exact ⟨fun z => absurd z.1 (by decide), fun z => absurd z.1 (by decide)⟩ | omega)]; exact z2) (by omega) (by omega) a1 (by rw [f5 30 _ (by first | decide | exact fun z => absurd z.1 (by decide) | exact ⟨fun z => absurd z.1 (by decide), fun z => absurd z.1 (by decide)⟩ | omega), show m0 0 7 = k by omega]; exact y4) kv rv hE (fun u hu => ⟨by rcases hu with z | ⟨⟨z1, z2, _⟩, _, _⟩ <;> omega, hu.new 14 l.toNat, rlen.new hu 14 l.toNat⟩)
  · have b4 := hm1.f_1_4
    refine g_getr 0 1 rfl hS.k0 hm1.f_0_0 (by decide) ?_
    refine g_C ?_
    refine g_putR 1 rfl hS.k1 (fun m2 e2 => ?_)
    have f2 : ∀ c p : Int, ¬ (c = 1 ∧ p = 1) → m2 c p = m1 c p := fun c p q => (congrFun (congrFun e2 _) _).trans (up_ne q)
    have z2 : m2 1 1 = 0 := (congrFun (congrFun e2 _) _).trans (up_at _ _ _ _)
    have j2 : Jc S m2 := by rw [e2]; exact two m1 hm1
    have hm2 := j2.inv
    refine g_ifF (by decide) ?_
    refine g_C ?_
    refine g_getr 0 1 rfl hS.k0 hm2.f_0_0 (by decide) ?_
    refine g_getu 4 rfl hS.k1 (fun v4 ev4 => ?_)
    rw [f2 1 4 (by first | decide | exact fun z => absurd z.1 (by decide) | exact ⟨fun z => absurd z.1 (by decide), fun z => absurd z.1 (by decide)⟩ | omega)] at ev4
    refine g_S (by omega) (by omega) ?_
    rw [ev4]
    exact hf _ m2 j2 (fun c p hs n => by rw [f2 c p n, fr c p hs]) z2 (by omega) a1 n1
theorem zw_rule12 {S : Sh} {m0 : Mm} {K : Int → Mm → Prop} {tb : Int → Int} {tn : Int} (hS : Shp S) (hj : Jc S m0) (hR : TR m0 tb tn) (h6 : m0 336 2 = 6 → K (-1) m0) (hf : ∀ (f : Int) (M1 : Mm), Jc S M1 → (∀ c p : Int, ¬ fr2_W c p → M1 c p = m0 c p) → (∀ c p : Int, (c = 338 ∧ p < 400 * m0 336 2) ∨ (c = 340 ∧ p < 48 * m0 336 2) ∨ (c = 341 ∧ p < m0 336 2) → M1 c p = m0 c p) → M1 336 1 = 0 → ¬ m0 336 2 = 6 → Bcc tb tn 0 0 0 [] [] 0 f [] → ¬ f = 0 → K (-2 - f) M1) (hk : ∀ (M1 : Mm) (Cs : List Cz), Jc S M1 → (∀ c p : Int, ¬ fr2_W c p → ¬ (c = 336 ∧ p = 2) → M1 c p = m0 c p) → (∀ c p : Int, (c = 338 ∧ p < 400 * m0 336 2) ∨ (c = 340 ∧ p < 48 * m0 336 2) ∨ (c = 341 ∧ p < m0 336 2) → M1 c p = m0 c p) → M1 336 1 = 0 → M1 336 2 = m0 336 2 + 1 → ¬ m0 336 2 = 6 → Bcc tb tn 0 0 0 [] [] 0 0 (codC Cs) → RwR M1 (m0 336 2) Cs → Tys Cs → K (m0 336 2) M1) : wp_X12_rule S m0 336 K := by
  have hm0 := hj.inv
  obtain ⟨X, eX⟩ : ∃ X : Mm, X = sf m0 := ⟨_, rfl⟩
  have xe : ∀ c p : Int, ¬ c = -1 → X c p = m0 c p := fun c p h => by rw [eX]; exact sf_e m0 h
  have x2 : X 336 2 = m0 336 2 := xe 336 2 (by decide)
  have hRX : TR X tb tn := ⟨(xe 336 1 (by decide)).trans hR.1, hR.2.1, fun p p0 p1 => ⟨(xe 337 p (by decide)).trans (hR.2.2 p p0 p1).1, (hR.2.2 p p0 p1).2⟩⟩
  rw [← eX] at hm0
  have b2 := hm0.f_336_2
  refine u_X12_rule ?_
  refine g_getu 2 rfl hS.k336 (fun v ev => ?_)
  refine g_C ?_
  refine g_if (fun w => ?_) (fun w => g_C (h6 (by omega)))
  refine g_getu 2 rfl hS.k336 (fun v2 ev2 => ?_)
  refine g_put 11 rfl hS.k336 (hm0.w_336_11 (by omega) (by omega)) (fun m1 e1 hm1 => ?_)
  have f1 : ∀ c p : Int, ¬ (c = 336 ∧ p = 11) → m1 c p = m0 c p := fun c p q => (congrFun (congrFun e1 _) _).trans (up_ne q)
  have y1 : m1 336 11 = v2 := (congrFun (congrFun e1 _) _).trans (up_at _ _ _ _)
  refine g_getr 6 341 rfl hS.k336 hm1.f_336_6 (by decide) ?_
  refine g_getu 11 rfl hS.k336 (fun v3 ev3 => ?_)
  refine g_C ?_
  have hw2 : Inv X S (up m1 341 v3 0) := hm1.wA (0, 12) (by decide) (by decide +kernel) (Or.inr ⟨by decide, by decide⟩) (by omega) (by decide) (by decide)
  refine g_st hS.k341 hS.l341 (by omega) (by omega) hw2 (fun m2 e2 hm2 => ?_)
  have f2 : ∀ c p : Int, ¬ (c = 341 ∧ p = v3) → m2 c p = m1 c p := fun c p q => (congrFun (congrFun e2 _) _).trans (up_ne q)
  have y2 : m2 341 v3 = 0 := (congrFun (congrFun e2 _) _).trans (up_at _ _ _ _)
  have t2 : m2 336 11 = X 336 2 := by rw [f2 336 11 (by first | decide | exact fun z => absurd z.1 (by decide) | exact ⟨fun z => absurd z.1 (by decide), fun z => absurd z.1 (by decide)⟩ | omega)]; omega
  refine ⟨hS.k336, ?_⟩
  refine fz_readsAll (G := m2) hm2 (fun _ _ _ => rfl) ?_
  have G2 : ∀ c p : Int, ¬ fr2_W c p → m2 c p = m0 c p := fun c p q => by unfold fr2_W at q; rw [f2 c p (by first | exact fun y => absurd (y.1 ▸ z) (by decide) | exact fun y => absurd (y.1 ▸ q) (by decide) | exact z | exact q | exact z.1 | exact q.1 | exact z.2 | exact q.2 | omega), f1 c p (by first | exact fun y => absurd (y.1 ▸ z) (by decide) | exact fun y => absurd (y.1 ▸ q) (by decide) | exact z | exact q | exact z.1 | exact q.1 | exact z.2 | exact q.2 | omega)]
  refine zv_readsAll (T := fun f E => Bcc tb tn 0 0 0 [] [] 0 f E) hS hm2 hRX ⟨t2, by omega, by omega⟩ (by rw [← y2]; congr 1; omega) (fun f E h => h) (fun m3 hm3 a3 n3 fr => ?_) (fun m3 Cs hm3 r3 a3 rq3 tb3 cn3 n3 fr => ?_)
  · have b9 := hm3.f_336_9
    refine g_ifF (by decide) ?_
    refine g_C ?_
    refine g_getu 9 rfl hS.k336 (fun v4 ev4 => ?_)
    have e9 : v4 = m3 336 9 := ev4.trans (up_ne (by omega))
    refine g_S (by omega) (by omega) ?_
    rw [e9]
    exact hf _ _ ((Jc.of hm3).len12 (by decide) (by decide)) (fun c p hs => (fr c p hs).trans (G2 c p hs)) (fun c p hs => (up_ne (by omega)).trans ((hm3.2.1 c p (Or.inr (by omega))).trans (xe c p (by omega)))) (up_at _ _ _ _) (by omega) a3 n3
  · refine g_ifT (by decide) ?_
    obtain ⟨m9, e9⟩ : ∃ m9 : Mm, m9 = up m3 336 1 0 := ⟨_, rfl⟩
    rw [← e9] at fr
    have f9 : ∀ c p : Int, ¬ (c = 336 ∧ p = 1) → m9 c p = m3 c p := fun c p q => by rw [e9]; exact up_ne q
    have j9 : Jc S m9 := by rw [e9]; exact (Jc.of hm3).len12 (by decide) (by decide)
    have z9 : m9 336 1 = 0 := by rw [e9]; exact up_at _ _ _ _
    rw [← e9]
    refine g_getu 2 rfl hS.k336 (fun v4 ev4 => ?_)
    have g4 := hm3.g (c := 336) (p := 2) (by decide)
    rw [f9 336 2 (by first | decide | exact fun z => absurd z.1 (by decide) | exact ⟨fun z => absurd z.1 (by decide), fun z => absurd z.1 (by decide)⟩ | omega)] at ev4
    refine g_C ?_
    refine g_A (by omega) (by omega) ?_
    refine g_putR 2 rfl hS.k336 (fun m4 e4 => ?_)
    have f4 : ∀ c p : Int, ¬ (c = 336 ∧ p = 2) → m4 c p = m9 c p := fun c p q => (congrFun (congrFun e4 _) _).trans (up_ne q)
    have y4 : m4 336 2 = v4 + 1 := (congrFun (congrFun e4 _) _).trans (up_at _ _ _ _)
    have j4 : Jc S m4 := by
      obtain ⟨k1, k2, k3, k4, k5⟩ := j9
      obtain ⟨rg, rl, rc, rd, re⟩ := id r3
      have bl := hm3.a_339 (i := X 336 2) (by omega) (by omega)
      refine ⟨fun c p hc hp => ?_, fun i i0 i1 => ?_, ?_, ?_, ?_⟩
      · by_cases e : (c : Int) = 336 ∧ (p : Int) = 2
        · have e1 : c = 336 := by omega
          have e2 : p = 2 := by omega
          subst e1 e2
          rw [show ((336 : Nat) : Int) = 336 from rfl, show ((2 : Nat) : Int) = 2 from rfl, y4]
          exact okb_of (l := 0) (u := 6) (by decide +kernel) (by omega) (by omega)
        · rw [f4 c p e]
          exact k1 c p hc hp
      · rw [f4 30 i (by first | decide | exact fun z => absurd z.1 (by decide) | exact ⟨fun z => absurd z.1 (by decide), fun z => absurd z.1 (by decide)⟩ | omega)]; exact k2 i i0 i1
      · rw [f4 55 1 (by first | decide | exact fun z => absurd z.1 (by decide) | exact ⟨fun z => absurd z.1 (by decide), fun z => absurd z.1 (by decide)⟩ | omega)]; exact k3
      · obtain ⟨ga, gb, gc, gd⟩ := k4
        have n9 : m9 336 2 = m3 336 2 := f9 336 2 (by first | decide | exact fun z => absurd z.1 (by decide) | exact ⟨fun z => absurd z.1 (by decide), fun z => absurd z.1 (by decide)⟩ | omega)
        unfold Good
        rw [f4 336 21 (by first | decide | exact fun z => absurd z.1 (by decide) | exact ⟨fun z => absurd z.1 (by decide), fun z => absurd z.1 (by decide)⟩ | omega), y4]
        refine ⟨by omega, fun k k0 k1 => by rw [f4 355 k (by first | decide | exact fun z => absurd z.1 (by decide) | exact ⟨fun z => absurd z.1 (by decide), fun z => absurd z.1 (by decide)⟩ | omega), f4 357 k (by first | decide | exact fun z => absurd z.1 (by decide) | exact ⟨fun z => absurd z.1 (by decide), fun z => absurd z.1 (by decide)⟩ | omega)]; have := gb k k0 k1; omega, by omega, fun t t0 t1 => ?_⟩
        by_cases et : t = X 336 2
        · unfold rulOK
          rw [et, f4 341 _ (by first | decide | exact fun z => absurd z.1 (by decide) | exact ⟨fun z => absurd z.1 (by decide), fun z => absurd z.1 (by decide)⟩ | omega), f9 341 _ (by first | decide | exact fun z => absurd z.1 (by decide) | exact ⟨fun z => absurd z.1 (by decide), fun z => absurd z.1 (by decide)⟩ | omega)]
          refine ⟨by omega, fun c c0 c1 => ?_⟩
          rw [f4 340 _ (by first | decide | exact fun z => absurd z.1 (by decide) | exact ⟨fun z => absurd z.1 (by decide), fun z => absurd z.1 (by decide)⟩ | omega), f4 340 _ (by first | decide | exact fun z => absurd z.1 (by decide) | exact ⟨fun z => absurd z.1 (by decide), fun z => absurd z.1 (by decide)⟩ | omega), f4 340 _ (by first | decide | exact fun z => absurd z.1 (by decide) | exact ⟨fun z => absurd z.1 (by decide), fun z => absurd z.1 (by decide)⟩ | omega), f4 340 _ (by first | decide | exact fun z => absurd z.1 (by decide) | exact ⟨fun z => absurd z.1 (by decide), fun z => absurd z.1 (by decide)⟩ | omega), f9 340 _ (by first | decide | exact fun z => absurd z.1 (by decide) | exact ⟨fun z => absurd z.1 (by decide), fun z => absurd z.1 (by decide)⟩ | omega), f9 340 _ (by first | decide | exact fun z => absurd z.1 (by decide) | exact ⟨fun z => absurd z.1 (by decide), fun z => absurd z.1 (by decide)⟩ | omega), f9 340 _ (by first | decide | exact fun z => absurd z.1 (by decide) | exact ⟨fun z => absurd z.1 (by decide), fun z => absurd z.1 (by decide)⟩ | omega), f9 340 _ (by first | decide | exact fun z => absurd z.1 (by decide) | exact ⟨fun z => absurd z.1 (by decide), fun z => absurd z.1 (by decide)⟩ | omega)]
          obtain ⟨q1, q2⟩ := (re c c0 c1).ok (by omega)
          have hs : ∀ p : Int, 400 * X 336 2 ≤ p → p < 400 * X 336 2 + 400 → m4 338 p = m3 338 p := fun p _ _ => (f4 338 p (by first | decide | exact fun z => absurd z.1 (by decide) | exact ⟨fun z => absurd z.1 (by decide), fun z => absurd z.1 (by decide)⟩ | omega)).trans (f9 338 p (by first | decide | exact fun z => absurd z.1 (by decide) | exact ⟨fun z => absurd z.1 (by decide), fun z => absurd z.1 (by decide)⟩ | omega))
          refine ⟨pfr_same q1 hs, ?_⟩
          rcases q2 with q2 | q2
          · exact Or.inl q2
          · exact Or.inr (pfr_same q2 hs)
        · exact rulOK_same (gd t t0 (by omega)) (f4 341 _ (by first | decide | exact fun z => absurd z.1 (by decide) | exact ⟨fun z => absurd z.1 (by decide), fun z => absurd z.1 (by decide)⟩ | omega)) (fun p _ _ => f4 340 p (by first | decide | exact fun z => absurd z.1 (by decide) | exact ⟨fun z => absurd z.1 (by decide), fun z => absurd z.1 (by decide)⟩ | omega)) (fun p _ _ => f4 338 p (by first | decide | exact fun z => absurd z.1 (by decide) | exact ⟨fun z => absurd z.1 (by decide), fun z => absurd z.1 (by decide)⟩ | omega))
      · unfold PL3 at k5 ⊢
        have e6 : m4 346 = m9 346 := funext (fun p => f4 346 p (by first | decide | exact fun z => absurd z.1 (by decide) | exact ⟨fun z => absurd z.1 (by decide), fun z => absurd z.1 (by decide)⟩ | omega))
        have e7 : m4 347 = m9 347 := funext (fun p => f4 347 p (by first | decide | exact fun z => absurd z.1 (by decide) | exact ⟨fun z => absurd z.1 (by decide), fun z => absurd z.1 (by decide)⟩ | omega))
        have e8 : m4 354 = m9 354 := funext (fun p => f4 354 p (by first | decide | exact fun z => absurd z.1 (by decide) | exact ⟨fun z => absurd z.1 (by decide), fun z => absurd z.1 (by decide)⟩ | omega))
        rw [e6, e7, e8, f4 336 25 (by first | decide | exact fun z => absurd z.1 (by decide) | exact ⟨fun z => absurd z.1 (by decide), fun z => absurd z.1 (by decide)⟩ | omega)]
        exact k5
    refine g_getu 2 rfl hS.k336 (fun v5 ev5 => ?_)
    refine g_C ?_
    refine g_S (by omega) (by omega) ?_
    rw [show v5 - 1 = m0 336 2 by omega]
    have G : ∀ c p : Int, ¬ (c = 336 ∧ (p = 1 ∨ p = 2)) → m4 c p = m3 c p := fun c p q => (f4 c p (by first | exact fun y => absurd (y.1 ▸ z) (by decide) | exact fun y => absurd (y.1 ▸ q) (by decide) | exact z | exact q | exact z.1 | exact q.1 | exact z.2 | exact q.2 | omega)).trans (f9 c p (by first | exact fun y => absurd (y.1 ▸ z) (by decide) | exact fun y => absurd (y.1 ▸ q) (by decide) | exact z | exact q | exact z.1 | exact q.1 | exact z.2 | exact q.2 | omega))
    obtain ⟨⟨rg, _⟩, rl0, rc, rd, re⟩ := id r3
    have bl := hm3.a_339 (i := X 336 2) (by omega) (by omega)
    have lenR := rq3.len (by rw [rg]; exact bl.1)
    rw [rg] at lenR
    have hR4 : RwR m4 (m0 336 2) Cs := by
      rw [← x2]
      refine ⟨?_, Tbl.same _ _ _ (fun p _ => G 340 p (by omega)) tb3, by rw [G 341 _ (by omega)]; exact cn3, by omega, ?_⟩
      · have z := Hs_rl (f := fun i => m3 338 (400 * m3 336 11 + i)) (m3 339 (m3 336 11)).toNat
        have rq := rq3
        unfold RQ at rq
        rw [rq, rg] at z
        exact Hs.same _ _ (fun j _ _ => G 338 _ (by omega)) z
      · omega
    have tyC : Tys Cs := by
      have : ∀ (l : List Cz) (i a : Int), Tbl m3 (X 336 2) i a l → Tys l := by
        intro l
        induction l with
        | nil => intro i a _ c hc; cases hc
        | cons d l ih =>
          intro i a h c hc
          rcases List.mem_cons.mp hc with e | e
          · rw [e]
            refine ⟨h.1.1, fun z => ?_⟩
            rcases h.1.2.2.2 with y | y
            · exact y.2.1
            · rw [z] at y; cases y.1
          · exact ih _ _ h.2 c e
      exact this Cs _ _ tb3
    exact hk m4 Cs j4 (fun c p hs hn => by rw [f4 c p hn, fr c p hs, G2 c p hs]) (fun c p hs => by rw [G c p (by omega), hm3.2.1 c p (Or.inr (by omega)), xe c p (by omega)]) (by rw [f4 336 1 (by first | decide | exact fun z => absurd z.1 (by decide) | exact ⟨fun z => absurd z.1 (by decide), fun z => absurd z.1 (by decide)⟩ | omega)]; exact z9) (by omega) (by omega) a3 hR4 tyC
theorem ty_n1 : ∀ (V : List Int) (D D' : List Bool), V.foldl ty1 (some D) = some D' → ∀ x : Int, x ∈ V → ¬ x = -1 := by
  intro V
  induction V with
  | nil => intro D D' _ x hx; cases hx
  | cons y V ih =>
    intro D D' h x hx
    obtain ⟨E, h1, h2⟩ := ty_split h
    rcases List.mem_cons.mp hx with e | e
    · rw [e]
      have := ty_cases h1
      omega
    · exact ih E D' h2 x e
theorem Tys.n1 {Cs : List Cz} (h : Tys Cs) : N1 Cs := by
  intro c hc
  obtain ⟨⟨t1, t2⟩, t3⟩ := h c hc
  refine ⟨ty_n1 _ _ _ t1, fun x hx => ?_⟩
  cases e : c.2.1 with
  | false =>
    rw [t3 e] at hx
    cases hx
  | true => exact ty_n1 _ _ _ (t2 e) x hx
theorem nvs_row : ∀ Cs : List Cz, nvs (rowC Cs) = nvs (codC Cs) := by
  intro Cs
  induction Cs with
  | nil => rfl
  | cons c l ih =>
    show nvs (row1 c ++ rowC l) = nvs (cod1 c ++ codC l)
    rw [nvs_app, nvs_app, ih]
    have : nvs (cod1 c) = nvs (row1 c) := by
      unfold cod1 row1
      rw [nvs_app, nvs_app, nvs_app]
      have e : nvs [if c.2.1 then (-26 : Int) else -25] = 0 := by cases c.2.1 <;> rfl
      rw [e]
      omega
    rw [this]
theorem RwR.low {m m' : Mm} {r : Int} {Cs : List Cz} (a2 : RwR m r Cs) (r0 : 0 ≤ r) (F : ∀ c p : Int, (c = 338 ∧ p < 400 * (r + 1)) ∨ (c = 340 ∧ p < 48 * (r + 1)) ∨ (c = 341 ∧ p < r + 1) → m' c p = m c p) : RwR m' r Cs := by
  obtain ⟨r1, r2, r3, r4, r5⟩ := a2
  refine ⟨?_, ?_, by rw [F 341 _ (by first | decide | exact fun z => absurd z.1 (by decide) | exact ⟨fun z => absurd z.1 (by decide), fun z => absurd z.1 (by decide)⟩ | omega)]; exact r3, r4, r5⟩
  · refine Hs.same _ _ (fun j j0 j1 => F 338 _ (Or.inl ⟨rfl, ?_⟩)) r1
    rw [List.length_map] at j1
    omega
  · exact Tbl.same Cs 0 0 (fun p q => F 340 p (by first | decide | exact fun z => absurd z.1 (by decide) | exact ⟨fun z => absurd z.1 (by decide), fun z => absurd z.1 (by decide)⟩ | omega)) r2
theorem zr_RW1 {c p : Int} (q : (4 ≤ c ∧ c ≤ 27) ∨ (c = 3 ∧ p = 4) ∨ (76 ≤ c ∧ c ≤ 335) ∨ c = 346 ∨ c = 347 ∨ c = 354 ∨ c = 357 ∨ (c = 0 ∧ (p = 4 ∨ p = 5)) ∨ (c = 336 ∧ p = 25)) : ¬ fr1_W c p ∧ ¬ fr2_W c p ∧ ¬ (c = 1 ∧ p = 1) := by
  rcases q with q | q | q | q | q | q | q | q | q <;> refine ⟨?_, ?_, ?_⟩ <;> first | omega | (unfold fr1_W; omega) | (unfold fr2_W; omega) | (unfold KZ; omega)
theorem zr_XZ1 {c p : Int} (q : (4 ≤ c ∧ c ≤ 27) ∨ (c = 3 ∧ p = 4) ∨ (76 ≤ c ∧ c ≤ 335) ∨ c = 346 ∨ c = 347 ∨ c = 354 ∨ c = 357 ∨ (c = 55 ∧ p = 2) ∨ (c = 336 ∧ p = 23)) : ¬ fr1_W c p ∧ ¬ fr2_W c p ∧ ¬ (c = 1 ∧ p = 1) := by
  rcases q with q | q | q | q | q | q | q | q | q <;> refine ⟨?_, ?_, ?_⟩ <;> first | omega | (unfold fr1_W; omega) | (unfold fr2_W; omega) | (unfold KZ; omega)
theorem zr_RW2 {c p : Int} (q : (4 ≤ c ∧ c ≤ 27) ∨ (c = 3 ∧ p = 4) ∨ (76 ≤ c ∧ c ≤ 335) ∨ c = 346 ∨ c = 347 ∨ c = 354 ∨ c = 357 ∨ (c = 0 ∧ (p = 4 ∨ p = 5)) ∨ (c = 336 ∧ p = 25)) : KZ c p ∧ c < 358 ∧ ¬ c = 30 ∧ ¬ c = 338 ∧ ¬ c = 340 ∧ ¬ c = 341 ∧ ¬ (c = 336 ∧ p = 2) := by
  rcases q with q | q | q | q | q | q | q | q | q <;> refine ⟨?_, ?_, ?_, ?_, ?_, ?_, ?_⟩ <;> first | omega | (unfold fr1_W; omega) | (unfold fr2_W; omega) | (unfold KZ; omega)
theorem zr_XZ2 {c p : Int} (q : (4 ≤ c ∧ c ≤ 27) ∨ (c = 3 ∧ p = 4) ∨ (76 ≤ c ∧ c ≤ 335) ∨ c = 346 ∨ c = 347 ∨ c = 354 ∨ c = 357 ∨ (c = 55 ∧ p = 2) ∨ (c = 336 ∧ p = 23)) : KZ c p ∧ c < 358 ∧ ¬ c = 30 ∧ ¬ c = 338 ∧ ¬ c = 340 ∧ ¬ c = 341 ∧ ¬ (c = 336 ∧ p = 2) := by
  rcases q with q | q | q | q | q | q | q | q | q <;> refine ⟨?_, ?_, ?_, ?_, ?_, ?_, ?_⟩ <;> first | omega | (unfold fr1_W; omega) | (unfold fr2_W; omega) | (unfold KZ; omega)
theorem zr_nb {c p : Int} (q : KZ c p) (q0 : c < 358) (q1 : ¬ c = 30) (q2 : ¬ c = 338) (q3 : ¬ c = 340) (q4 : ¬ c = 341) (q5 : ¬ (c = 336 ∧ p = 2)) : ¬ fr1_W c p ∧ ¬ fr2_W c p ∧ ¬ (c = 1 ∧ p = 1) ∧ ¬ (c = 0 ∧ p = 7) := by
  rcases q with q | q | q | q | q | q | q | q | q | q | q | q | q | q | q <;> refine ⟨?_, ?_, ?_, ?_⟩ <;> first | omega | (unfold fr1_W; omega) | (unfold fr2_W; omega)
theorem zz_rule {S : Sh} {m0 : Mm} {K : Int → Int → Sh → Mm → Prop} {K1 : Int → Sh → Mm → Prop} {n : Int} (hS : Shp S) (hz : RZ S m0 n) (hK : ∀ (r : Int) (S1 : Sh) (M : Mm), Shp S1 → wp_X12_rule S1 M 336 (fun r2 M2 => K r r2 S1 M2) → K1 r S1 M) (hk : ∀ (r : Int) (S1 : Sh) (M1 : Mm), Shp S1 → RZ S1 M1 n → K r r S1 M1) : wp_X11_rule S m0 0 K1 := by
  have hj := hz.1
  have hm0 := hj.inv
  obtain ⟨jc, xr, ⟨⟨a1, a2, a3⟩, a4, a5⟩⟩ := id hj
  have b1 := hm0.f_1_1
  have b7 := hm0.f_0_7
  have hC : TC m0 (fun p => m0 2 p) (m0 1 1) := ⟨rfl, b1, fun p p0 p1 => ⟨rfl, hm0.a_2 p0 (by omega)⟩⟩
  have hR : ∀ M : Mm, M 336 1 = m0 336 1 → (∀ p : Int, M 337 p = m0 337 p) → TR M (fun p => m0 2 p) (m0 1 1) := fun M e f => ⟨e.trans a1.symm, b1, fun p p0 p1 => ⟨(f p).trans (a2 p p0 (by omega)).symm, hm0.a_2 p0 (by omega)⟩⟩
  refine zw_rule11 hS jc hC (fun z => ?_) (fun f m1 j1 f1 e1 n1 c1 nf => ?_) (fun S1 m1 E v hS1 j1 f1 e1 g1 n1 c1 y30 rv lv hE old => ?_)
  · refine hK _ _ _ hS ?_
    exact zw_rule12 hS jc (hR m0 rfl (fun _ => rfl)) (fun _ => hk _ S m0 hS hz) (fun f M1 _ _ _ _ n _ _ => absurd (a3.symm.trans z) n) (fun M1 Cs _ _ _ _ _ n _ _ _ => absurd (a3.symm.trans z) n)
  · have G1 : ∀ c p : Int, 336 ≤ c → m1 c p = m0 c p := fun c p z => f1 c p (by first | decide | (unfold fr1_W; omega)) (by omega)
    have k2 : m1 336 2 = m0 336 2 := G1 336 2 (by omega)
    refine hK _ _ _ hS ?_
    refine zw_rule12 hS j1 (hR m1 (G1 336 1 (by omega)) (fun p => G1 337 p (by omega))) (fun z => absurd (a3.trans (k2.symm.trans z)) n1) (fun f' m2 j2 f2 l2 e2 _ c2 _ => ?_) (fun m2 Cs _ _ _ _ _ _ c2 _ _ => absurd (c1.det c2).1 nf)
    rw [← (c1.det c2).1]
    rw [k2] at l2
    have F : ∀ c p : Int, ¬ fr1_W c p → ¬ fr2_W c p → ¬ (c = 1 ∧ p = 1) → m2 c p = m0 c p := fun c p q1 q2 q3 => by rw [f2 c p q2, f1 c p q1 q3]
    have jx : JX S m2 := by
      refine hj.tape j2 (fun c p hs q1 q2 q3 => F c p ?_ ?_ q1) ?_ ?_
      · unfold fr1_W; omega
      · unfold fr2_W; omega
      · rw [f2 1 1 (by first | decide | (unfold fr2_W; omega)), e1, e2]
      · rw [F 0 7 (by first | decide | (unfold fr1_W; omega)) (by first | decide | (unfold fr2_W; omega)) (by omega), F 336 2 (by first | decide | (unfold fr1_W; omega)) (by first | decide | (unfold fr2_W; omega)) (by omega)]
        exact a3
    refine hk _ S m2 hS ⟨jx, hz.2.1.same (fun c p q => F c p (zr_RW1 q).1 (zr_RW1 q).2.1 (zr_RW1 q).2.2), ⟨fun k k0 k1 => ?_, ?_⟩, hz.2.2.2.same (fun c p q => F c p (zr_XZ1 q).1 (zr_XZ1 q).2.1 (zr_XZ1 q).2.2)⟩
    · rw [F 336 2 (by first | decide | (unfold fr1_W; omega)) (by first | decide | (unfold fr2_W; omega)) (by omega)] at k1
      obtain ⟨Cs, r1, r2, r3⟩ := hz.2.2.1.1 k k0 k1
      refine ⟨Cs, ?_, r2.low k0 (fun c p q => by rw [l2 c p (by omega), G1 c p (by omega)]), r3⟩
      rw [F 30 k (by first | decide | (unfold fr1_W; omega)) (by first | decide | (unfold fr2_W; omega)) (by omega)]
      exact r1.same (fun c p q => F c p (by first | decide | (unfold fr1_W; omega)) (by first | decide | (unfold fr2_W; omega)) (by omega))
    · rw [F 55 1 (by first | decide | (unfold fr1_W; omega)) (by first | decide | (unfold fr2_W; omega)) (by omega), F 3 2 (by first | decide | (unfold fr1_W; omega)) (by first | decide | (unfold fr2_W; omega)) (by omega), hz.2.2.1.2]
      by_cases z : m0 3 2 < 0
      · rw [if_pos z, if_pos z]
      · rw [if_neg z, if_neg z, F 30 _ (by first | decide | (unfold fr1_W; omega)) (by first | decide | (unfold fr2_W; omega)) (by omega)]
  · have v358 : 358 ≤ v := by
      have z := (old (-2) (Or.inl rfl)).1
      rcases rv with q | q
      · omega
      · exact q.2.2
    have G1 : ∀ c p : Int, 336 ≤ c → ¬ c = v → m1 c p = m0 c p := fun c p z z2 => f1 c p (by first | decide | (unfold fr1_W; omega)) (by omega) (by omega) (by omega) z2
    have k2 : m1 336 2 = m0 336 2 := G1 336 2 (by omega) (by omega)
    refine hK _ _ _ hS1 ?_
    refine zw_rule12 hS1 j1 (hR m1 (G1 336 1 (by omega) (by omega)) (fun p => G1 337 p (by omega) (by omega))) (fun z => absurd (a3.trans (k2.symm.trans z)) n1) (fun f' m2 _ _ _ _ _ c2 nf => absurd (c2.det c1).1 nf) (fun m2 Cs j2 f2 l2 e2 g2 _ c2 rw2 ty2 => ?_)
    rw [k2] at l2 g2 rw2 ⊢
    rw [← a3]
    have eE : E = codC Cs := (c1.det c2).2
    have F : ∀ c p : Int, ¬ fr1_W c p → ¬ fr2_W c p → ¬ (c = 1 ∧ p = 1) → ¬ (c = 0 ∧ p = 7) → ¬ (c = 30 ∧ p = m0 0 7) → ¬ c = v → ¬ (c = 336 ∧ p = 2) → m2 c p = m0 c p := fun c p q1 q2 q3 q4 q5 q6 q7 => by rw [f2 c p q2 q7, f1 c p q1 q3 q4 q5 q6]
    have F' : ∀ c p : Int, c < 358 → ¬ fr1_W c p → ¬ fr2_W c p → ¬ (c = 1 ∧ p = 1) → ¬ (c = 0 ∧ p = 7) → ¬ (c = 30 ∧ p = m0 0 7) → ¬ (c = 336 ∧ p = 2) → m2 c p = m0 c p := fun c p q0 q1 q2 q3 q4 q5 q7 => F c p q1 q2 q3 q4 q5 (by omega) q7
    have jx : JX S1 m2 := by
      refine hj.tape j2 (fun c p hs q1 q2 q3 => F' c p (by omega) ?_ ?_ q1 q3 (by omega) (by omega)) ?_ ?_
      · unfold fr1_W; omega
      · unfold fr2_W; omega
      · rw [f2 1 1 (by first | decide | (unfold fr2_W; omega)) (by omega), e1, e2]
      · rw [f2 0 7 (by first | decide | (unfold fr2_W; omega)) (by omega), g1, g2]
        omega
    obtain ⟨ok1, ok2⟩ := c2.ok
    have lp : 0 < (codC Cs).length := by
      rcases h : codC Cs with _ | ⟨a, l⟩
      · exact absurd h ok2
      · exact Nat.succ_pos _
    have nb : ∀ c p : Int, KZ c p → c < 358 → ¬ c = 30 → ¬ c = 338 → ¬ c = 340 → ¬ c = 341 → ¬ (c = 336 ∧ p = 2) → m2 c p = m0 c p := fun c p q q0 q1 q2 q3 q4 q5 => by
      have z := zr_nb q q0 q1 q2 q3 q4 q5
      exact F' c p q0 z.1 z.2.1 z.2.2.1 z.2.2.2 (fun y => q1 y.1) q5
    refine hk _ S1 m2 hS1 ⟨jx, hz.2.1.same (fun c p q => nb c p (zr_RW2 q).1 (zr_RW2 q).2.1 (zr_RW2 q).2.2.1 (zr_RW2 q).2.2.2.1 (zr_RW2 q).2.2.2.2.1 (zr_RW2 q).2.2.2.2.2.1 (zr_RW2 q).2.2.2.2.2.2), ⟨fun k k0 k1 => ?_, ?_⟩, hz.2.2.2.same (fun c p q => nb c p (zr_XZ2 q).1 (zr_XZ2 q).2.1 (zr_XZ2 q).2.2.1 (zr_XZ2 q).2.2.2.1 (zr_XZ2 q).2.2.2.2.1 (zr_XZ2 q).2.2.2.2.2.1 (zr_XZ2 q).2.2.2.2.2.2)⟩
    · rw [g2] at k1
      by_cases e : k = m0 336 2
      · subst e
        refine ⟨Cs, ?_, rw2, by rw [nvs_row]; exact ok1, ty2.n1⟩
        have e30 : m2 30 (m0 336 2) = v := by rw [f2 30 _ (by first | decide | (unfold fr2_W; omega)) (by omega), ← a3, y30]
        rw [e30]
        refine ⟨by omega, by omega, rv, ?_, by rw [← eE]; exact lv, lp, ty2, ok1⟩
        rw [← eE, show m2 v = m1 v from funext (fun p => f2 v p (by first | decide | (unfold fr2_W; omega)) (by omega))]
        exact hE
      · obtain ⟨Cs', r1, r2, r3⟩ := hz.2.2.1.1 k k0 (by omega)
        refine ⟨Cs', ?_, r2.low k0 (fun c p q => by rw [l2 c p (by omega), G1 c p (by omega) (by omega)]), r3⟩
        have e30 : m2 30 k = m0 30 k := F' 30 k (by first | decide | exact fun z => absurd z.1 (by decide) | exact ⟨fun z => absurd z.1 (by decide), fun z => absurd z.1 (by decide)⟩ | omega) (by first | decide | (unfold fr1_W; omega)) (by first | decide | (unfold fr2_W; omega)) (by omega) (by omega) (by omega) (by omega)
        rw [e30]
        obtain ⟨s1, s2, s3, s4, s5, s6, s7⟩ := r1
        obtain ⟨o1, o2, o3⟩ := old _ s3
        have o4 : 358 ≤ m0 30 k := by
          rcases s3 with q | q
          · exact absurd q s1
          · exact q.2.2
        refine ⟨s1, s2, o2, ?_, by rw [o3]; exact s5, s6, s7⟩
        rw [show m2 (m0 30 k) = m0 (m0 30 k) from funext (fun p => F _ p (by first | decide | (unfold fr1_W; omega)) (by first | decide | (unfold fr2_W; omega)) (by omega) (by omega) (by omega) o1 (by omega))]
        exact s4
    · rw [nb 55 1 (by first | decide | (unfold KZ; omega)) (by omega) (by omega) (by omega) (by omega) (by omega) (by omega), nb 3 2 (by first | decide | (unfold KZ; omega)) (by omega) (by omega) (by omega) (by omega) (by omega) (by omega), hz.2.2.1.2]
      have g : m0 336 21 < m0 336 2 := jc.2.2.2.1.1
      by_cases z : m0 3 2 < 0
      · rw [if_pos z, if_pos z]
      · rw [if_neg z, if_neg z, F' 30 _ (by first | decide | exact fun z => absurd z.1 (by decide) | exact ⟨fun z => absurd z.1 (by decide), fun z => absurd z.1 (by decide)⟩ | omega) (by first | decide | (unfold fr1_W; omega)) (by first | decide | (unfold fr2_W; omega)) (by omega) (by omega) (by omega) (by omega)]
end
