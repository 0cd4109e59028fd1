/-! undo, image, back -/
theorem zz_undo {S : Sh} {m0 : Mm} {K : Int → Int → Mm → Prop} {K1 : Int → Mm → Prop} {n : Int} (hS : Shp S) (hz : RZ S m0 n) (hK : ∀ (r : Int) (M : Mm), wp_X12_undo S M 336 (fun r2 M2 => K r r2 M2) → K1 r M) (hk : ∀ (r : Int) (M1 : Mm), RZ S M1 n → K r r M1) : wp_X11_undo S m0 0 K1 := by
  have hm := hz.inv
  have eu : m0 0 5 = m0 336 25 := hz.2.1.2.2.1
  refine zx_undo11 hS hm (fun z => hK _ _ (zx_undo12 hS hz.1 (fun _ => hk _ m0 hz) (fun r M1 _ nz _ _ _ _ _ _ => absurd (eu.symm.trans z) nz))) (fun i m1 hm1 nz ei i0 i1 f1 n1 v1 w0 w1 w2 w3 w4 => ?_)
  have j1 := hz.1.of hm1
  have e25 : m1 336 25 = m0 336 25 := f1 336 25 (by first | decide | exact fun z => absurd z.1 (by decide) | exact ⟨fun z => absurd z.1 (by decide), fun z => absurd z.1 (by decide)⟩ | omega) (by first | decide | exact fun z => absurd z.1 (by decide) | exact ⟨fun z => absurd z.1 (by decide), fun z => absurd z.1 (by decide)⟩ | omega)
  refine hK _ _ (zx_undo12 hS j1 (fun z => absurd (eu.trans (e25.symm.trans z)) nz) (fun r m2 j2 nz2 er r0 r1 x25 f2 g2 => ?_))
  rw [e25] at er
  have e : m0 0 5 - 1 = r := by omega
  rw [e]
  obtain ⟨_, ⟨⟨⟨⟨b4, b5, b6, b9, b157⟩, b3⟩, tl, sr, tt⟩, im, _, pa⟩, cr, xz⟩ := id hz
  have db : DB (m0 346) := ⟨b4, b5, b6, b9, b157⟩
  have F : ∀ c p : Int, ¬ (16 ≤ c ∧ c ≤ 23) → ¬ (c = 0 ∧ (p = 4 ∨ p = 5)) → ¬ (c = 346 ∧ 0 ≤ p ∧ p < 57) → ¬ (c = 336 ∧ p = 25) → m2 c p = m0 c p := fun c p q1 q2 q3 q4 => by rw [f2 c p q3 q4, f1 c p q1 q2]
  obtain ⟨⟨sr', _⟩, tl'⟩ := pa r r0 (by omega)
  have ex : (m0 0 4 + 20 - m0 336 25 + r) % 20 = i := by omega
  rw [ex] at sr'
  have D0 : ∀ p : Int, 0 ≤ p → p < 57 → m2 346 p = uD m0 r p := fun p p0 p1 => by
    rw [g2 p p0 p1, f1 347 _ (by first | decide | exact fun z => absurd z.1 (by decide) | exact ⟨fun z => absurd z.1 (by decide), fun z => absurd z.1 (by decide)⟩ | omega) (by first | decide | exact fun z => absurd z.1 (by decide) | exact ⟨fun z => absurd z.1 (by decide), fun z => absurd z.1 (by decide)⟩ | omega)]
    rfl
  have G : ∀ p : Int, (tp p ∨ ¬ (0 ≤ p ∧ p < 57)) → m2 346 p = m0 346 p := fun p q => by
    by_cases z : 0 ≤ p ∧ p < 57
    · rw [D0 p z.1 z.2]
      exact tl' p z.2 (q.resolve_right (fun y => y z))
    · exact F 346 p (by first | decide | exact fun z => absurd z.1 (by decide) | exact ⟨fun z => absurd z.1 (by decide), fun z => absurd z.1 (by decide)⟩ | omega) (by first | decide | exact fun z => absurd z.1 (by decide) | exact ⟨fun z => absurd z.1 (by decide), fun z => absurd z.1 (by decide)⟩ | omega) (by first | decide | exact fun z => absurd z.1 (by decide) | exact ⟨fun z => absurd z.1 (by decide), fun z => absurd z.1 (by decide)⟩ | omega) (by first | decide | exact fun z => absurd z.1 (by decide) | exact ⟨fun z => absurd z.1 (by decide), fun z => absurd z.1 (by decide)⟩ | omega)
  have db2 : DB (m2 346) := db.move (fun p q => G p (by omega))
  have E : ∀ c p : Int, 16 ≤ c → c ≤ 23 → m2 c p = m1 c p := fun c p q1 q2 => f2 c p (by first | exact fun y => absurd (y.1 ▸ z) (by decide) | exact fun y => absurd (y.1 ▸ q) (by decide) | exact z | exact q | exact z.1 | exact q.1 | exact z.2 | exact q.2 | omega) (by omega)
  have x4 := tl' 4 (by omega) (by omega)
  have x5 := tl' 5 (by omega) (by omega)
  have x6 := tl' 6 (by omega) (by omega)
  refine hk _ m2 ⟨j2, ⟨⟨⟨db2, by rw [G 3 (by omega)]; exact b3⟩, ?_, ?_, ?_⟩, fun k k0 k1 => ?_, ?_, fun q q0 q1 => ?_⟩, cr.same (fun c p q => F c p (by omega) (by omega) (by omega) (by omega)), ?_⟩
  · exact tl.move db b3 (fun p _ _ => F _ p (by omega) (by omega) (by omega) (by omega)) (fun c p q => F _ p (by omega) (by omega) (by omega) (by omega)) (fun p q => G p (Or.inl q))
  · refine sr'.mv (by omega) (by omega) (by omega) (by omega) (fun p p0 p1 => ?_) (fun c p q => ?_) D0
    · rw [E _ p (by omega) (by omega)]
      rcases (show p = 0 ∨ p = 1 by omega) with z | z <;> subst z
      · exact w0
      · exact w1
    · obtain ⟨p0, q⟩ := q
      rw [E _ p (by omega) (by omega)]
      rcases (show c = 1 ∨ c = 2 ∨ c = 3 ∨ c = 4 ∨ c = 5 ∨ c = 6 ∨ c = 7 by omega) with z | z | z | z | z | z | z <;> subst z
      · rw [show 176 + 8 * i + 1 = 177 + 8 * i by omega]; exact (w2 p p0 (by omega)).1
      · rw [show 176 + 8 * i + 2 = 178 + 8 * i by omega]; exact (w2 p p0 (by omega)).2.1
      · rw [show 176 + 8 * i + 3 = 179 + 8 * i by omega]; exact (w2 p p0 (by omega)).2.2
      · rw [show 176 + 8 * i + 4 = 180 + 8 * i by omega]; exact (w3 p p0 (by omega)).1
      · rw [show 176 + 8 * i + 5 = 181 + 8 * i by omega]; exact (w3 p p0 (by omega)).2.1
      · rw [show 176 + 8 * i + 6 = 182 + 8 * i by omega]; exact (w3 p p0 (by omega)).2.2
      · rw [show 176 + 8 * i + 7 = 183 + 8 * i by omega]; exact w4 p p0 (by omega)
  · exact tt.move db (F 3 4 (by first | decide | exact fun z => absurd z.1 (by decide) | exact ⟨fun z => absurd z.1 (by decide), fun z => absurd z.1 (by decide)⟩ | omega) (by first | decide | exact fun z => absurd z.1 (by decide) | exact ⟨fun z => absurd z.1 (by decide), fun z => absurd z.1 (by decide)⟩ | omega) (by first | decide | exact fun z => absurd z.1 (by decide) | exact ⟨fun z => absurd z.1 (by decide), fun z => absurd z.1 (by decide)⟩ | omega) (by first | decide | exact fun z => absurd z.1 (by decide) | exact ⟨fun z => absurd z.1 (by decide), fun z => absurd z.1 (by decide)⟩ | omega)) (fun c p c0 c1 _ _ => F _ p (by omega) (by omega) (by omega) (by omega)) (fun p p0 p1 => G p (by omega))
  · rw [F 357 k (by first | decide | exact fun z => absurd z.1 (by decide) | exact ⟨fun z => absurd z.1 (by decide), fun z => absurd z.1 (by decide)⟩ | omega) (by first | decide | exact fun z => absurd z.1 (by decide) | exact ⟨fun z => absurd z.1 (by decide), fun z => absurd z.1 (by decide)⟩ | omega) (by first | decide | exact fun z => absurd z.1 (by decide) | exact ⟨fun z => absurd z.1 (by decide), fun z => absurd z.1 (by decide)⟩ | omega) (by first | decide | exact fun z => absurd z.1 (by decide) | exact ⟨fun z => absurd z.1 (by decide), fun z => absurd z.1 (by decide)⟩ | omega), show iD m2 k = iD m0 k from funext (fun p => F 354 _ (by first | decide | exact fun z => absurd z.1 (by decide) | exact ⟨fun z => absurd z.1 (by decide), fun z => absurd z.1 (by decide)⟩ | omega) (by first | decide | exact fun z => absurd z.1 (by decide) | exact ⟨fun z => absurd z.1 (by decide), fun z => absurd z.1 (by decide)⟩ | omega) (by first | decide | exact fun z => absurd z.1 (by decide) | exact ⟨fun z => absurd z.1 (by decide), fun z => absurd z.1 (by decide)⟩ | omega) (by first | decide | exact fun z => absurd z.1 (by decide) | exact ⟨fun z => absurd z.1 (by decide), fun z => absurd z.1 (by decide)⟩ | omega))]
    exact (im k k0 k1).imp (fun z => z) (fun z => z.same (fun c p c0 c1 => F c p (by omega) (by omega) (by omega) (by omega)) (F _ 4 (by omega) (by omega) (by omega) (by omega)) (fun p _ _ => rfl))
  · rw [x25, f2 0 5 (by first | decide | exact fun z => absurd z.1 (by decide) | exact ⟨fun z => absurd z.1 (by decide), fun z => absurd z.1 (by decide)⟩ | omega) (by first | decide | exact fun z => absurd z.1 (by decide) | exact ⟨fun z => absurd z.1 (by decide), fun z => absurd z.1 (by decide)⟩ | omega), v1]; omega
  · rw [x25] at q1 ⊢
    rw [f2 0 4 (by first | decide | exact fun z => absurd z.1 (by decide) | exact ⟨fun z => absurd z.1 (by decide), fun z => absurd z.1 (by decide)⟩ | omega) (by first | decide | exact fun z => absurd z.1 (by decide) | exact ⟨fun z => absurd z.1 (by decide), fun z => absurd z.1 (by decide)⟩ | omega), n1]
    obtain ⟨⟨srq, _⟩, tlq⟩ := pa q q0 (by omega)
    have ey : (i + 20 - r + q) % 20 = (m0 0 4 + 20 - m0 336 25 + q) % 20 := by omega
    obtain ⟨o, ho⟩ : ∃ o : Int, o = (m0 0 4 + 20 - m0 336 25 + q) % 20 := ⟨_, rfl⟩
    rw [ey]
    rw [← ho] at srq ⊢
    have ob : 0 ≤ o ∧ o ≤ 19 := by omega
    have eD : uD m2 q = uD m0 q := funext (fun p => F 347 _ (by first | decide | exact fun z => absurd z.1 (by decide) | exact ⟨fun z => absurd z.1 (by decide), fun z => absurd z.1 (by decide)⟩ | omega) (by first | decide | exact fun z => absurd z.1 (by decide) | exact ⟨fun z => absurd z.1 (by decide), fun z => absurd z.1 (by decide)⟩ | omega) (by first | decide | exact fun z => absurd z.1 (by decide) | exact ⟨fun z => absurd z.1 (by decide), fun z => absurd z.1 (by decide)⟩ | omega) (by first | decide | exact fun z => absurd z.1 (by decide) | exact ⟨fun z => absurd z.1 (by decide), fun z => absurd z.1 (by decide)⟩ | omega))
    have y4 := tlq 4 (by omega) (by omega)
    have y5 := tlq 5 (by omega) (by omega)
    have y6 := tlq 6 (by omega) (by omega)
    refine ⟨⟨?_, db2⟩, fun p p1 tq => ?_⟩
    · rw [eD]
      exact srq.mv (by omega) (by omega) (by omega) (by omega) (fun p _ _ => F _ p (by omega) (by omega) (by omega) (by omega)) (fun c p z => F _ p (by omega) (by omega) (by omega) (by omega)) (fun p _ _ => rfl)
    · rw [eD, G p (Or.inl tq)]; exact tlq p p1 tq
  · obtain ⟨⟨s1, s2, s3, s4⟩, xb, xc, xd, xe, xf⟩ := xz
    have pi := xc i i0 i1
    refine ⟨⟨?_, ?_, ?_, ?_⟩, fun k k0 k1 => (xb k k0 k1).move (F _ _ (by omega) (by omega) (by omega) (by omega)) (F _ _ (by omega) (by omega) (by omega) (by omega)) (F _ _ (by omega) (by omega) (by omega) (by omega)) (fun p _ _ => F _ _ (by omega) (by omega) (by omega) (by omega)) (fun p _ _ => F _ _ (by omega) (by omega) (by omega) (by omega)) (fun p _ _ => F _ _ (by omega) (by omega) (by omega) (by omega)), fun r r0 r1 => ?_, ?_, fun k k0 k1 => ?_, ?_⟩
    · show m2 16 0 ≤ n
      rw [E 16 0 (by omega) (by omega), w0]; exact pi.1
    · rw [F _ 0 (by omega) (by omega) (by omega) (by omega), F 3 4 (by first | decide | exact fun z => absurd z.1 (by decide) | exact ⟨fun z => absurd z.1 (by decide), fun z => absurd z.1 (by decide)⟩ | omega) (by first | decide | exact fun z => absurd z.1 (by decide) | exact ⟨fun z => absurd z.1 (by decide), fun z => absurd z.1 (by decide)⟩ | omega) (by first | decide | exact fun z => absurd z.1 (by decide) | exact ⟨fun z => absurd z.1 (by decide), fun z => absurd z.1 (by decide)⟩ | omega) (by first | decide | exact fun z => absurd z.1 (by decide) | exact ⟨fun z => absurd z.1 (by decide), fun z => absurd z.1 (by decide)⟩ | omega)]; exact s2
    · exact s3.move (F _ _ (by omega) (by omega) (by omega) (by omega)) (fun p _ _ => F _ _ (by omega) (by omega) (by omega) (by omega)) (fun p _ _ => F _ _ (by omega) (by omega) (by omega) (by omega))
    · refine pi.2.move (fun p p0 p1 => ?_)
      show m2 21 p = _
      rw [E 21 p (by omega) (by omega), show 176 + 8 * i + 5 = 181 + 8 * i by omega]
      exact (w3 p p0 p1).2.1
    · rw [F _ 0 (by omega) (by omega) (by omega) (by omega)]
      exact ⟨(xc r r0 r1).1, (xc r r0 r1).2.move (fun p _ _ => F _ _ (by omega) (by omega) (by omega) (by omega))⟩
    · exact xd.move b3 (fun p q => G p (by omega))
    · rw [F 357 k (by first | decide | exact fun z => absurd z.1 (by decide) | exact ⟨fun z => absurd z.1 (by decide), fun z => absurd z.1 (by decide)⟩ | omega) (by first | decide | exact fun z => absurd z.1 (by decide) | exact ⟨fun z => absurd z.1 (by decide), fun z => absurd z.1 (by decide)⟩ | omega) (by first | decide | exact fun z => absurd z.1 (by decide) | exact ⟨fun z => absurd z.1 (by decide), fun z => absurd z.1 (by decide)⟩ | omega) (by first | decide | exact fun z => absurd z.1 (by decide) | exact ⟨fun z => absurd z.1 (by decide), fun z => absurd z.1 (by decide)⟩ | omega), show iD m2 k = iD m0 k from funext (fun p => F 354 _ (by first | decide | exact fun z => absurd z.1 (by decide) | exact ⟨fun z => absurd z.1 (by decide), fun z => absurd z.1 (by decide)⟩ | omega) (by first | decide | exact fun z => absurd z.1 (by decide) | exact ⟨fun z => absurd z.1 (by decide), fun z => absurd z.1 (by decide)⟩ | omega) (by first | decide | exact fun z => absurd z.1 (by decide) | exact ⟨fun z => absurd z.1 (by decide), fun z => absurd z.1 (by decide)⟩ | omega) (by first | decide | exact fun z => absurd z.1 (by decide) | exact ⟨fun z => absurd z.1 (by decide), fun z => absurd z.1 (by decide)⟩ | omega))]; exact xe k k0 k1
    · rw [F 55 2 (by first | decide | exact fun z => absurd z.1 (by decide) | exact ⟨fun z => absurd z.1 (by decide), fun z => absurd z.1 (by decide)⟩ | omega) (by first | decide | exact fun z => absurd z.1 (by decide) | exact ⟨fun z => absurd z.1 (by decide), fun z => absurd z.1 (by decide)⟩ | omega) (by first | decide | exact fun z => absurd z.1 (by decide) | exact ⟨fun z => absurd z.1 (by decide), fun z => absurd z.1 (by decide)⟩ | omega) (by first | decide | exact fun z => absurd z.1 (by decide) | exact ⟨fun z => absurd z.1 (by decide), fun z => absurd z.1 (by decide)⟩ | omega), F 336 23 (by first | decide | exact fun z => absurd z.1 (by decide) | exact ⟨fun z => absurd z.1 (by decide), fun z => absurd z.1 (by decide)⟩ | omega) (by first | decide | exact fun z => absurd z.1 (by decide) | exact ⟨fun z => absurd z.1 (by decide), fun z => absurd z.1 (by decide)⟩ | omega) (by first | decide | exact fun z => absurd z.1 (by decide) | exact ⟨fun z => absurd z.1 (by decide), fun z => absurd z.1 (by decide)⟩ | omega) (by first | decide | exact fun z => absurd z.1 (by decide) | exact ⟨fun z => absurd z.1 (by decide), fun z => absurd z.1 (by decide)⟩ | omega)]; exact xf
theorem zz_image {S : Sh} {m0 : Mm} {K : Int → Int → Mm → Prop} {K1 : Int → Mm → Prop} {n u : Int} (hS : Shp S) (hz : RZ S m0 n) (hK : ∀ (r : Int) (M : Mm), wp_X12_image S M 336 u (fun r2 M2 => K r r2 M2) → K1 r M) (hk : ∀ (r : Int) (M1 : Mm), RZ S M1 n → K r r M1) : wp_X11_image S m0 0 u K1 := by
  have hj := hz.1
  refine zx_image11 hS hj.1 (fun w => hK _ _ (zx_image12 hS hj.1 (fun _ => hk _ m0 hz) (fun r M1 a b _ _ _ _ _ _ _ => absurd ⟨a, b⟩ w))) (fun r m1 a b j1 er ff t0 t1 s0 s1 x0 x1 f1 z1 y1 v1 => ?_)
  have e46 : m1 346 = m0 346 := funext (fun p => ff 346 p (by first | decide | exact fun z => absurd z.1 (by decide) | exact ⟨fun z => absurd z.1 (by decide), fun z => absurd z.1 (by decide)⟩ | omega) (by first | decide | exact fun z => absurd z.1 (by decide) | exact ⟨fun z => absurd z.1 (by decide), fun z => absurd z.1 (by decide)⟩ | omega))
  have e22 : m1 336 22 = m0 336 22 := ff 336 22 (by first | decide | exact fun z => absurd z.1 (by decide) | exact ⟨fun z => absurd z.1 (by decide), fun z => absurd z.1 (by decide)⟩ | omega) (by first | decide | exact fun z => absurd z.1 (by decide) | exact ⟨fun z => absurd z.1 (by decide), fun z => absurd z.1 (by decide)⟩ | omega)
  have e21 : m1 336 21 = m0 336 21 := ff 336 21 (by first | decide | exact fun z => absurd z.1 (by decide) | exact ⟨fun z => absurd z.1 (by decide), fun z => absurd z.1 (by decide)⟩ | omega) (by first | decide | exact fun z => absurd z.1 (by decide) | exact ⟨fun z => absurd z.1 (by decide), fun z => absurd z.1 (by decide)⟩ | omega)
  refine hK _ _ (zx_image12 hS j1 (fun w => absurd ⟨a, b⟩ w) (fun r2 m2 _ _ j2 er2 f2 g2 x2 y2 v2 => ?_))
  have e : r2 = r := by
    rw [er2, er, e46]
    exact hz.sr.1.1.symm
  rw [e]
  have F : ∀ c p : Int, ¬ (76 + 25 * u ≤ c ∧ c ≤ 76 + 25 * u + 24) → ¬ (c = 354 ∧ 158 * u ≤ p ∧ p < 158 * u + 158) → ¬ ((c = 355 ∨ c = 356 ∨ c = 357) ∧ p = u) → m2 c p = m0 c p := fun c p q1 q2 q3 => by rw [f2 c p q2 q3, ff c p (by omega) (by omega)]
  have E : ∀ c p : Int, c ≤ 335 → m2 c p = m1 c p := fun c p q => f2 c p (by first | exact fun y => absurd (y.1 ▸ z) (by decide) | exact fun y => absurd (y.1 ▸ q) (by decide) | exact z | exact q | exact z.1 | exact q.1 | exact z.2 | exact q.2 | omega) (by omega)
  have D0 : ∀ p : Int, 0 ≤ p → p < 158 → iD m2 u p = m0 346 p := fun p p0 p1 => by
    show m2 354 (158 * u + p) = _
    rw [g2 p p0 p1, e46]
  have jx : JX S m2 := by
    refine ⟨j2, Xr.mk ?_ (fun k k0 k1 => ?_), Ya.mk (hj.2.2.up (fun c p q hs => F c p (by omega) (by omega) (by omega))) ?_ (fun k k0 k1 => ?_)⟩
    · rw [F 3 3 (by first | decide | exact fun z => absurd z.1 (by decide) | exact ⟨fun z => absurd z.1 (by decide), fun z => absurd z.1 (by decide)⟩ | omega) (by first | decide | exact fun z => absurd z.1 (by decide) | exact ⟨fun z => absurd z.1 (by decide), fun z => absurd z.1 (by decide)⟩ | omega) (by first | decide | exact fun z => absurd z.1 (by decide) | exact ⟨fun z => absurd z.1 (by decide), fun z => absurd z.1 (by decide)⟩ | omega), F 336 22 (by first | decide | exact fun z => absurd z.1 (by decide) | exact ⟨fun z => absurd z.1 (by decide), fun z => absurd z.1 (by decide)⟩ | omega) (by first | decide | exact fun z => absurd z.1 (by decide) | exact ⟨fun z => absurd z.1 (by decide), fun z => absurd z.1 (by decide)⟩ | omega) (by first | decide | exact fun z => absurd z.1 (by decide) | exact ⟨fun z => absurd z.1 (by decide), fun z => absurd z.1 (by decide)⟩ | omega)]
      exact hj.2.1.1
    · by_cases e : k = u
      · rw [e, E _ 3 (by omega), E _ 9 (by omega), x2, y2, z1, y1, e22]
        exact ⟨hj.2.1.1, rfl⟩
      · rw [F _ 3 (by omega) (by omega) (by omega), F _ 9 (by omega) (by omega) (by omega), F 356 k (by first | decide | exact fun z => absurd z.1 (by decide) | exact ⟨fun z => absurd z.1 (by decide), fun z => absurd z.1 (by decide)⟩ | omega) (by first | decide | exact fun z => absurd z.1 (by decide) | exact ⟨fun z => absurd z.1 (by decide), fun z => absurd z.1 (by decide)⟩ | omega) (by first | decide | exact fun z => absurd z.1 (by decide) | exact ⟨fun z => absurd z.1 (by decide), fun z => absurd z.1 (by decide)⟩ | omega), F 357 k (by first | decide | exact fun z => absurd z.1 (by decide) | exact ⟨fun z => absurd z.1 (by decide), fun z => absurd z.1 (by decide)⟩ | omega) (by first | decide | exact fun z => absurd z.1 (by decide) | exact ⟨fun z => absurd z.1 (by decide), fun z => absurd z.1 (by decide)⟩ | omega) (by first | decide | exact fun z => absurd z.1 (by decide) | exact ⟨fun z => absurd z.1 (by decide), fun z => absurd z.1 (by decide)⟩ | omega)]
        exact hj.2.1.k k0 k1
    · rw [F 3 2 (by first | decide | exact fun z => absurd z.1 (by decide) | exact ⟨fun z => absurd z.1 (by decide), fun z => absurd z.1 (by decide)⟩ | omega) (by first | decide | exact fun z => absurd z.1 (by decide) | exact ⟨fun z => absurd z.1 (by decide), fun z => absurd z.1 (by decide)⟩ | omega) (by first | decide | exact fun z => absurd z.1 (by decide) | exact ⟨fun z => absurd z.1 (by decide), fun z => absurd z.1 (by decide)⟩ | omega), F 336 21 (by first | decide | exact fun z => absurd z.1 (by decide) | exact ⟨fun z => absurd z.1 (by decide), fun z => absurd z.1 (by decide)⟩ | omega) (by first | decide | exact fun z => absurd z.1 (by decide) | exact ⟨fun z => absurd z.1 (by decide), fun z => absurd z.1 (by decide)⟩ | omega) (by first | decide | exact fun z => absurd z.1 (by decide) | exact ⟨fun z => absurd z.1 (by decide), fun z => absurd z.1 (by decide)⟩ | omega)]
      exact hj.2.2.2.1
    · by_cases e : k = u
      · rw [e, E _ 2 (by omega), v2, v1, e21]
        exact Or.inr hj.2.2.2.1
      · rw [F _ 2 (by omega) (by omega) (by omega), F 355 k (by first | decide | exact fun z => absurd z.1 (by decide) | exact ⟨fun z => absurd z.1 (by decide), fun z => absurd z.1 (by decide)⟩ | omega) (by first | decide | exact fun z => absurd z.1 (by decide) | exact ⟨fun z => absurd z.1 (by decide), fun z => absurd z.1 (by decide)⟩ | omega) (by first | decide | exact fun z => absurd z.1 (by decide) | exact ⟨fun z => absurd z.1 (by decide), fun z => absurd z.1 (by decide)⟩ | omega), F 357 k (by first | decide | exact fun z => absurd z.1 (by decide) | exact ⟨fun z => absurd z.1 (by decide), fun z => absurd z.1 (by decide)⟩ | omega) (by first | decide | exact fun z => absurd z.1 (by decide) | exact ⟨fun z => absurd z.1 (by decide), fun z => absurd z.1 (by decide)⟩ | omega) (by first | decide | exact fun z => absurd z.1 (by decide) | exact ⟨fun z => absurd z.1 (by decide), fun z => absurd z.1 (by decide)⟩ | omega)]
        exact hj.2.2.k k0 k1
  obtain ⟨_, ⟨rd, im, eu, pa⟩, cr, xz⟩ := id hz
  have F0 : ∀ c p : Int, ¬ (76 ≤ c ∧ c ≤ 175) → ¬ (354 ≤ c ∧ c ≤ 357) → m2 c p = m0 c p := fun c p q1 q2 => F c p (by omega) (by omega) (by omega)
  have e46' : m2 346 = m0 346 := funext (fun p => F0 346 p (by first | decide | exact fun z => absurd z.1 (by decide) | exact ⟨fun z => absurd z.1 (by decide), fun z => absurd z.1 (by decide)⟩ | omega) (by first | decide | exact fun z => absurd z.1 (by decide) | exact ⟨fun z => absurd z.1 (by decide), fun z => absurd z.1 (by decide)⟩ | omega))
  refine hk _ m2 ⟨jx, ⟨?_, fun k k0 k1 => ?_, ?_, fun r r0 r1 => ?_⟩, cr.same (fun c p q => F0 c p (by omega) (by omega)), ?_⟩
  · rw [e46']
    exact rd.same (fun c p c0 c1 => F0 c p (by omega) (by omega)) (F0 3 4 (by first | decide | exact fun z => absurd z.1 (by decide) | exact ⟨fun z => absurd z.1 (by decide), fun z => absurd z.1 (by decide)⟩ | omega) (by first | decide | exact fun z => absurd z.1 (by decide) | exact ⟨fun z => absurd z.1 (by decide), fun z => absurd z.1 (by decide)⟩ | omega)) (fun p _ _ => rfl)
  · by_cases e : k = u
    · rw [e]
      refine Or.inr (rd.move (fun p p0 p1 => ?_) (fun c p q => ?_) (fun p p0 p1 => ?_) (fun c p q => ?_) ?_ (fun c p c0 c1 p0 p1 => ?_) D0)
      · rw [E _ p (by omega)]; exact t0 p p0 p1
      · rw [E _ p (by omega)]; exact t1 c p q
      · rw [E _ p (by omega)]; exact s0 p p0 p1
      · rw [E _ p (by omega)]; exact s1 c p q
      · rw [E _ 4 (by omega)]; exact x0
      · rw [E _ p (by omega)]; exact x1 c p c0 c1 p0 p1
    · rw [F 357 k (by first | decide | exact fun z => absurd z.1 (by decide) | exact ⟨fun z => absurd z.1 (by decide), fun z => absurd z.1 (by decide)⟩ | omega) (by first | decide | exact fun z => absurd z.1 (by decide) | exact ⟨fun z => absurd z.1 (by decide), fun z => absurd z.1 (by decide)⟩ | omega) (by first | decide | exact fun z => absurd z.1 (by decide) | exact ⟨fun z => absurd z.1 (by decide), fun z => absurd z.1 (by decide)⟩ | omega)]
      refine (im k k0 k1).imp (fun z => z) (fun z => z.same (fun c p c0 c1 => F c p (by omega) (by omega) (by omega)) (F _ 4 (by omega) (by omega) (by omega)) (fun p p0 p1 => ?_))
      exact F 354 _ (by first | decide | exact fun z => absurd z.1 (by decide) | exact ⟨fun z => absurd z.1 (by decide), fun z => absurd z.1 (by decide)⟩ | omega) (by first | decide | exact fun z => absurd z.1 (by decide) | exact ⟨fun z => absurd z.1 (by decide), fun z => absurd z.1 (by decide)⟩ | omega) (by first | decide | exact fun z => absurd z.1 (by decide) | exact ⟨fun z => absurd z.1 (by decide), fun z => absurd z.1 (by decide)⟩ | omega)
  · rw [F0 0 5 (by first | decide | exact fun z => absurd z.1 (by decide) | exact ⟨fun z => absurd z.1 (by decide), fun z => absurd z.1 (by decide)⟩ | omega) (by first | decide | exact fun z => absurd z.1 (by decide) | exact ⟨fun z => absurd z.1 (by decide), fun z => absurd z.1 (by decide)⟩ | omega), F0 336 25 (by first | decide | exact fun z => absurd z.1 (by decide) | exact ⟨fun z => absurd z.1 (by decide), fun z => absurd z.1 (by decide)⟩ | omega) (by first | decide | exact fun z => absurd z.1 (by decide) | exact ⟨fun z => absurd z.1 (by decide), fun z => absurd z.1 (by decide)⟩ | omega)]; exact eu
  · rw [F0 336 25 (by first | decide | exact fun z => absurd z.1 (by decide) | exact ⟨fun z => absurd z.1 (by decide), fun z => absurd z.1 (by decide)⟩ | omega) (by first | decide | exact fun z => absurd z.1 (by decide) | exact ⟨fun z => absurd z.1 (by decide), fun z => absurd z.1 (by decide)⟩ | omega)] at r1 ⊢
    rw [F0 0 4 (by first | decide | exact fun z => absurd z.1 (by decide) | exact ⟨fun z => absurd z.1 (by decide), fun z => absurd z.1 (by decide)⟩ | omega) (by first | decide | exact fun z => absurd z.1 (by decide) | exact ⟨fun z => absurd z.1 (by decide), fun z => absurd z.1 (by decide)⟩ | omega)]
    obtain ⟨o, ho⟩ : ∃ o : Int, o = (m0 0 4 + 20 - m0 336 25 + r) % 20 := ⟨_, rfl⟩
    obtain ⟨⟨srq, dbq⟩, tlq⟩ := pa r r0 r1
    rw [← ho] at srq ⊢
    have ob : 0 ≤ o ∧ o ≤ 19 := by omega
    have db := hz.db
    have eD : uD m2 r = uD m0 r := funext (fun p => F0 347 _ (by first | decide | exact fun z => absurd z.1 (by decide) | exact ⟨fun z => absurd z.1 (by decide), fun z => absurd z.1 (by decide)⟩ | omega) (by first | decide | exact fun z => absurd z.1 (by decide) | exact ⟨fun z => absurd z.1 (by decide), fun z => absurd z.1 (by decide)⟩ | omega))
    have y4 := tlq 4 (by omega) (by omega)
    have y5 := tlq 5 (by omega) (by omega)
    have y6 := tlq 6 (by omega) (by omega)
    unfold RU
    rw [eD, e46']
    exact ⟨⟨srq.mv (by omega) (by omega) (by omega) (by omega) (fun p _ _ => F0 _ p (by omega) (by omega)) (fun c p z => F0 _ p (by omega) (by omega)) (fun p _ _ => rfl), dbq⟩, tlq⟩
  · obtain ⟨xs, xb, xc, xd, xe, xf⟩ := xz
    refine ⟨xs.move (F0 _ _ (by omega) (by omega)) (F0 _ _ (by omega) (by omega)) (F0 _ _ (by omega) (by omega)) (fun p _ _ => F0 _ _ (by omega) (by omega)) (fun p _ _ => F0 _ _ (by omega) (by omega)) (fun p _ _ => F0 _ _ (by omega) (by omega)), fun k k0 k1 => ?_, fun r r0 r1 => ?_, by rw [e46']; exact xd, fun k k0 k1 => ?_, ?_⟩
    · by_cases e : k = u
      · rw [e]
        refine xs.move ?_ ?_ ?_ (fun p p0 p1 => ?_) (fun p p0 p1 => ?_) (fun p p0 p1 => ?_)
        · rw [E _ 0 (by omega)]; exact s0 0 (by omega) (by omega)
        · rw [E _ 0 (by omega)]; exact t0 0 (by omega) (by omega)
        · rw [E _ 4 (by omega)]; exact x0
        · have q := t1 1 p (by unfold inT; omega)
          rw [show 76 + 25 * u + 1 + 1 = 76 + 25 * u + 2 by omega] at q
          rw [E _ p (by omega)]; exact q
        · have q := t1 2 p (by unfold inT; omega)
          rw [show 76 + 25 * u + 1 + 2 = 76 + 25 * u + 3 by omega] at q
          rw [E _ p (by omega)]; exact q
        · have q := s1 5 p (by unfold inS; omega)
          rw [show 76 + 25 * u + 13 + 5 = 76 + 25 * u + 18 by omega] at q
          rw [E _ p (by omega)]; exact q
      · exact (xb k k0 k1).move (F _ _ (by omega) (by omega) (by omega)) (F _ _ (by omega) (by omega) (by omega)) (F _ _ (by omega) (by omega) (by omega)) (fun p _ _ => F _ _ (by omega) (by omega) (by omega)) (fun p _ _ => F _ _ (by omega) (by omega) (by omega)) (fun p _ _ => F _ _ (by omega) (by omega) (by omega))
    · rw [F0 _ 0 (by omega) (by omega)]
      exact ⟨(xc r r0 r1).1, (xc r r0 r1).2.move (fun p _ _ => F0 _ _ (by omega) (by omega))⟩
    · by_cases e : k = u
      · rw [e]
        exact Or.inr (xd.move rd.1.2 (fun p q => D0 p (by omega) (by omega)))
      · rw [F 357 k (by first | decide | exact fun z => absurd z.1 (by decide) | exact ⟨fun z => absurd z.1 (by decide), fun z => absurd z.1 (by decide)⟩ | omega) (by first | decide | exact fun z => absurd z.1 (by decide) | exact ⟨fun z => absurd z.1 (by decide), fun z => absurd z.1 (by decide)⟩ | omega) (by first | decide | exact fun z => absurd z.1 (by decide) | exact ⟨fun z => absurd z.1 (by decide), fun z => absurd z.1 (by decide)⟩ | omega)]
        rcases im k k0 k1 with y | y
        · exact Or.inl y
        · exact (xe k k0 k1).imp (fun z => z) (fun z => z.move y.1.2 (fun p q => F 354 _ (by first | decide | exact fun z => absurd z.1 (by decide) | exact ⟨fun z => absurd z.1 (by decide), fun z => absurd z.1 (by decide)⟩ | omega) (by first | decide | exact fun z => absurd z.1 (by decide) | exact ⟨fun z => absurd z.1 (by decide), fun z => absurd z.1 (by decide)⟩ | omega) (by first | decide | exact fun z => absurd z.1 (by decide) | exact ⟨fun z => absurd z.1 (by decide), fun z => absurd z.1 (by decide)⟩ | omega)))
    · rw [F0 55 2 (by first | decide | exact fun z => absurd z.1 (by decide) | exact ⟨fun z => absurd z.1 (by decide), fun z => absurd z.1 (by decide)⟩ | omega) (by first | decide | exact fun z => absurd z.1 (by decide) | exact ⟨fun z => absurd z.1 (by decide), fun z => absurd z.1 (by decide)⟩ | omega), F0 336 23 (by first | decide | exact fun z => absurd z.1 (by decide) | exact ⟨fun z => absurd z.1 (by decide), fun z => absurd z.1 (by decide)⟩ | omega) (by first | decide | exact fun z => absurd z.1 (by decide) | exact ⟨fun z => absurd z.1 (by decide), fun z => absurd z.1 (by decide)⟩ | omega)]; exact xf
theorem zx_back11 {S : Sh} {m0 : Mm} {K : Int → Mm → Prop} {u1 : Int} (hS : Shp S) (hj : Jc S m0) (h0 : (¬ (0 ≤ u1 ∧ u1 ≤ 3) ∨ m0 (76 + 25 * u1) 9 = 0) → K (-1) m0) (hk : ∀ (r : Int) (M1 : Mm), 0 ≤ u1 → u1 ≤ 3 → ¬ m0 (76 + 25 * u1) 9 = 0 → Jc S M1 → r = m0 (76 + 25 * u1 + 13) 0 → M1 0 5 = 0 → (∀ c p : Int, ¬ (4 ≤ c ∧ c ≤ 27) → ¬ (c = 3 ∧ (p = 2 ∨ p = 3 ∨ p = 4)) → ¬ (c = 0 ∧ p = 5) → ¬ (c = 55 ∧ p = 1) → M1 c p = m0 c p) → M1 55 1 = (if M1 3 2 < 0 then -2 else M1 30 (M1 3 2)) → (∀ p : Int, 0 ≤ p → p < 8 → M1 (3 + 1) p = m0 (76 + 25 * u1 + 1) p) → (∀ c p : Int, inT c p → M1 (3 + 1 + c) p = m0 (76 + 25 * u1 + 1 + c) p) → (∀ p : Int, 0 ≤ p → p < 2 → M1 (3 + 13) p = m0 (76 + 25 * u1 + 13) p) → (∀ c p : Int, inS c p → M1 (3 + 13 + c) p = m0 (76 + 25 * u1 + 13 + c) p) → M1 3 4 = m0 (76 + 25 * u1) 4 → (∀ c p : Int, 21 ≤ c → c ≤ 24 → 0 ≤ p → p < 10 → M1 (3 + c) p = m0 (76 + 25 * u1 + c) p) → M1 3 3 = m0 (76 + 25 * u1) 3 → M1 3 2 = m0 (76 + 25 * u1) 2 → K r M1) : wp_X11_back S m0 0 u1 K := by
  have hm0 := hj.inv
  refine u_X11_back ?_
  refine g_if (fun w => g_C (h0 (Or.inl (by omega)))) (fun w => ?_)
  refine g_C ?_
  refine g_if (fun w2 => g_C (h0 (Or.inl (by omega)))) (fun w2 => ?_)
  have a : 0 ≤ u1 := by omega
  have b : u1 ≤ 3 := by omega
  have sc := im_sc a b
  refine g_getr 2 28 rfl hS.k0 hm0.f_0_2 (by decide) ?_
  refine g_ldrB (P := fun c => c = 76 + 25 * u1) (fun c hc => by omega) hS.k28 hS.l28 a (by omega) (hm0.im a b) (fun v ev hv => ?_)
  subst hv
  refine g_getu 9 rfl (hS.kB_4_0 sc) (fun fl efl => ?_)
  refine g_if (fun w3 => ?_) (fun w3 => g_C (h0 (Or.inr (by omega))))
  refine g_getr 1 3 rfl hS.k0 hm0.f_0_1 (by decide) ?_
  refine g_getr 2 28 rfl hS.k0 hm0.f_0_2 (by decide) ?_
  refine g_ldrB (P := fun c => c = 76 + 25 * u1) (fun c hc => by omega) hS.k28 hS.l28 a (by omega) (hm0.im a b) (fun v2 ev2 hv2 => ?_)
  subst hv2
  refine ⟨hS.k3, ?_⟩
  refine zx_become hS hj (by decide) sc (Or.inr (by omega)) (fun m1 j1 ff t0 t1 s0 s1 x0 x1 f1 z1 v1 => ?_)
  have hm1 := j1.inv
  refine g_C ?_
  refine g_put 5 rfl hS.k0 (hm1.w_0_5 (by decide) (by decide)) (fun m2 e2 hm2 => ?_)
  have f2 : ∀ c p : Int, ¬ (c = 0 ∧ p = 5) → m2 c p = m1 c p := fun c p q => (congrFun (congrFun e2 _) _).trans (up_ne q)
  have y2 : m2 0 5 = 0 := (congrFun (congrFun e2 _) _).trans (up_at _ _ _ _)
  refine ⟨hS.k0, ?_⟩
  refine zx_enforce hS hm2 (fun m3 hm3 f3 y3 => ?_)
  refine g_getr 1 3 rfl hS.k0 hm3.f_0_1 (by decide) ?_
  refine g_getr 1 16 rfl hS.k3 hm3.f_3_1 (by decide) ?_
  refine g_getu 0 rfl hS.k16 (fun v3 ev3 => ?_)
  have E : ∀ c p : Int, ¬ (c = 0 ∧ p = 5) → ¬ (c = 55 ∧ p = 1) → m3 c p = m1 c p := fun c p q1 q2 => by rw [f3 c p q2, f2 c p q1]
  have e16 : v3 = m0 (76 + 25 * u1 + 13) 0 := by
    rw [ev3, E 16 0 (by omega) (by omega)]
    exact s0 0 (by omega) (by omega)
  refine hk _ m3 a b (by omega) (Jc.of hm3) e16 (by rw [f3 0 5 (by first | decide | exact fun z => absurd z.1 (by decide) | exact ⟨fun z => absurd z.1 (by decide), fun z => absurd z.1 (by decide)⟩ | omega), y2]) (fun c p q1 q2 q3 q4 => by rw [E c p q3 q4]; exact ff c p (by omega) (by omega)) ?_ (fun p p0 p1 => by rw [E _ p (by omega) (by omega)]; exact t0 p p0 p1) (fun c p q => by rw [E _ p (by omega) (by omega)]; exact t1 c p q) (fun p p0 p1 => by rw [E _ p (by omega) (by omega)]; exact s0 p p0 p1) (fun c p q => by rw [E _ p (by omega) (by omega)]; exact s1 c p q) (by rw [E _ 4 (by omega) (by omega)]; exact x0) (fun c p q1 q2 q3 q4 => by rw [E _ p (by omega) (by omega)]; exact x1 c p q1 q2 q3 q4) (by rw [E _ 3 (by omega) (by omega)]; exact z1) (by rw [E _ 2 (by omega) (by omega)]; exact v1)
  rw [y3, f3 3 2 (by first | decide | exact fun z => absurd z.1 (by decide) | exact ⟨fun z => absurd z.1 (by decide), fun z => absurd z.1 (by decide)⟩ | omega)]
  by_cases z : m2 3 2 < 0
  · rw [if_pos z, if_pos z]
  · rw [if_neg z, if_neg z, f3 30 _ (by first | decide | exact fun z => absurd z.1 (by decide) | exact ⟨fun z => absurd z.1 (by decide), fun z => absurd z.1 (by decide)⟩ | omega)]
theorem zz_back {S : Sh} {m0 : Mm} {K : Int → Int → Mm → Prop} {K1 : Int → Mm → Prop} {n u : Int} (hS : Shp S) (hz : RZ S m0 n) (hK : ∀ (r : Int) (M : Mm), wp_X12_back S M 336 u (fun r2 M2 => K r r2 M2) → K1 r M) (hk : ∀ (r : Int) (M1 : Mm), RZ S M1 n → K r r M1) : wp_X11_back S m0 0 u K1 := by
  have hj := hz.1
  refine zx_back11 hS hj.1 (fun w => ?_) (fun r m1 a b nz j1 er e05 ff ce t0 t1 s0 s1 x0 x1 z1 v1 => ?_)
  · refine hK _ _ (zx_back12 hS hj.1 (fun _ => hk _ m0 hz) (fun r M1 a b nz _ _ _ _ _ _ _ => ?_))
    have q := (hj.2.1.k a b).2
    exfalso
    rcases w with w | w
    · exact w ⟨a, b⟩
    · omega
  have q := hj.2.1.k a b
  have q2 := hj.2.2.k a b
  have F1 : ∀ c p : Int, 336 ≤ c → m1 c p = m0 c p := fun c p z => ff c p (by omega) (by omega) (by omega) (by omega)
  refine hK _ _ (zx_back12 hS j1 (fun w => ?_) (fun r2 m2 _ _ nz2 j2 er2 x25 f2 g2 x22 x21 => ?_))
  · exfalso
    rcases w with w | w
    · exact w ⟨a, b⟩
    · rw [F1 357 _ (by first | decide | exact fun z => absurd z.1 (by decide) | exact ⟨fun z => absurd z.1 (by decide), fun z => absurd z.1 (by decide)⟩ | omega)] at w
      omega
  obtain ⟨_, ⟨rd, im, eu, pa⟩, cr, xz⟩ := id hz
  have rk : RD m0 (76 + 25 * u) (iD m0 u) := (im u a b).resolve_left (by omega)
  have e : r2 = r := by
    rw [er2, er, F1 354 _ (by first | decide | exact fun z => absurd z.1 (by decide) | exact ⟨fun z => absurd z.1 (by decide), fun z => absurd z.1 (by decide)⟩ | omega)]
    exact rk.2.2.1.1.1.symm
  rw [e]
  have E : ∀ c p : Int, c ≤ 335 → m2 c p = m1 c p := fun c p z => f2 c p (by first | exact fun y => absurd (y.1 ▸ z) (by decide) | exact fun y => absurd (y.1 ▸ q) (by decide) | exact z | exact q | exact z.1 | exact q.1 | exact z.2 | exact q.2 | omega) (by omega)
  have D0 : ∀ p : Int, 0 ≤ p → p < 158 → m2 346 p = iD m0 u p := fun p p0 p1 => by
    rw [g2 p p0 p1, F1 354 _ (by first | decide | exact fun z => absurd z.1 (by decide) | exact ⟨fun z => absurd z.1 (by decide), fun z => absurd z.1 (by decide)⟩ | omega)]
    rfl
  have F : ∀ c p : Int, ¬ (4 ≤ c ∧ c ≤ 27) → ¬ (c = 3 ∧ (p = 2 ∨ p = 3 ∨ p = 4)) → ¬ (c = 0 ∧ p = 5) → ¬ (c = 55 ∧ p = 1) → ¬ (c = 346 ∧ 0 ≤ p ∧ p < 158) → ¬ (c = 336 ∧ (p = 21 ∨ p = 22 ∨ p = 25)) → m2 c p = m0 c p := fun c p q1 q2 q3 q4 q5 q6 => by rw [f2 c p q5 q6, ff c p q1 q2 q3 q4]
  have jx : JX S m2 := by
    refine ⟨j2, Xr.mk ?_ (fun k k0 k1 => ?_), Ya.mk (hj.2.2.up (fun c p q hs => F c p (by omega) (by omega) (by omega) (by omega) (by omega) (by omega))) ?_ (fun k k0 k1 => ?_)⟩
    · rw [E 3 3 (by omega), z1, x22, F1 356 _ (by first | decide | exact fun z => absurd z.1 (by decide) | exact ⟨fun z => absurd z.1 (by decide), fun z => absurd z.1 (by decide)⟩ | omega)]
      exact q.1
    · rw [F _ 3 (by omega) (by omega) (by omega) (by omega) (by omega) (by omega), F _ 9 (by omega) (by omega) (by omega) (by omega) (by omega) (by omega), F 356 k (by first | decide | exact fun z => absurd z.1 (by decide) | exact ⟨fun z => absurd z.1 (by decide), fun z => absurd z.1 (by decide)⟩ | omega) (by first | decide | exact fun z => absurd z.1 (by decide) | exact ⟨fun z => absurd z.1 (by decide), fun z => absurd z.1 (by decide)⟩ | omega) (by first | decide | exact fun z => absurd z.1 (by decide) | exact ⟨fun z => absurd z.1 (by decide), fun z => absurd z.1 (by decide)⟩ | omega) (by first | decide | exact fun z => absurd z.1 (by decide) | exact ⟨fun z => absurd z.1 (by decide), fun z => absurd z.1 (by decide)⟩ | omega) (by first | decide | exact fun z => absurd z.1 (by decide) | exact ⟨fun z => absurd z.1 (by decide), fun z => absurd z.1 (by decide)⟩ | omega) (by first | decide | exact fun z => absurd z.1 (by decide) | exact ⟨fun z => absurd z.1 (by decide), fun z => absurd z.1 (by decide)⟩ | omega), F 357 k (by first | decide | exact fun z => absurd z.1 (by decide) | exact ⟨fun z => absurd z.1 (by decide), fun z => absurd z.1 (by decide)⟩ | omega) (by first | decide | exact fun z => absurd z.1 (by decide) | exact ⟨fun z => absurd z.1 (by decide), fun z => absurd z.1 (by decide)⟩ | omega) (by first | decide | exact fun z => absurd z.1 (by decide) | exact ⟨fun z => absurd z.1 (by decide), fun z => absurd z.1 (by decide)⟩ | omega) (by first | decide | exact fun z => absurd z.1 (by decide) | exact ⟨fun z => absurd z.1 (by decide), fun z => absurd z.1 (by decide)⟩ | omega) (by first | decide | exact fun z => absurd z.1 (by decide) | exact ⟨fun z => absurd z.1 (by decide), fun z => absurd z.1 (by decide)⟩ | omega) (by first | decide | exact fun z => absurd z.1 (by decide) | exact ⟨fun z => absurd z.1 (by decide), fun z => absurd z.1 (by decide)⟩ | omega)]
      exact hj.2.1.k k0 k1
    · rw [E 3 2 (by omega), v1, x21, F1 355 _ (by first | decide | exact fun z => absurd z.1 (by decide) | exact ⟨fun z => absurd z.1 (by decide), fun z => absurd z.1 (by decide)⟩ | omega)]
      rcases q2 with q2 | q2
      · omega
      · exact q2
    · rw [F _ 2 (by omega) (by omega) (by omega) (by omega) (by omega) (by omega), F 355 k (by first | decide | exact fun z => absurd z.1 (by decide) | exact ⟨fun z => absurd z.1 (by decide), fun z => absurd z.1 (by decide)⟩ | omega) (by first | decide | exact fun z => absurd z.1 (by decide) | exact ⟨fun z => absurd z.1 (by decide), fun z => absurd z.1 (by decide)⟩ | omega) (by first | decide | exact fun z => absurd z.1 (by decide) | exact ⟨fun z => absurd z.1 (by decide), fun z => absurd z.1 (by decide)⟩ | omega) (by first | decide | exact fun z => absurd z.1 (by decide) | exact ⟨fun z => absurd z.1 (by decide), fun z => absurd z.1 (by decide)⟩ | omega) (by first | decide | exact fun z => absurd z.1 (by decide) | exact ⟨fun z => absurd z.1 (by decide), fun z => absurd z.1 (by decide)⟩ | omega) (by first | decide | exact fun z => absurd z.1 (by decide) | exact ⟨fun z => absurd z.1 (by decide), fun z => absurd z.1 (by decide)⟩ | omega), F 357 k (by first | decide | exact fun z => absurd z.1 (by decide) | exact ⟨fun z => absurd z.1 (by decide), fun z => absurd z.1 (by decide)⟩ | omega) (by first | decide | exact fun z => absurd z.1 (by decide) | exact ⟨fun z => absurd z.1 (by decide), fun z => absurd z.1 (by decide)⟩ | omega) (by first | decide | exact fun z => absurd z.1 (by decide) | exact ⟨fun z => absurd z.1 (by decide), fun z => absurd z.1 (by decide)⟩ | omega) (by first | decide | exact fun z => absurd z.1 (by decide) | exact ⟨fun z => absurd z.1 (by decide), fun z => absurd z.1 (by decide)⟩ | omega) (by first | decide | exact fun z => absurd z.1 (by decide) | exact ⟨fun z => absurd z.1 (by decide), fun z => absurd z.1 (by decide)⟩ | omega) (by first | decide | exact fun z => absurd z.1 (by decide) | exact ⟨fun z => absurd z.1 (by decide), fun z => absurd z.1 (by decide)⟩ | omega)]
      exact hj.2.2.k k0 k1
  refine hk _ m2 ⟨jx, ⟨?_, fun k k0 k1 => ?_, ?_, fun r r0 r1 => absurd r1 (by omega)⟩, ⟨fun k k0 k1 => ?_, ?_⟩, ?_⟩
  · refine rk.move (fun p p0 p1 => ?_) (fun c p q => ?_) (fun p p0 p1 => ?_) (fun c p q => ?_) ?_ (fun c p c0 c1 p0 p1 => ?_) D0
    · rw [E _ p (by omega)]; exact t0 p p0 p1
    · rw [E _ p (by omega)]; exact t1 c p q
    · rw [E _ p (by omega)]; exact s0 p p0 p1
    · rw [E _ p (by omega)]; exact s1 c p q
    · rw [E _ 4 (by omega)]; exact x0
    · rw [E _ p (by omega)]; exact x1 c p c0 c1 p0 p1
  · rw [F 357 k (by first | decide | exact fun z => absurd z.1 (by decide) | exact ⟨fun z => absurd z.1 (by decide), fun z => absurd z.1 (by decide)⟩ | omega) (by first | decide | exact fun z => absurd z.1 (by decide) | exact ⟨fun z => absurd z.1 (by decide), fun z => absurd z.1 (by decide)⟩ | omega) (by first | decide | exact fun z => absurd z.1 (by decide) | exact ⟨fun z => absurd z.1 (by decide), fun z => absurd z.1 (by decide)⟩ | omega) (by first | decide | exact fun z => absurd z.1 (by decide) | exact ⟨fun z => absurd z.1 (by decide), fun z => absurd z.1 (by decide)⟩ | omega) (by first | decide | exact fun z => absurd z.1 (by decide) | exact ⟨fun z => absurd z.1 (by decide), fun z => absurd z.1 (by decide)⟩ | omega) (by first | decide | exact fun z => absurd z.1 (by decide) | exact ⟨fun z => absurd z.1 (by decide), fun z => absurd z.1 (by decide)⟩ | omega), show iD m2 k = iD m0 k from funext (fun p => F 354 _ (by first | decide | exact fun z => absurd z.1 (by decide) | exact ⟨fun z => absurd z.1 (by decide), fun z => absurd z.1 (by decide)⟩ | omega) (by first | decide | exact fun z => absurd z.1 (by decide) | exact ⟨fun z => absurd z.1 (by decide), fun z => absurd z.1 (by decide)⟩ | omega) (by first | decide | exact fun z => absurd z.1 (by decide) | exact ⟨fun z => absurd z.1 (by decide), fun z => absurd z.1 (by decide)⟩ | omega) (by first | decide | exact fun z => absurd z.1 (by decide) | exact ⟨fun z => absurd z.1 (by decide), fun z => absurd z.1 (by decide)⟩ | omega) (by first | decide | exact fun z => absurd z.1 (by decide) | exact ⟨fun z => absurd z.1 (by decide), fun z => absurd z.1 (by decide)⟩ | omega) (by first | decide | exact fun z => absurd z.1 (by decide) | exact ⟨fun z => absurd z.1 (by decide), fun z => absurd z.1 (by decide)⟩ | omega))]
    exact (im k k0 k1).imp (fun z => z) (fun z => z.same (fun c p c0 c1 => F c p (by omega) (by omega) (by omega) (by omega) (by omega) (by omega)) (F _ 4 (by omega) (by omega) (by omega) (by omega) (by omega) (by omega)) (fun p _ _ => rfl))
  · rw [x25, E 0 5 (by omega), e05]
  · rw [F 336 2 (by first | decide | exact fun z => absurd z.1 (by decide) | exact ⟨fun z => absurd z.1 (by decide), fun z => absurd z.1 (by decide)⟩ | omega) (by first | decide | exact fun z => absurd z.1 (by decide) | exact ⟨fun z => absurd z.1 (by decide), fun z => absurd z.1 (by decide)⟩ | omega) (by first | decide | exact fun z => absurd z.1 (by decide) | exact ⟨fun z => absurd z.1 (by decide), fun z => absurd z.1 (by decide)⟩ | omega) (by first | decide | exact fun z => absurd z.1 (by decide) | exact ⟨fun z => absurd z.1 (by decide), fun z => absurd z.1 (by decide)⟩ | omega) (by first | decide | exact fun z => absurd z.1 (by decide) | exact ⟨fun z => absurd z.1 (by decide), fun z => absurd z.1 (by decide)⟩ | omega) (by first | decide | exact fun z => absurd z.1 (by decide) | exact ⟨fun z => absurd z.1 (by decide), fun z => absurd z.1 (by decide)⟩ | omega)] at k1
    obtain ⟨Cs, r1, r2, r3⟩ := cr.1 k k0 k1
    refine ⟨Cs, ?_, r2.same (fun c p q => F c p (by omega) (by omega) (by omega) (by omega) (by omega) (by omega)), r3⟩
    rw [F 30 k (by first | decide | exact fun z => absurd z.1 (by decide) | exact ⟨fun z => absurd z.1 (by decide), fun z => absurd z.1 (by decide)⟩ | omega) (by first | decide | exact fun z => absurd z.1 (by decide) | exact ⟨fun z => absurd z.1 (by decide), fun z => absurd z.1 (by decide)⟩ | omega) (by first | decide | exact fun z => absurd z.1 (by decide) | exact ⟨fun z => absurd z.1 (by decide), fun z => absurd z.1 (by decide)⟩ | omega) (by first | decide | exact fun z => absurd z.1 (by decide) | exact ⟨fun z => absurd z.1 (by decide), fun z => absurd z.1 (by decide)⟩ | omega) (by first | decide | exact fun z => absurd z.1 (by decide) | exact ⟨fun z => absurd z.1 (by decide), fun z => absurd z.1 (by decide)⟩ | omega) (by first | decide | exact fun z => absurd z.1 (by decide) | exact ⟨fun z => absurd z.1 (by decide), fun z => absurd z.1 (by decide)⟩ | omega)]
    exact r1.same (fun c p q => F c p (by omega) (by omega) (by omega) (by omega) (by omega) (by omega))
  · rw [E 55 1 (by omega), E 3 2 (by omega), ce]
    by_cases z : m1 3 2 < 0
    · rw [if_pos z, if_pos z]
    · rw [if_neg z, if_neg z, E 30 _ (by omega)]
  · obtain ⟨xs, xb, xc, xd, xe, xf⟩ := xz
    have uk : UQ (iD m0 u) := (xe u a b).resolve_left (by omega)
    refine ⟨(xb u a b).move ?_ ?_ ?_ (fun p p0 p1 => ?_) (fun p p0 p1 => ?_) (fun p p0 p1 => ?_), fun k k0 k1 => (xb k k0 k1).move (F _ _ (by omega) (by omega) (by omega) (by omega) (by omega) (by omega)) (F _ _ (by omega) (by omega) (by omega) (by omega) (by omega) (by omega)) (F _ _ (by omega) (by omega) (by omega) (by omega) (by omega) (by omega)) (fun p _ _ => F _ _ (by omega) (by omega) (by omega) (by omega) (by omega) (by omega)) (fun p _ _ => F _ _ (by omega) (by omega) (by omega) (by omega) (by omega) (by omega)) (fun p _ _ => F _ _ (by omega) (by omega) (by omega) (by omega) (by omega) (by omega)), fun r r0 r1 => ?_, uk.move rk.1.2 (fun p q => D0 p (by omega) (by omega)), fun k k0 k1 => ?_, ?_⟩
    · rw [E _ 0 (by omega)]; exact s0 0 (by omega) (by omega)
    · rw [E _ 0 (by omega)]; exact t0 0 (by omega) (by omega)
    · rw [E _ 4 (by omega)]; exact x0
    · have q := t1 1 p (by unfold inT; omega)
      rw [show 76 + 25 * u + 1 + 1 = 76 + 25 * u + 2 by omega] at q
      rw [E _ p (by omega)]; exact q
    · have q := t1 2 p (by unfold inT; omega)
      rw [show 76 + 25 * u + 1 + 2 = 76 + 25 * u + 3 by omega] at q
      rw [E _ p (by omega)]; exact q
    · have q := s1 5 p (by unfold inS; omega)
      rw [show 76 + 25 * u + 13 + 5 = 76 + 25 * u + 18 by omega] at q
      rw [E _ p (by omega)]; exact q
    · rw [F _ 0 (by omega) (by omega) (by omega) (by omega) (by omega) (by omega)]
      exact ⟨(xc r r0 r1).1, (xc r r0 r1).2.move (fun p _ _ => F _ _ (by omega) (by omega) (by omega) (by omega) (by omega) (by omega))⟩
    · rw [F 357 k (by first | decide | exact fun z => absurd z.1 (by decide) | exact ⟨fun z => absurd z.1 (by decide), fun z => absurd z.1 (by decide)⟩ | omega) (by first | decide | exact fun z => absurd z.1 (by decide) | exact ⟨fun z => absurd z.1 (by decide), fun z => absurd z.1 (by decide)⟩ | omega) (by first | decide | exact fun z => absurd z.1 (by decide) | exact ⟨fun z => absurd z.1 (by decide), fun z => absurd z.1 (by decide)⟩ | omega) (by first | decide | exact fun z => absurd z.1 (by decide) | exact ⟨fun z => absurd z.1 (by decide), fun z => absurd z.1 (by decide)⟩ | omega) (by first | decide | exact fun z => absurd z.1 (by decide) | exact ⟨fun z => absurd z.1 (by decide), fun z => absurd z.1 (by decide)⟩ | omega) (by first | decide | exact fun z => absurd z.1 (by decide) | exact ⟨fun z => absurd z.1 (by decide), fun z => absurd z.1 (by decide)⟩ | omega), show iD m2 k = iD m0 k from funext (fun p => F 354 _ (by first | decide | exact fun z => absurd z.1 (by decide) | exact ⟨fun z => absurd z.1 (by decide), fun z => absurd z.1 (by decide)⟩ | omega) (by first | decide | exact fun z => absurd z.1 (by decide) | exact ⟨fun z => absurd z.1 (by decide), fun z => absurd z.1 (by decide)⟩ | omega) (by first | decide | exact fun z => absurd z.1 (by decide) | exact ⟨fun z => absurd z.1 (by decide), fun z => absurd z.1 (by decide)⟩ | omega) (by first | decide | exact fun z => absurd z.1 (by decide) | exact ⟨fun z => absurd z.1 (by decide), fun z => absurd z.1 (by decide)⟩ | omega) (by first | decide | exact fun z => absurd z.1 (by decide) | exact ⟨fun z => absurd z.1 (by decide), fun z => absurd z.1 (by decide)⟩ | omega) (by first | decide | exact fun z => absurd z.1 (by decide) | exact ⟨fun z => absurd z.1 (by decide), fun z => absurd z.1 (by decide)⟩ | omega))]; exact xe k k0 k1
    · rw [F 55 2 (by first | decide | exact fun z => absurd z.1 (by decide) | exact ⟨fun z => absurd z.1 (by decide), fun z => absurd z.1 (by decide)⟩ | omega) (by first | decide | exact fun z => absurd z.1 (by decide) | exact ⟨fun z => absurd z.1 (by decide), fun z => absurd z.1 (by decide)⟩ | omega) (by first | decide | exact fun z => absurd z.1 (by decide) | exact ⟨fun z => absurd z.1 (by decide), fun z => absurd z.1 (by decide)⟩ | omega) (by first | decide | exact fun z => absurd z.1 (by decide) | exact ⟨fun z => absurd z.1 (by decide), fun z => absurd z.1 (by decide)⟩ | omega) (by first | decide | exact fun z => absurd z.1 (by decide) | exact ⟨fun z => absurd z.1 (by decide), fun z => absurd z.1 (by decide)⟩ | omega) (by first | decide | exact fun z => absurd z.1 (by decide) | exact ⟨fun z => absurd z.1 (by decide), fun z => absurd z.1 (by decide)⟩ | omega), F 336 23 (by first | decide | exact fun z => absurd z.1 (by decide) | exact ⟨fun z => absurd z.1 (by decide), fun z => absurd z.1 (by decide)⟩ | omega) (by first | decide | exact fun z => absurd z.1 (by decide) | exact ⟨fun z => absurd z.1 (by decide), fun z => absurd z.1 (by decide)⟩ | omega) (by first | decide | exact fun z => absurd z.1 (by decide) | exact ⟨fun z => absurd z.1 (by decide), fun z => absurd z.1 (by decide)⟩ | omega) (by first | decide | exact fun z => absurd z.1 (by decide) | exact ⟨fun z => absurd z.1 (by decide), fun z => absurd z.1 (by decide)⟩ | omega) (by first | decide | exact fun z => absurd z.1 (by decide) | exact ⟨fun z => absurd z.1 (by decide), fun z => absurd z.1 (by decide)⟩ | omega) (by first | decide | exact fun z => absurd z.1 (by decide) | exact ⟨fun z => absurd z.1 (by decide), fun z => absurd z.1 (by decide)⟩ | omega)]; exact xf
