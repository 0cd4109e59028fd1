section
/-- an ACT: the class keeps its STATE and changes it, the reference keeps its row and changes it -/
theorem RW.act {m0 M1 M2 M3 M4 : Mm} {i u s : Int} (R : RW m0) (ei : i = m0 0 4) (i0 : 0 ≤ i) (i1 : i ≤ 19) (f1 : ∀ c p : Int, ¬ (176 + 8 * i ≤ c ∧ c ≤ 183 + 8 * i) → ¬ (c = 0 ∧ (p = 4 ∨ p = 5)) → M1 c p = m0 c p) (n1 : M1 0 4 = (i + 1) % 20) (v1 : M1 0 5 = m0 0 5 + 1 ∨ (M1 0 5 = 20 ∧ m0 0 5 = 20)) (w0 : M1 (176 + 8 * i) 0 = m0 16 0) (w1 : M1 (176 + 8 * i) 1 = m0 16 1) (w2 : ∀ p : Int, 0 ≤ p → p < 5 → M1 (177 + 8 * i) p = m0 17 p ∧ M1 (178 + 8 * i) p = m0 18 p ∧ M1 (179 + 8 * i) p = m0 19 p) (w3 : ∀ p : Int, 0 ≤ p → p < 4 → M1 (180 + 8 * i) p = m0 20 p ∧ M1 (181 + 8 * i) p = m0 21 p ∧ M1 (182 + 8 * i) p = m0 22 p) (w4 : ∀ p : Int, 0 ≤ p → p < 6 → M1 (183 + 8 * i) p = m0 23 p) (f2 : ∀ c p : Int, ¬ (16 ≤ c ∧ c ≤ 23) → ¬ (55 ≤ c ∧ c ≤ 75) → M2 c p = M1 c p) (u0 : 0 ≤ u) (u1 : u ≤ 19) (e3 : M3 336 25 = u + 1) (hs : (s = 0 ∧ u = M2 336 25) ∨ (s = 57 ∧ u = 19 ∧ M2 336 25 = 20)) (f3 : ∀ c p : Int, ¬ c = 347 → ¬ (c = 336 ∧ p = 25) → M3 c p = M2 c p) (g3 : ∀ j : Int, 0 ≤ j → j < 57 → M3 347 (57 * u + j) = M2 346 j) (k3 : ∀ p : Int, 0 ≤ p → p < 57 * u → M3 347 p = M2 347 (p + s)) (f4 : ∀ c p : Int, ¬ (c = 346 ∧ 0 ≤ p ∧ p < 57 ∧ ¬ tp p) → ¬ (344 ≤ c ∧ c ≤ 345) → ¬ (c = 336 ∧ p = 18) → M4 c p = M3 c p) (b0 : 0 ≤ m0 0 5 ∧ m0 0 5 ≤ 20) (b1 : M1 0 5 ≤ 20) (x : SR M4 16 (M4 346)) : RW M4 := by
  obtain ⟨⟨⟨b, b3⟩, t, r, xx⟩, im, eu, pa⟩ := R
  have F : ∀ c p : Int, ¬ (176 + 8 * i ≤ c ∧ c ≤ 183 + 8 * i) → ¬ (c = 0 ∧ (p = 4 ∨ p = 5)) → ¬ (16 ≤ c ∧ c ≤ 23) → ¬ (55 ≤ c ∧ c ≤ 75) → ¬ c = 347 → ¬ (c = 336 ∧ (p = 25 ∨ p = 18)) → ¬ (c = 346 ∧ 0 ≤ p ∧ p < 57 ∧ ¬ tp p) → ¬ (344 ≤ c ∧ c ≤ 345) → M4 c p = m0 c p := fun c p a1 a2 a3 a4 a5 a6 a7 a8 => by
    rw [f4 c p a7 a8 (fun z => a6 ⟨z.1, Or.inr z.2⟩), f3 c p a5 (fun z => a6 ⟨z.1, Or.inl z.2⟩), f2 c p a3 a4, f1 c p a1 a2]
  have G : ∀ p : Int, (tp p ∨ ¬ (0 ≤ p ∧ p < 57)) → M4 346 p = m0 346 p := fun p q => F 346 p (by first | decide | exact fun z => absurd z.1 (by decide) | exact ⟨fun z => absurd z.1 (by decide), fun z => absurd z.1 (by decide)⟩ | omega) (by first | decide | exact fun z => absurd z.1 (by decide) | exact ⟨fun z => absurd z.1 (by decide), fun z => absurd z.1 (by decide)⟩ | omega) (by first | decide | exact fun z => absurd z.1 (by decide) | exact ⟨fun z => absurd z.1 (by decide), fun z => absurd z.1 (by decide)⟩ | omega) (by first | decide | exact fun z => absurd z.1 (by decide) | exact ⟨fun z => absurd z.1 (by decide), fun z => absurd z.1 (by decide)⟩ | omega) (by first | decide | exact fun z => absurd z.1 (by decide) | exact ⟨fun z => absurd z.1 (by decide), fun z => absurd z.1 (by decide)⟩ | omega) (by first | decide | exact fun z => absurd z.1 (by decide) | exact ⟨fun z => absurd z.1 (by decide), fun z => absurd z.1 (by decide)⟩ | omega) (fun z => q.elim (fun y => z.2.2.2 y) (fun y => y ⟨z.2.1, z.2.2.1⟩)) (by omega)
  have e25 : M2 336 25 = m0 336 25 := by rw [f2 336 25 (by first | decide | exact fun z => absurd z.1 (by decide) | exact ⟨fun z => absurd z.1 (by decide), fun z => absurd z.1 (by decide)⟩ | omega) (by first | decide | exact fun z => absurd z.1 (by decide) | exact ⟨fun z => absurd z.1 (by decide), fun z => absurd z.1 (by decide)⟩ | omega), f1 336 25 (by first | decide | exact fun z => absurd z.1 (by decide) | exact ⟨fun z => absurd z.1 (by decide), fun z => absurd z.1 (by decide)⟩ | omega) (by first | decide | exact fun z => absurd z.1 (by decide) | exact ⟨fun z => absurd z.1 (by decide), fun z => absurd z.1 (by decide)⟩ | omega)]
  have q25 : M4 336 25 = u + 1 := by rw [f4 336 25 (by first | decide | exact fun z => absurd z.1 (by decide) | exact ⟨fun z => absurd z.1 (by decide), fun z => absurd z.1 (by decide)⟩ | omega) (by first | decide | exact fun z => absurd z.1 (by decide) | exact ⟨fun z => absurd z.1 (by decide), fun z => absurd z.1 (by decide)⟩ | omega) (by first | decide | exact fun z => absurd z.1 (by decide) | exact ⟨fun z => absurd z.1 (by decide), fun z => absurd z.1 (by decide)⟩ | omega), e3]
  have q05 : M4 0 5 = M1 0 5 := by rw [f4 0 5 (by first | decide | exact fun z => absurd z.1 (by decide) | exact ⟨fun z => absurd z.1 (by decide), fun z => absurd z.1 (by decide)⟩ | omega) (by first | decide | exact fun z => absurd z.1 (by decide) | exact ⟨fun z => absurd z.1 (by decide), fun z => absurd z.1 (by decide)⟩ | omega) (by first | decide | exact fun z => absurd z.1 (by decide) | exact ⟨fun z => absurd z.1 (by decide), fun z => absurd z.1 (by decide)⟩ | omega), f3 0 5 (by first | decide | exact fun z => absurd z.1 (by decide) | exact ⟨fun z => absurd z.1 (by decide), fun z => absurd z.1 (by decide)⟩ | omega) (by first | decide | exact fun z => absurd z.1 (by decide) | exact ⟨fun z => absurd z.1 (by decide), fun z => absurd z.1 (by decide)⟩ | omega), f2 0 5 (by first | decide | exact fun z => absurd z.1 (by decide) | exact ⟨fun z => absurd z.1 (by decide), fun z => absurd z.1 (by decide)⟩ | omega) (by first | decide | exact fun z => absurd z.1 (by decide) | exact ⟨fun z => absurd z.1 (by decide), fun z => absurd z.1 (by decide)⟩ | omega)]
  have q04 : M4 0 4 = (i + 1) % 20 := by rw [f4 0 4 (by first | decide | exact fun z => absurd z.1 (by decide) | exact ⟨fun z => absurd z.1 (by decide), fun z => absurd z.1 (by decide)⟩ | omega) (by first | decide | exact fun z => absurd z.1 (by decide) | exact ⟨fun z => absurd z.1 (by decide), fun z => absurd z.1 (by decide)⟩ | omega) (by first | decide | exact fun z => absurd z.1 (by decide) | exact ⟨fun z => absurd z.1 (by decide), fun z => absurd z.1 (by decide)⟩ | omega), f3 0 4 (by first | decide | exact fun z => absurd z.1 (by decide) | exact ⟨fun z => absurd z.1 (by decide), fun z => absurd z.1 (by decide)⟩ | omega) (by first | decide | exact fun z => absurd z.1 (by decide) | exact ⟨fun z => absurd z.1 (by decide), fun z => absurd z.1 (by decide)⟩ | omega), f2 0 4 (by first | decide | exact fun z => absurd z.1 (by decide) | exact ⟨fun z => absurd z.1 (by decide), fun z => absurd z.1 (by decide)⟩ | omega) (by first | decide | exact fun z => absurd z.1 (by decide) | exact ⟨fun z => absurd z.1 (by decide), fun z => absurd z.1 (by decide)⟩ | omega), n1]
  have m6 : ∀ p : Int, M2 346 p = m0 346 p := fun p => by rw [f2 346 p (by first | decide | exact fun z => absurd z.1 (by decide) | exact ⟨fun z => absurd z.1 (by decide), fun z => absurd z.1 (by decide)⟩ | omega) (by first | decide | exact fun z => absurd z.1 (by decide) | exact ⟨fun z => absurd z.1 (by decide), fun z => absurd z.1 (by decide)⟩ | omega), f1 346 p (by first | decide | exact fun z => absurd z.1 (by decide) | exact ⟨fun z => absurd z.1 (by decide), fun z => absurd z.1 (by decide)⟩ | omega) (by first | decide | exact fun z => absurd z.1 (by decide) | exact ⟨fun z => absurd z.1 (by decide), fun z => absurd z.1 (by decide)⟩ | omega)]
  have m7 : ∀ p : Int, M2 347 p = m0 347 p := fun p => by rw [f2 347 p (by first | decide | exact fun z => absurd z.1 (by decide) | exact ⟨fun z => absurd z.1 (by decide), fun z => absurd z.1 (by decide)⟩ | omega) (by first | decide | exact fun z => absurd z.1 (by decide) | exact ⟨fun z => absurd z.1 (by decide), fun z => absurd z.1 (by decide)⟩ | omega), f1 347 p (by first | decide | exact fun z => absurd z.1 (by decide) | exact ⟨fun z => absurd z.1 (by decide), fun z => absurd z.1 (by decide)⟩ | omega) (by first | decide | exact fun z => absurd z.1 (by decide) | exact ⟨fun z => absurd z.1 (by decide), fun z => absurd z.1 (by decide)⟩ | omega)]
  have m4 : ∀ p : Int, M4 347 p = M3 347 p := fun p => f4 347 p (by first | decide | exact fun z => absurd z.1 (by decide) | exact ⟨fun z => absurd z.1 (by decide), fun z => absurd z.1 (by decide)⟩ | omega) (by first | decide | exact fun z => absurd z.1 (by decide) | exact ⟨fun z => absurd z.1 (by decide), fun z => absurd z.1 (by decide)⟩ | omega) (by first | decide | exact fun z => absurd z.1 (by decide) | exact ⟨fun z => absurd z.1 (by decide), fun z => absurd z.1 (by decide)⟩ | omega)
  have c4 : ∀ c p : Int, 176 ≤ c → c ≤ 335 → M4 c p = M1 c p := fun c p a1 a2 => by rw [f4 c p (by first | exact fun y => absurd (y.1 ▸ z) (by decide) | exact fun y => absurd (y.1 ▸ q) (by decide) | exact z | exact q | exact z.1 | exact q.1 | exact z.2 | exact q.2 | omega) (by omega) (by omega), f3 c p (by first | exact fun y => absurd (y.1 ▸ z) (by decide) | exact fun y => absurd (y.1 ▸ q) (by decide) | exact z | exact q | exact z.1 | exact q.1 | exact z.2 | exact q.2 | omega) (by omega), f2 c p (by first | exact fun y => absurd (y.1 ▸ z) (by decide) | exact fun y => absurd (y.1 ▸ q) (by decide) | exact z | exact q | exact z.1 | exact q.1 | exact z.2 | exact q.2 | omega) (by omega)]
  refine ⟨⟨⟨b.move (fun p q => G p (by omega)), by rw [G 3 (by omega)]; exact b3⟩, t.move b b3 (fun p _ _ => F _ p (by omega) (by omega) (by omega) (by omega) (by omega) (by omega) (by omega) (by omega)) (fun c p q => F _ p (by omega) (by omega) (by omega) (by omega) (by omega) (by omega) (by omega) (by omega)) (fun p q => G p (Or.inl q)), x, xx.move b (F 3 4 (by first | decide | exact fun z => absurd z.1 (by decide) | exact ⟨fun z => absurd z.1 (by decide), fun z => absurd z.1 (by decide)⟩ | omega) (by first | decide | exact fun z => absurd z.1 (by decide) | exact ⟨fun z => absurd z.1 (by decide), fun z => absurd z.1 (by decide)⟩ | omega) (by first | decide | exact fun z => absurd z.1 (by decide) | exact ⟨fun z => absurd z.1 (by decide), fun z => absurd z.1 (by decide)⟩ | omega) (by first | decide | exact fun z => absurd z.1 (by decide) | exact ⟨fun z => absurd z.1 (by decide), fun z => absurd z.1 (by decide)⟩ | omega) (by first | decide | exact fun z => absurd z.1 (by decide) | exact ⟨fun z => absurd z.1 (by decide), fun z => absurd z.1 (by decide)⟩ | omega) (by first | decide | exact fun z => absurd z.1 (by decide) | exact ⟨fun z => absurd z.1 (by decide), fun z => absurd z.1 (by decide)⟩ | omega) (by first | decide | exact fun z => absurd z.1 (by decide) | exact ⟨fun z => absurd z.1 (by decide), fun z => absurd z.1 (by decide)⟩ | omega) (by first | decide | exact fun z => absurd z.1 (by decide) | exact ⟨fun z => absurd z.1 (by decide), fun z => absurd z.1 (by decide)⟩ | omega)) (fun c p c0 c1 _ _ => F _ p (by omega) (by omega) (by omega) (by omega) (by omega) (by omega) (by omega) (by omega)) (fun p p0 p1 => G p (by omega))⟩, fun k k0 k1 => ?_, ?_, fun q q0 q1 => ?_⟩
  · rw [F 357 k (by first | decide | exact fun z => absurd z.1 (by decide) | exact ⟨fun z => absurd z.1 (by decide), fun z => absurd z.1 (by decide)⟩ | omega) (by first | decide | exact fun z => absurd z.1 (by decide) | exact ⟨fun z => absurd z.1 (by decide), fun z => absurd z.1 (by decide)⟩ | omega) (by first | decide | exact fun z => absurd z.1 (by decide) | exact ⟨fun z => absurd z.1 (by decide), fun z => absurd z.1 (by decide)⟩ | omega) (by first | decide | exact fun z => absurd z.1 (by decide) | exact ⟨fun z => absurd z.1 (by decide), fun z => absurd z.1 (by decide)⟩ | omega) (by first | decide | exact fun z => absurd z.1 (by decide) | exact ⟨fun z => absurd z.1 (by decide), fun z => absurd z.1 (by decide)⟩ | omega) (by first | decide | exact fun z => absurd z.1 (by decide) | exact ⟨fun z => absurd z.1 (by decide), fun z => absurd z.1 (by decide)⟩ | omega) (by first | decide | exact fun z => absurd z.1 (by decide) | exact ⟨fun z => absurd z.1 (by decide), fun z => absurd z.1 (by decide)⟩ | omega) (by first | decide | exact fun z => absurd z.1 (by decide) | exact ⟨fun z => absurd z.1 (by decide), fun z => absurd z.1 (by decide)⟩ | omega)]
    refine (im k k0 k1).imp (fun z => z) (fun z => z.same (fun c p c0 c1 => F c p (by omega) (by omega) (by omega) (by omega) (by omega) (by omega) (by omega) (by omega)) (F _ _ (by omega) (by omega) (by omega) (by omega) (by omega) (by omega) (by omega) (by omega)) (fun p p0 p1 => ?_))
    exact F 354 _ (by first | decide | exact fun z => absurd z.1 (by decide) | exact ⟨fun z => absurd z.1 (by decide), fun z => absurd z.1 (by decide)⟩ | omega) (by first | decide | exact fun z => absurd z.1 (by decide) | exact ⟨fun z => absurd z.1 (by decide), fun z => absurd z.1 (by decide)⟩ | omega) (by first | decide | exact fun z => absurd z.1 (by decide) | exact ⟨fun z => absurd z.1 (by decide), fun z => absurd z.1 (by decide)⟩ | omega) (by first | decide | exact fun z => absurd z.1 (by decide) | exact ⟨fun z => absurd z.1 (by decide), fun z => absurd z.1 (by decide)⟩ | omega) (by first | decide | exact fun z => absurd z.1 (by decide) | exact ⟨fun z => absurd z.1 (by decide), fun z => absurd z.1 (by decide)⟩ | omega) (by first | decide | exact fun z => absurd z.1 (by decide) | exact ⟨fun z => absurd z.1 (by decide), fun z => absurd z.1 (by decide)⟩ | omega) (by first | decide | exact fun z => absurd z.1 (by decide) | exact ⟨fun z => absurd z.1 (by decide), fun z => absurd z.1 (by decide)⟩ | omega) (by first | decide | exact fun z => absurd z.1 (by decide) | exact ⟨fun z => absurd z.1 (by decide), fun z => absurd z.1 (by decide)⟩ | omega)
  · rw [q05, q25]
    rcases v1 with z | ⟨z, z2⟩ <;> rcases hs with ⟨y, y2⟩ | ⟨y, y2, y3⟩ <;> omega
  · rw [q25] at q1
    rw [q04, q25]
    have bb : DB (M4 346) := b.move (fun p q => G p (by omega))
    by_cases e : q = u
    · have ex : 176 + 8 * (((i + 1) % 20 + 20 - (u + 1) + q) % 20) = 176 + 8 * i := by omega
      rw [ex, e]
      have D0 : ∀ p : Int, 0 ≤ p → p < 57 → uD M4 u p = m0 346 p := fun p p0 p1 => by
        show M4 347 (57 * u + p) = _
        rw [m4, g3 p p0 p1, m6]
      refine ⟨⟨r.move b (fun p p0 p1 => ?_) (fun c p q => ?_) D0, bb⟩, fun p p1 tq => ?_⟩
      · rw [c4 _ p (by omega) (by omega)]
        rcases (show p = 0 ∨ p = 1 by omega) with z | z <;> subst z
        · exact w0
        · exact w1
      · obtain ⟨p0, q⟩ := q
        rw [c4 _ p (by omega) (by omega)]
        rcases (show c = 1 ∨ c = 2 ∨ c = 3 ∨ c = 4 ∨ c = 5 ∨ c = 6 ∨ c = 7 by omega) with z | z | z | z | z | z | z <;> subst z
        · rw [show 176 + 8 * i + 1 = 177 + 8 * i by omega]; exact (w2 p p0 (by omega)).1
        · rw [show 176 + 8 * i + 2 = 178 + 8 * i by omega]; exact (w2 p p0 (by omega)).2.1
        · rw [show 176 + 8 * i + 3 = 179 + 8 * i by omega]; exact (w2 p p0 (by omega)).2.2
        · rw [show 176 + 8 * i + 4 = 180 + 8 * i by omega]; exact (w3 p p0 (by omega)).1
        · rw [show 176 + 8 * i + 5 = 181 + 8 * i by omega]; exact (w3 p p0 (by omega)).2.1
        · rw [show 176 + 8 * i + 6 = 182 + 8 * i by omega]; exact (w3 p p0 (by omega)).2.2
        · rw [show 176 + 8 * i + 7 = 183 + 8 * i by omega]; exact w4 p p0 (by omega)
      · rw [D0 p (by omega) p1, G p (Or.inl tq)]
    · obtain ⟨d, hd⟩ : ∃ d : Int, d = (if s = 0 then 0 else 1) := ⟨_, rfl⟩
      have ds : s = 57 * d ∧ (d = 0 ∨ d = 1) ∧ (u + d = m0 336 25) := by
        rcases hs with ⟨z, y⟩ | ⟨z, y, y2⟩
        · rw [if_pos z] at hd; omega
        · rw [if_neg (by omega)] at hd; omega
      obtain ⟨o, ho⟩ : ∃ o : Int, o = (m0 0 4 + 20 - m0 336 25 + (q + d)) % 20 := ⟨_, rfl⟩
      have ex : ((i + 1) % 20 + 20 - (u + 1) + q) % 20 = o := by omega
      have on : ¬ o = i ∧ 0 ≤ o ∧ o ≤ 19 := by omega
      rw [ex]
      obtain ⟨⟨sr, _⟩, tl⟩ := pa (q + d) (by omega) (by omega)
      rw [← ho] at sr
      have D0 : ∀ p : Int, 0 ≤ p → p < 57 → uD M4 q p = uD m0 (q + d) p := fun p p0 p1 => by
        show M4 347 (57 * q + p) = m0 347 (57 * (q + d) + p)
        rw [m4, k3 _ (by omega) (by omega), m7]
        congr 1
        omega
      have bq : DB (uD m0 (q + d)) ∨ True := Or.inr trivial
      have bo : ∀ p : Int, tp p → p < 57 → uD m0 (q + d) p = m0 346 p := fun p a1 a2 => tl p a2 a1
      have bd' : DB (fun p => if p = 157 then m0 346 157 else uD m0 (q + d) p) := b.move (fun p z => by
        by_cases z2 : p = 157
        · rw [z2]; rfl
        · show (if p = 157 then m0 346 157 else uD m0 (q + d) p) = _
          rw [if_neg z2]; exact bo p (by omega) (by omega))
      have sr' : SR m0 (176 + 8 * o) (fun p => if p = 157 then m0 346 157 else uD m0 (q + d) p) := by
        obtain ⟨⟨r1, r2⟩, r3, r4, r5, r6⟩ := sr
        obtain ⟨b4, b5, b6, b9, b157⟩ := b
        have e4 := bo 4 (by omega) (by omega)
        have e5 := bo 5 (by omega) (by omega)
        have e6 := bo 6 (by omega) (by omega)
        have N : ∀ p : Int, p < 57 → (fun p : Int => if p = 157 then m0 346 157 else uD m0 (q + d) p) p = uD m0 (q + d) p := fun p z => if_neg (by omega)
        refine ⟨⟨by rw [N 7 (by omega)]; exact r1, by rw [N 8 (by omega)]; exact r2⟩, fun a a0 a1 => ?_, fun a a0 a1 => ?_, fun a a0 a1 => ?_, fun a a0 a1 => ?_⟩
        · rw [N 4 (by omega)] at a1
          have z := r3 a a0 a1
          unfold SRh at z ⊢
          rw [N _ (by omega), N _ (by omega), N _ (by omega)]
          exact z
        · rw [N 5 (by omega)] at a1
          have z := r4 a a0 a1
          unfold SRj at z ⊢
          rw [N _ (by omega), N _ (by omega), N _ (by omega), N _ (by omega), N _ (by omega)]
          exact z
        · rw [N 5 (by omega)] at a0
          exact r5 a a0 a1
        · rw [N 6 (by omega)] at a1
          rw [N _ (by omega)]
          exact r6 a a0 a1
      refine ⟨⟨sr'.move bd' (fun p p0 p1 => ?_) (fun c p z => ?_) (fun p p0 p1 => ?_), bb⟩, fun p p1 tq => ?_⟩
      · rw [c4 _ p (by omega) (by omega), f1 _ p (by omega) (by omega)]
      · rw [c4 _ p (by omega) (by omega), f1 _ p (by omega) (by omega)]
      · show _ = (if p = 157 then m0 346 157 else uD m0 (q + d) p)
        rw [D0 p p0 p1, if_neg (by omega)]
      · rw [D0 p (by omega) p1, tl p p1 tq, G p (Or.inl tq)]
end
section
/-! an ACT begins: what is kept -/
def KP (m0 M1 : Mm) (i : Int) : Prop := i = m0 0 4 ∧ (0 ≤ i ∧ i ≤ 19) ∧ (∀ c p : Int, ¬ (176 + 8 * i ≤ c ∧ c ≤ 183 + 8 * i) → ¬ (c = 0 ∧ (p = 4 ∨ p = 5)) → M1 c p = m0 c p) ∧ M1 0 4 = (i + 1) % 20 ∧ (M1 0 5 = m0 0 5 + 1 ∨ (M1 0 5 = 20 ∧ m0 0 5 = 20)) ∧ (M1 (176 + 8 * i) 0 = m0 16 0 ∧ M1 (176 + 8 * i) 1 = m0 16 1) ∧ (∀ p : Int, 0 ≤ p → p < 5 → M1 (177 + 8 * i) p = m0 17 p ∧ M1 (178 + 8 * i) p = m0 18 p ∧ M1 (179 + 8 * i) p = m0 19 p) ∧ (∀ p : Int, 0 ≤ p → p < 4 → M1 (180 + 8 * i) p = m0 20 p ∧ M1 (181 + 8 * i) p = m0 21 p ∧ M1 (182 + 8 * i) p = m0 22 p) ∧ (∀ p : Int, 0 ≤ p → p < 6 → M1 (183 + 8 * i) p = m0 23 p) ∧ (0 ≤ m0 0 5 ∧ m0 0 5 ≤ 20) ∧ M1 0 5 ≤ 20
def KA (m2 M3 : Mm) (u s : Int) : Prop := (0 ≤ u ∧ u ≤ 19) ∧ M3 336 25 = u + 1 ∧ ((s = 0 ∧ u = m2 336 25) ∨ (s = 57 ∧ u = 19 ∧ m2 336 25 = 20)) ∧ (∀ c p : Int, ¬ c = 347 → ¬ (c = 336 ∧ p = 25) → M3 c p = m2 c p) ∧ (∀ j : Int, 0 ≤ j → j < 57 → M3 347 (57 * u + j) = m2 346 j) ∧ (∀ p : Int, 0 ≤ p → p < 57 * u → M3 347 p = m2 347 (p + s))
theorem KP.f {m0 M1 : Mm} {i : Int} (k : KP m0 M1 i) {c p : Int} (a : ¬ (176 ≤ c ∧ c ≤ 335)) (b : ¬ (c = 0 ∧ (p = 4 ∨ p = 5))) : M1 c p = m0 c p := k.2.2.1 c p (by have := k.2.1; omega) b
theorem KA.f {m2 M3 : Mm} {u s : Int} (k : KA m2 M3 u s) {c p : Int} (a : ¬ c = 347) (b : ¬ (c = 336 ∧ p = 25)) : M3 c p = m2 c p := k.2.2.2.1 c p a b
theorem zk_keepPast {X : Mm} {S : Sh} {m0 : Mm} {K : Mm → Prop} (hS : Shp S) (hm0 : Inv X S m0) (hk : ∀ (i : Int) (M1 : Mm), Inv X S M1 → KP m0 M1 i → K M1) : wp_X11_keepPast S m0 0 K := zx_keepPast hS hm0 (fun i M1 h e i0 i1 f n v w0 w1 w2 w3 w4 => hk i M1 h ⟨e, ⟨i0, i1⟩, f, n, v, ⟨w0, w1⟩, w2, w3, w4, hm0.f_0_5, h.f_0_5.2⟩)
theorem zk_keepsAct {X : Mm} {S : Sh} {m0 : Mm} {K : Mm → Prop} (hS : Shp S) (hm0 : Inv X S m0) (hk : ∀ (u s : Int) (M1 : Mm), Inv X S M1 → KA m0 M1 u s → K M1) : wp_X12_keepsAct S m0 336 K := zx_keepsAct hS hm0 (fun M1 u s h u0 u1 e c f g k => hk u s M1 h ⟨⟨u0, u1⟩, e, c, f, g, k⟩)
theorem zs_isHand11 {X : Mm} {S : Sh} {m : Mm} {K : Int → Mm → Prop} {h : Int} (hS : Shp S) (hm : Inv X S m) (h1 : 0 ≤ h ∧ h < m 4 4 → K 1 m) (h0 : ¬ (0 ≤ h ∧ h < m 4 4) → K 0 m) : wp_X11_isHand S m 0 h K := by
  refine u_X11_isHand ?_
  refine g_if (fun w => g_C ⟨by decide, h0 (by omega)⟩) (fun w => ?_)
  refine g_getr 1 3 rfl hS.k0 hm.f_0_1 (by decide) ?_
  refine g_getr 0 4 rfl hS.k3 hm.f_3_0 (by decide) ?_
  refine g_getu 4 rfl hS.k4 (fun v ev => ?_)
  exact g_if (fun w2 => g_C ⟨by decide, h0 (by omega)⟩) (fun w2 => g_C ⟨by decide, h1 (by omega)⟩)
theorem zs_isJug11 {X : Mm} {S : Sh} {m : Mm} {K : Int → Mm → Prop} {h : Int} (hS : Shp S) (hm : Inv X S m) (h1 : 0 ≤ h ∧ h < m 4 5 → K 1 m) (h0 : ¬ (0 ≤ h ∧ h < m 4 5) → K 0 m) : wp_X11_isJug S m 0 h K := by
  refine u_X11_isJug ?_
  refine g_if (fun w => g_C ⟨by decide, h0 (by omega)⟩) (fun w => ?_)
  refine g_getr 1 3 rfl hS.k0 hm.f_0_1 (by decide) ?_
  refine g_getr 0 4 rfl hS.k3 hm.f_3_0 (by decide) ?_
  refine g_getu 5 rfl hS.k4 (fun v ev => ?_)
  exact g_if (fun w2 => g_C ⟨by decide, h0 (by omega)⟩) (fun w2 => g_C ⟨by decide, h1 (by omega)⟩)
theorem zs_isPlace11 {X : Mm} {S : Sh} {m : Mm} {K : Int → Mm → Prop} {h : Int} (hS : Shp S) (hm : Inv X S m) (h1 : 0 ≤ h ∧ h < m 4 0 → K 1 m) (h0 : ¬ (0 ≤ h ∧ h < m 4 0) → K 0 m) : wp_X11_isPlace S m 0 h K := by
  refine u_X11_isPlace ?_
  refine g_if (fun w => g_C ⟨by decide, h0 (by omega)⟩) (fun w => ?_)
  refine g_getr 1 3 rfl hS.k0 hm.f_0_1 (by decide) ?_
  refine g_getr 0 4 rfl hS.k3 hm.f_3_0 (by decide) ?_
  refine g_getu 0 rfl hS.k4 (fun v ev => ?_)
  exact g_if (fun w2 => g_C ⟨by decide, h0 (by omega)⟩) (fun w2 => g_C ⟨by decide, h1 (by omega)⟩)
theorem zs_isWant11 {X : Mm} {S : Sh} {m : Mm} {K : Int → Mm → Prop} {h : Int} (hS : Shp S) (hm : Inv X S m) (h1 : 0 ≤ h ∧ h < m 4 7 → K 1 m) (h0 : ¬ (0 ≤ h ∧ h < m 4 7) → K 0 m) : wp_X11_isWant S m 0 h K := by
  refine u_X11_isWant ?_
  refine g_if (fun w => g_C ⟨by decide, h0 (by omega)⟩) (fun w => ?_)
  refine g_getr 1 3 rfl hS.k0 hm.f_0_1 (by decide) ?_
  refine g_getr 0 4 rfl hS.k3 hm.f_3_0 (by decide) ?_
  refine g_getu 7 rfl hS.k4 (fun v ev => ?_)
  exact g_if (fun w2 => g_C ⟨by decide, h0 (by omega)⟩) (fun w2 => g_C ⟨by decide, h1 (by omega)⟩)
theorem zs_isHand12 {X : Mm} {S : Sh} {m : Mm} {K : Int → Mm → Prop} {h : Int} (hS : Shp S) (hm : Inv X S m) (h1 : 0 ≤ h ∧ h < m 346 4 → K 1 m) (h0 : ¬ (0 ≤ h ∧ h < m 346 4) → K 0 m) : wp_X12_isHand S m 336 h K := by
  refine u_X12_isHand ?_
  refine g_if (fun w => g_C ⟨by decide, h0 (by omega)⟩) (fun w => ?_)
  refine g_getr 20 346 rfl hS.k336 hm.f_336_20 (by decide) ?_
  refine g_C ?_
  refine g_ldu hS.k346 hS.l346 (by omega) (by omega) (fun v ev => ?_)
  exact g_if (fun w2 => g_C ⟨by decide, h0 (by omega)⟩) (fun w2 => g_C ⟨by decide, h1 (by omega)⟩)
theorem zs_isJug12 {X : Mm} {S : Sh} {m : Mm} {K : Int → Mm → Prop} {h : Int} (hS : Shp S) (hm : Inv X S m) (h1 : 0 ≤ h ∧ h < m 346 5 → K 1 m) (h0 : ¬ (0 ≤ h ∧ h < m 346 5) → K 0 m) : wp_X12_isJug S m 336 h K := by
  refine u_X12_isJug ?_
  refine g_if (fun w => g_C ⟨by decide, h0 (by omega)⟩) (fun w => ?_)
  refine g_getr 20 346 rfl hS.k336 hm.f_336_20 (by decide) ?_
  refine g_C ?_
  refine g_ldu hS.k346 hS.l346 (by omega) (by omega) (fun v ev => ?_)
  exact g_if (fun w2 => g_C ⟨by decide, h0 (by omega)⟩) (fun w2 => g_C ⟨by decide, h1 (by omega)⟩)
theorem zs_isWant12 {X : Mm} {S : Sh} {m : Mm} {K : Int → Mm → Prop} {h : Int} (hS : Shp S) (hm : Inv X S m) (h1 : 0 ≤ h ∧ h < m 346 6 → K 1 m) (h0 : ¬ (0 ≤ h ∧ h < m 346 6) → K 0 m) : wp_X12_isWant S m 336 h K := by
  refine u_X12_isWant ?_
  refine g_if (fun w => g_C ⟨by decide, h0 (by omega)⟩) (fun w => ?_)
  refine g_getr 20 346 rfl hS.k336 hm.f_336_20 (by decide) ?_
  refine g_C ?_
  refine g_ldu hS.k346 hS.l346 (by omega) (by omega) (fun v ev => ?_)
  exact g_if (fun w2 => g_C ⟨by decide, h0 (by omega)⟩) (fun w2 => g_C ⟨by decide, h1 (by omega)⟩)
theorem zs_isPlace12 {X : Mm} {S : Sh} {m : Mm} {K : Int → Mm → Prop} {h : Int} (hS : Shp S) (hm : Inv X S m) (h1 : 0 ≤ h ∧ h < m 346 0 → K 1 m) (h0 : ¬ (0 ≤ h ∧ h < m 346 0) → K 0 m) : wp_X12_isPlace S m 336 h K := by
  refine u_X12_isPlace ?_
  refine g_if (fun w => g_C ⟨by decide, h0 (by omega)⟩) (fun w => ?_)
  refine g_getr 20 346 rfl hS.k336 hm.f_336_20 (by decide) ?_
  refine g_C ?_
  refine g_ldu hS.k346 hS.l346 (by omega) (by omega) (fun v ev => ?_)
  exact g_if (fun w2 => g_C ⟨by decide, h0 (by omega)⟩) (fun w2 => g_C ⟨by decide, h1 (by omega)⟩)
theorem zs_giveTo {X : Mm} {S : Sh} {m : Mm} {K : Mm → Prop} {h j : Int} (hS : Shp S) (hm : Inv X S m) (i0 : 0 ≤ h) (i1 : h ≤ 4) (j0 : 0 ≤ j) (j1 : j ≤ 3) (hk : ∀ M1 : Mm, Inv X S M1 → (∀ c p : Int, ¬ (p = j ∧ (c = 20 ∨ c = 21)) → M1 c p = m c p) → M1 21 j = h → M1 20 j = -1 → K M1) : wp_X5_giveTo S m 16 h j K := by
  have hb : isSt 16 := by decide
  refine u_X5_giveTo ?_
  refine g_getr 6 21 rfl hS.k16 hm.f_16_6 (by decide) ?_
  refine g_st hS.k21 hS.l21 (by omega) (by omega) (hm.waB_5_5 hb j0 (by omega) (by omega) (by omega)) (fun m1 e1 hm1 => ?_)
  have f1 : ∀ c p : Int, ¬ (c = 21 ∧ p = j) → m1 c p = m c p := fun c p q => (congrFun (congrFun e1 _) _).trans (up_ne q)
  have y1 : m1 21 j = h := (congrFun (congrFun e1 _) _).trans (up_at _ _ _ _)
  refine g_getr 5 20 rfl hS.k16 hm1.f_16_5 (by decide) ?_
  refine g_C ?_
  refine g_st hS.k20 hS.l20 (by omega) (by omega) (hm1.waB_5_4 hb j0 (by omega) (by omega) (by omega)) (fun m2 e2 hm2 => ?_)
  have f2 : ∀ c p : Int, ¬ (c = 20 ∧ p = j) → m2 c p = m1 c p := fun c p q => (congrFun (congrFun e2 _) _).trans (up_ne q)
  have y2 : m2 20 j = -1 := (congrFun (congrFun e2 _) _).trans (up_at _ _ _ _)
  exact hk m2 hm2 (fun c p q => by rw [f2 c p (by omega), f1 c p (by omega)]) (by rw [f2 21 j (by omega), y1]) y2
abbrev cTk (m : Mm) (h j : Int) : Prop := (0 ≤ h ∧ h < m 4 4) ∧ (0 ≤ j ∧ j < m 4 5) ∧ (¬ m 20 j = -1 ∧ m 20 j = m 17 h ∧ m 18 h = 0 ∧ bcF (hbt (m 21) h 4) < 2)
theorem zs_take11 {X : Mm} {S : Sh} {m0 : Mm} {K : Int → Mm → Prop} {h j : Int} (hS : Shp S) (hm : Inv X S m0) (h0 : ¬ cTk m0 h j → K (-1) m0) (hk : ∀ (i : Int) (M1 M2 : Mm), cTk m0 h j → KP m0 M1 i → Inv X S M2 → (∀ c p : Int, ¬ (p = j ∧ (c = 20 ∨ c = 21)) → M2 c p = M1 c p) → M2 21 j = h → M2 20 j = -1 → K (hbt (M2 21) h 4) M2) : wp_X11_take S m0 0 h j K := by
  have b4 := hm.f_4_4
  have b5 := hm.f_4_5
  have hb : isSt 16 := by decide
  refine u_X11_take ?_
  refine ⟨hS.k0, ?_⟩
  refine zs_isHand11 hS hm (fun c1 => g_ifF (by decide) ?_) (fun c1 => g_ifT rfl (g_C (h0 (fun z => c1 z.1))))
  refine ⟨hS.k0, ?_⟩
  refine zs_isJug11 hS hm (fun c2 => g_ifF (by decide) ?_) (fun c2 => g_ifT rfl (g_C (h0 (fun z => c2 z.2.1))))
  refine g_getr 1 3 rfl hS.k0 hm.f_0_1 (by decide) ?_
  refine g_getr 1 16 rfl hS.k3 hm.f_3_1 (by decide) ?_
  refine ⟨hS.k16, ?_⟩
  refine zt_canTake hS hm hb (by omega) (by omega) (by omega) (by omega) (fun c3 => g_ifT (by decide) ?_) (fun c3 => g_ifF (by decide) (g_C (h0 (fun z => c3 z.2.2))))
  refine ⟨hS.k0, ?_⟩
  refine zk_keepPast hS hm (fun i m1 hm1 kp => ?_)
  refine g_getr 1 3 rfl hS.k0 hm1.f_0_1 (by decide) ?_
  refine g_getr 1 16 rfl hS.k3 hm1.f_3_1 (by decide) ?_
  refine ⟨hS.k16, ?_⟩
  refine zs_giveTo hS hm1 (by omega) (by omega) (by omega) (by omega) (fun m2 hm2 f2 y21 y20 => ?_)
  refine g_getr 1 3 rfl hS.k0 hm2.f_0_1 (by decide) ?_
  refine g_getr 1 16 rfl hS.k3 hm2.f_3_1 (by decide) ?_
  refine ⟨hS.k16, ?_⟩
  exact zt_heldBits hS hm2 hb (hk i m1 m2 ⟨c1, c2, c3⟩ kp hm2 f2 y21 y20)
theorem zs_takes {X : Mm} {S : Sh} {m : Mm} {K : Mm → Prop} {h j : Int} (hS : Shp S) (hm : Inv X S m) (i0 : -1 ≤ h) (i1 : h ≤ 4) (j0 : 0 ≤ j) (j1 : j ≤ 3) (hk : ∀ M1 : Mm, Inv X S M1 → (∀ c p : Int, ¬ (c = 346 ∧ p = 35 + 4 * j + 1) → M1 c p = m c p) → M1 346 (35 + 4 * j + 1) = h → K M1) : wp_X12_takes S m 336 h j K := by
  refine u_X12_takes ?_
  refine g_getr 20 346 rfl hS.k336 hm.f_336_20 (by decide) ?_
  refine g_C ?_
  refine g_C ?_
  refine g_M (by omega) (by omega) ?_
  refine g_A (by omega) (by omega) ?_
  refine g_C ?_
  refine g_A (by omega) (by omega) ?_
  refine g_st hS.k346 hS.l346 (by omega) (by omega) (wfm_346_36_4_0_3 hm (a := j) (by omega) (by omega) (by omega) (by omega) (by omega)) (fun m1 e1 hm1 => ?_)
  exact hk m1 hm1 (fun c p q => (congrFun (congrFun e1 _) _).trans (up_ne q)) ((congrFun (congrFun e1 _) _).trans (up_at _ _ _ _))
abbrev rTk (m : Mm) (h j : Int) : Prop := (0 ≤ h ∧ h < m 346 4) ∧ (0 ≤ j ∧ j < m 346 5) ∧ (m 346 (10 + 5 * h + 1) = 0 ∧ StR m j ∧ m 346 (35 + 4 * j + 0) = m 346 (10 + 5 * h + 0) ∧ bcF (hbR m h) < 2)
theorem zs_take12 {X : Mm} {S : Sh} {m0 : Mm} {K : Int → Mm → Prop} {h j : Int} (hS : Shp S) (hm : Inv X S m0) (h0 : ¬ rTk m0 h j → K (-1) m0) (hk : ∀ (u s : Int) (M1 M2 : Mm), rTk m0 h j → KA m0 M1 u s → Inv X S M2 → (∀ c p : Int, ¬ (c = 346 ∧ p = 35 + 4 * j + 1) → M2 c p = M1 c p) → M2 346 (35 + 4 * j + 1) = h → K (hbR M2 h) M2) : wp_X12_take S m0 336 h j K := by
  have b4 := hm.f_346_4
  have b5 := hm.f_346_5
  refine u_X12_take ?_
  refine ⟨hS.k336, ?_⟩
  refine zs_isHand12 hS hm (fun c1 => g_ifF (by decide) ?_) (fun c1 => g_ifT rfl (g_C (h0 (fun z => c1 z.1))))
  refine ⟨hS.k336, ?_⟩
  refine zs_isJug12 hS hm (fun c2 => g_ifF (by decide) ?_) (fun c2 => g_ifT rfl (g_C (h0 (fun z => c2 z.2.1))))
  refine ⟨hS.k336, ?_⟩
  refine zt_takeR hS hm (by omega) (by omega) (by omega) (by omega) (fun c3 => g_ifT (by decide) ?_) (fun c3 => g_ifF (by decide) (g_C (h0 (fun z => c3 z.2.2))))
  refine ⟨hS.k336, ?_⟩
  refine zk_keepsAct hS hm (fun u s m1 hm1 ka => ?_)
  refine ⟨hS.k336, ?_⟩
  refine zs_takes hS hm1 (by omega) (by omega) (by omega) (by omega) (fun m2 hm2 f2 y2 => ?_)
  refine ⟨hS.k336, ?_⟩
  exact zt_held hS hm2 (hk u s m1 m2 ⟨c1, c2, c3⟩ ka hm2 f2 y2)
end
section
/-! put, handOn, go of both sides, to the letter -/
abbrev cPt (m : Mm) (h j : Int) : Prop := (0 ≤ h ∧ h < m 4 4) ∧ (0 ≤ j ∧ j < m 4 5) ∧ m 18 h = 0 ∧ m 21 j = h
theorem zs_put11 {X : Mm} {S : Sh} {m0 : Mm} {K : Int → Mm → Prop} {h j : Int} (hS : Shp S) (hm : Inv X S m0) (h0 : ¬ cPt m0 h j → K (-1) m0) (hk : ∀ (i : Int) (M1 M2 : Mm), cPt m0 h j → KP m0 M1 i → Inv X S M2 → (∀ c p : Int, ¬ (p = j ∧ (c = 20 ∨ c = 21)) → M2 c p = M1 c p) → M2 21 j = -1 → M2 20 j = m0 17 h → K (m0 17 h) M2) : wp_X11_put S m0 0 h j K := by
  have b4 := hm.f_4_4
  have b5 := hm.f_4_5
  have hb : isSt 16 := by decide
  refine u_X11_put ?_
  refine ⟨hS.k0, ?_⟩
  refine zs_isHand11 hS hm (fun c1 => g_ifF (by decide) ?_) (fun c1 => g_ifT rfl (g_C (h0 (fun z => c1 z.1))))
  refine ⟨hS.k0, ?_⟩
  refine zs_isJug11 hS hm (fun c2 => g_ifF (by decide) ?_) (fun c2 => g_ifT rfl (g_C (h0 (fun z => c2 z.2.1))))
  refine g_getr 1 3 rfl hS.k0 hm.f_0_1 (by decide) ?_
  refine g_getr 1 16 rfl hS.k3 hm.f_3_1 (by decide) ?_
  refine ⟨hS.k16, ?_⟩
  refine zt_atPlace hS hm hb (by omega) (by omega) (fun c3 => g_ifT (by decide) ?_) (fun c3 => g_ifF (by decide) (g_C (h0 (fun z => c3 z.2.2.1))))
  refine g_getr 1 3 rfl hS.k0 hm.f_0_1 (by decide) ?_
  refine g_getr 1 16 rfl hS.k3 hm.f_3_1 (by decide) ?_
  refine g_getr 6 21 rfl hS.k16 hm.f_16_6 (by decide) ?_
  refine g_ldu hS.k21 hS.l21 (by omega) (by omega) (fun v ev => ?_)
  refine g_if (fun w => ?_) (fun w => g_C (h0 (fun z => w (ev.trans z.2.2.2))))
  refine ⟨hS.k0, ?_⟩
  refine zk_keepPast hS hm (fun i m1 hm1 kp => ?_)
  refine g_getr 1 3 rfl hS.k0 hm1.f_0_1 (by decide) ?_
  refine g_getr 1 16 rfl hS.k3 hm1.f_3_1 (by decide) ?_
  refine g_getr 6 21 rfl hS.k16 hm1.f_16_6 (by decide) ?_
  refine g_C ?_
  refine g_st hS.k21 hS.l21 (by omega) (by omega) (hm1.waB_5_5 hb c2.1 (by omega) (by omega) (by omega)) (fun m2 e2 hm2 => ?_)
  have f2 : ∀ c p : Int, ¬ (c = 21 ∧ p = j) → m2 c p = m1 c p := fun c p q => (congrFun (congrFun e2 _) _).trans (up_ne q)
  have y2 : m2 21 j = -1 := (congrFun (congrFun e2 _) _).trans (up_at _ _ _ _)
  refine g_getr 1 3 rfl hS.k0 hm2.f_0_1 (by decide) ?_
  refine g_getr 1 16 rfl hS.k3 hm2.f_3_1 (by decide) ?_
  refine g_getr 5 20 rfl hS.k16 hm2.f_16_5 (by decide) ?_
  refine g_getr 1 3 rfl hS.k0 hm2.f_0_1 (by decide) ?_
  refine g_getr 1 16 rfl hS.k3 hm2.f_3_1 (by decide) ?_
  refine g_getr 2 17 rfl hS.k16 hm2.f_16_2 (by decide) ?_
  refine g_ldu hS.k17 hS.l17 (by omega) (by omega) (fun v2 ev2 => ?_)
  have q17 : 0 ≤ m2 17 h ∧ m2 17 h ≤ 5 := hm2.aB_5_1 hb (i := h) (by omega) (by omega)
  have r17 : m2 17 h = m0 17 h := by rw [f2 17 h (by omega), kp.f (by omega) (by omega)]
  refine g_st hS.k20 hS.l20 (by omega) (by omega) (hm2.waB_5_4 hb c2.1 (by omega) (by omega) (by omega)) (fun m3 e3 hm3 => ?_)
  have f3 : ∀ c p : Int, ¬ (c = 20 ∧ p = j) → m3 c p = m2 c p := fun c p q => (congrFun (congrFun e3 _) _).trans (up_ne q)
  have y3 : m3 20 j = v2 := (congrFun (congrFun e3 _) _).trans (up_at _ _ _ _)
  refine g_getr 1 3 rfl hS.k0 hm3.f_0_1 (by decide) ?_
  refine g_getr 1 16 rfl hS.k3 hm3.f_3_1 (by decide) ?_
  refine g_getr 2 17 rfl hS.k16 hm3.f_16_2 (by decide) ?_
  refine g_ldu hS.k17 hS.l17 (by omega) (by omega) (fun v3 ev3 => ?_)
  have e4 : v3 = m0 17 h := by rw [ev3, f3 17 h (by omega), r17]
  rw [e4]
  exact hk i m1 m3 ⟨c1, c2, c3, ev.symm.trans w⟩ kp hm3 (fun c p q => by rw [f3 c p (by omega), f2 c p (by omega)]) (by rw [f3 21 j (by omega), y2]) (by rw [y3, ev2, r17])
abbrev rPt (m : Mm) (h j : Int) : Prop := (0 ≤ h ∧ h < m 346 4) ∧ (0 ≤ j ∧ j < m 346 5) ∧ m 346 (35 + 4 * j + 1) = h ∧ m 346 (10 + 5 * h + 1) = 0
theorem zs_put12 {X : Mm} {S : Sh} {m0 : Mm} {K : Int → Mm → Prop} {h j : Int} (hS : Shp S) (hm : Inv X S m0) (h0 : ¬ rPt m0 h j → K (-1) m0) (hk : ∀ (u s : Int) (M1 M2 : Mm), rPt m0 h j → KA m0 M1 u s → Inv X S M2 → (∀ c p : Int, ¬ (c = 346 ∧ (p = 35 + 4 * j + 1 ∨ p = 35 + 4 * j)) → M2 c p = M1 c p) → M2 346 (35 + 4 * j + 1) = -1 → M2 346 (35 + 4 * j) = m0 346 (10 + 5 * h + 0) → K (m0 346 (10 + 5 * h + 0)) M2) : wp_X12_put S m0 336 h j K := by
  have b4 := hm.f_346_4
  have b5 := hm.f_346_5
  refine u_X12_put ?_
  refine ⟨hS.k336, ?_⟩
  refine zs_isHand12 hS hm (fun c1 => g_ifF (by decide) ?_) (fun c1 => g_ifT rfl (g_C (h0 (fun z => c1 z.1))))
  refine ⟨hS.k336, ?_⟩
  refine zs_isJug12 hS hm (fun c2 => g_ifF (by decide) ?_) (fun c2 => g_ifT rfl (g_C (h0 (fun z => c2 z.2.1))))
  refine g_C ?_
  refine ⟨hS.k336, ?_⟩
  refine zt_jugOf hS hm (by omega) (by omega) (by omega) (by omega) ?_
  refine g_if (fun w => g_C (h0 (fun z => w z.2.2.1))) (fun w => ?_)
  refine ⟨hS.k336, ?_⟩
  refine zt_atR hS hm (by omega) (by omega) (fun c3 => g_ifT (by decide) ?_) (fun c3 => g_ifF (by decide) (g_C (h0 (fun z => c3 z.2.2.2))))
  refine ⟨hS.k336, ?_⟩
  refine zk_keepsAct hS hm (fun u s m1 hm1 ka => ?_)
  refine g_getr 20 346 rfl hS.k336 hm1.f_336_20 (by decide) ?_
  refine g_C ?_
  refine g_C ?_
  refine g_M (by omega) (by omega) ?_
  refine g_A (by omega) (by omega) ?_
  refine g_C ?_
  refine g_A (by omega) (by omega) ?_
  refine g_C ?_
  refine g_st hS.k346 hS.l346 (by omega) (by omega) (wfm_346_36_4_0_3 hm1 (a := j) (by omega) (by omega) (by omega) (by omega) (by omega)) (fun m2 e2 hm2 => ?_)
  have f2 : ∀ c p : Int, ¬ (c = 346 ∧ p = 35 + 4 * j + 1) → m2 c p = m1 c p := fun c p q => (congrFun (congrFun e2 _) _).trans (up_ne q)
  have y2 : m2 346 (35 + 4 * j + 1) = -1 := (congrFun (congrFun e2 _) _).trans (up_at _ _ _ _)
  refine g_getr 20 346 rfl hS.k336 hm2.f_336_20 (by decide) ?_
  refine g_C ?_
  refine g_C ?_
  refine g_M (by omega) (by omega) ?_
  refine g_A (by omega) (by omega) ?_
  refine g_C ?_
  refine ⟨hS.k336, ?_⟩
  refine zt_handOf hS hm2 (by omega) (by omega) (by omega) (by omega) ?_
  have r0 : m2 346 (10 + 5 * h + 0) = m0 346 (10 + 5 * h + 0) := by rw [f2 346 _ (by omega), ka.f (by omega) (by omega)]
  have q0 : 0 ≤ m2 346 (10 + 5 * h + 0) ∧ m2 346 (10 + 5 * h + 0) ≤ 5 := fam_346_10_5_0_4 hm2 (a := h) (by omega) (by omega) (by omega)
  have x4 : m0 346 4 = X 346 4 := hm.g (by decide)
  have pp : m2 346 (10 + 5 * h) < X 346 0 := hm2.pl.1.1 h c1.1 (by omega)
  rw [show 10 + 5 * h = 10 + 5 * h + 0 by omega] at pp
  refine g_st hS.k346 hS.l346 (by omega) (by omega) (wfm_346_35_4_0_3 hm2 (a := j) (by omega) (by omega) (by omega) (by omega) (by omega) pp) (fun m3 e3 hm3 => ?_)
  have f3 : ∀ c p : Int, ¬ (c = 346 ∧ p = 35 + 4 * j) → m3 c p = m2 c p := fun c p q => (congrFun (congrFun e3 _) _).trans (up_ne q)
  have y3 : m3 346 (35 + 4 * j) = m2 346 (10 + 5 * h + 0) := (congrFun (congrFun e3 _) _).trans (up_at _ _ _ _)
  refine g_C ?_
  refine ⟨hS.k336, ?_⟩
  refine zt_handOf hS hm3 (by omega) (by omega) (by omega) (by omega) ?_
  rw [f3 346 (10 + 5 * h + 0) (by omega), r0]
  exact hk u s m1 m3 ⟨c1, c2, by omega, c3⟩ ka hm3 (fun c p q => by rw [f3 c p (by omega), f2 c p (by omega)]) (by rw [f3 346 _ (by omega), y2]) (by rw [y3, r0])
abbrev cHo (m : Mm) (j h : Int) : Prop := (0 ≤ h ∧ h < m 4 4) ∧ (0 ≤ j ∧ j < m 4 5) ∧ (0 ≤ m 21 j ∧ m 21 j < m 4 4) ∧ ¬ m 21 j = h ∧ (m 18 (m 21 j) = 0 ∧ m 17 (m 21 j) = m 17 h ∧ m 18 h = 0 ∧ bcF (hbt (m 21) h 4) < 2)
theorem zs_handOn11 {X : Mm} {S : Sh} {m0 : Mm} {K : Int → Mm → Prop} {j h : Int} (hS : Shp S) (hm : Inv X S m0) (h0 : ¬ cHo m0 j h → K (-1) m0) (hk : ∀ (i : Int) (M1 M2 : Mm), cHo m0 j h → KP m0 M1 i → Inv X S M2 → (∀ c p : Int, ¬ (p = j ∧ (c = 20 ∨ c = 21)) → M2 c p = M1 c p) → M2 21 j = h → M2 20 j = -1 → K (m0 21 j) M2) : wp_X11_handOn S m0 0 j h K := by
  have b4 := hm.f_4_4
  have b5 := hm.f_4_5
  have hb : isSt 16 := by decide
  refine u_X11_handOn ?_
  refine ⟨hS.k0, ?_⟩
  refine zs_isHand11 hS hm (fun c1 => g_ifF (by decide) ?_) (fun c1 => g_ifT rfl (g_C (h0 (fun z => c1 z.1))))
  refine ⟨hS.k0, ?_⟩
  refine zs_isJug11 hS hm (fun c2 => g_ifT (by decide) ?_) (fun c2 => g_ifF (by decide) (g_C (h0 (fun z => c2 z.2.1))))
  refine g_getr 1 3 rfl hS.k0 hm.f_0_1 (by decide) ?_
  refine g_getr 1 16 rfl hS.k3 hm.f_3_1 (by decide) ?_
  refine g_getr 6 21 rfl hS.k16 hm.f_16_6 (by decide) ?_
  refine g_ldu hS.k21 hS.l21 (by omega) (by omega) (fun v ev => ?_)
  subst ev
  refine ⟨hS.k0, ?_⟩
  refine zs_isHand11 hS hm (fun c3 => g_ifF (by decide) ?_) (fun c3 => g_ifT rfl (g_C (h0 (fun z => c3 z.2.2.1))))
  refine g_if (fun w => g_C (h0 (fun z => z.2.2.2.1 w))) (fun w => ?_)
  refine g_getr 1 3 rfl hS.k0 hm.f_0_1 (by decide) ?_
  refine g_getr 1 16 rfl hS.k3 hm.f_3_1 (by decide) ?_
  refine ⟨hS.k16, ?_⟩
  refine zt_canGive hS hm hb (by omega) (by omega) (by omega) (by omega) (fun c4 => g_ifT (by decide) ?_) (fun c4 => g_ifF (by decide) (g_C (h0 (fun z => c4 z.2.2.2.2))))
  refine ⟨hS.k0, ?_⟩
  refine zk_keepPast hS hm (fun i m1 hm1 kp => ?_)
  refine g_getr 1 3 rfl hS.k0 hm1.f_0_1 (by decide) ?_
  refine g_getr 1 16 rfl hS.k3 hm1.f_3_1 (by decide) ?_
  refine ⟨hS.k16, ?_⟩
  exact zs_giveTo hS hm1 (by omega) (by omega) (by omega) (by omega) (fun m2 hm2 f2 y21 y20 => hk i m1 m2 ⟨c1, c2, c3, w, c4⟩ kp hm2 f2 y21 y20)
abbrev rHo (m : Mm) (j h : Int) : Prop := (0 ≤ j ∧ j < m 346 5) ∧ (0 ≤ h ∧ h < m 346 4) ∧ 0 ≤ m 346 (35 + 4 * j + 1) ∧ ¬ m 346 (35 + 4 * j + 1) = h ∧ m 346 (10 + 5 * m 346 (35 + 4 * j + 1) + 1) = 0 ∧ m 346 (10 + 5 * h + 1) = 0 ∧ m 346 (10 + 5 * m 346 (35 + 4 * j + 1) + 0) = m 346 (10 + 5 * h + 0) ∧ ¬ bcF (hbR m h) = 2
theorem zs_handOn12 {X : Mm} {S : Sh} {m0 : Mm} {K : Int → Mm → Prop} {j h : Int} (hS : Shp S) (hm : Inv X S m0) (h0 : ¬ rHo m0 j h → K (-1) m0) (hk : ∀ (u s : Int) (M1 M2 : Mm), rHo m0 j h → KA m0 M1 u s → Inv X S M2 → (∀ c p : Int, ¬ (c = 346 ∧ p = 35 + 4 * j + 1) → M2 c p = M1 c p) → M2 346 (35 + 4 * j + 1) = h → K (m0 346 (35 + 4 * j + 1)) M2) : wp_X12_handOn S m0 336 j h K := by
  have b4 := hm.f_346_4
  have b5 := hm.f_346_5
  refine u_X12_handOn ?_
  refine ⟨hS.k336, ?_⟩
  refine zs_isJug12 hS hm (fun c1 => g_ifF (by decide) ?_) (fun c1 => g_ifT rfl (g_C (h0 (fun z => c1 z.1))))
  refine ⟨hS.k336, ?_⟩
  refine zs_isHand12 hS hm (fun c2 => g_ifF (by decide) ?_) (fun c2 => g_ifT rfl (g_C (h0 (fun z => c2 z.2.1))))
  have bj : -1 ≤ m0 346 (35 + 4 * j + 1) ∧ m0 346 (35 + 4 * j + 1) ≤ 4 := fam_346_36_4_0_3 hm (a := j) (by omega) (by omega) (by omega)
  refine g_C ?_
  refine ⟨hS.k336, ?_⟩
  refine zt_jugOf hS hm (by omega) (by omega) (by omega) (by omega) ?_
  refine g_if (fun w => g_C (h0 (fun z => absurd z.2.2.1 (by omega)))) (fun w => ?_)
  refine g_C ?_
  refine ⟨hS.k336, ?_⟩
  refine zt_jugOf hS hm (by omega) (by omega) (by omega) (by omega) ?_
  refine g_if (fun w2 => ?_) (fun w2 => g_C (h0 (fun z => w2 z.2.2.2.1)))
  refine g_C ?_
  refine ⟨hS.k336, ?_⟩
  refine zt_jugOf hS hm (by omega) (by omega) (by omega) (by omega) ?_
  refine ⟨hS.k336, ?_⟩
  refine zt_atR hS hm (by omega) (by omega) (fun c3 => g_ifF (by decide) ?_) (fun c3 => g_ifT rfl (g_C (h0 (fun z => c3 z.2.2.2.2.1))))
  refine ⟨hS.k336, ?_⟩
  refine zt_atR hS hm (by omega) (by omega) (fun c4 => g_ifF (by decide) ?_) (fun c4 => g_ifT rfl (g_C (h0 (fun z => c4 z.2.2.2.2.2.1))))
  refine g_C ?_
  refine ⟨hS.k336, ?_⟩
  refine zt_handOf hS hm (by omega) (by omega) (by omega) (by omega) ?_
  refine g_C ?_
  refine ⟨hS.k336, ?_⟩
  refine zt_handOf hS hm (by omega) (by omega) (by omega) (by omega) ?_
  refine g_if (fun w3 => g_C (h0 (fun z => w3 z.2.2.2.2.2.2.1))) (fun w3 => ?_)
  refine ⟨hS.k336, ?_⟩
  refine zt_held hS hm ?_
  have bb := hbt_15 (f := fun j => m0 346 (36 + 4 * j)) (h := h) (n := (m0 346 5).toNat) (by omega)
  refine zt_bits bb.1 bb.2 ?_
  refine g_C ?_
  refine g_if (fun w4 => ?_) (fun w4 => g_C (h0 (fun z => w4 z.2.2.2.2.2.2.2)))
  refine ⟨hS.k336, ?_⟩
  refine zk_keepsAct hS hm (fun u s m1 hm1 ka => ?_)
  refine ⟨hS.k336, ?_⟩
  exact zs_takes hS hm1 (by omega) (by omega) (by omega) (by omega) (fun m2 hm2 f2 y2 => hk u s m1 m2 ⟨c1, c2, by omega, w2, c3, c4, by omega, w4⟩ ka hm2 f2 y2)
abbrev rMt (D : Int → Int) (a c k : Int) : Prop := (D (57 + 3 * k) = a ∧ D (57 + 3 * k + 1) = c) ∨ (D (57 + 3 * k) = c ∧ D (57 + 3 * k + 1) = a)
theorem zs_roadOf {X : Mm} {S : Sh} {m : Mm} {K : Int → Mm → Prop} {a b : Int} (hS : Shp S) (hm : Inv X S m) (h0 : ¬ Rt (m 346) a b → K 0 m) (hk : ∀ k : Int, 0 ≤ k → k < m 346 3 → rMt (m 346) a b k → K (m 346 (57 + 3 * k + 2)) m) : wp_X12_roadOf S m 336 a b K := by
  have b3 := hm.f_346_3
  refine u_X12_roadOf ?_
  refine g_C ?_
  have L : ∀ (n : Nat) (i : Int), 0 ≤ i → i ≤ m 346 3 → (∀ l : Int, 0 ≤ l → l < i → ¬ rMt (m 346) a b l) → 9 - i ≤ (n : Int) → wp_X12_roadOf_2 S K n 336 a b i m := by
    intro n
    induction n with
    | zero => intro i i0 i1 _ hn; exfalso; omega
    | succ n ih =>
      intro i i0 i1 hi hn
      refine u_X12_roadOf_2 ?_
      refine g_getr 20 346 rfl hS.k336 hm.f_336_20 (by decide) ?_
      refine g_C ?_
      refine g_ldu hS.k346 hS.l346 (by omega) (by omega) (fun v ev => ?_)
      refine g_if (fun w => g_C (h0 (fun z => ?_))) (fun w => ?_)
      · obtain ⟨k, k0, k1, k2⟩ := z
        exact hi k k0 (by omega) k2
      have found : rMt (m 346) a b i → wp_X12_roadOf_68 S K 336 (57 + 3 * i) m := by
        intro q
        refine u_X12_roadOf_68 ?_
        refine g_getr 20 346 rfl hS.k336 hm.f_336_20 (by decide) ?_
        refine g_C ?_
        refine g_A (by omega) (by omega) ?_
        refine g_ldu hS.k346 hS.l346 (by omega) (by omega) (fun v2 ev2 => ?_)
        rw [ev2]
        exact hk i i0 (by omega) q
      have next : ¬ rMt (m 346) a b i → wp_X12_roadOf_78 S (fun a0 a1 a2 a3 M => wp_X12_roadOf_2 S K n a0 a1 a2 a3 M) K 336 a b i m := by
        intro q
        refine u_X12_roadOf_78 ?_
        refine g_A (by omega) (by omega) ?_
        refine ih (i + 1) (by omega) (by omega) (fun l l0 l1 => ?_) (by omega)
        by_cases e : l = i
        · rw [e]; exact q
        · exact hi l l0 (by omega)
      have second : ¬ (m 346 (57 + 3 * i) = a ∧ m 346 (57 + 3 * i + 1) = b) → wp_X12_roadOf_44 S (fun a0 a1 a2 a3 M => wp_X12_roadOf_2 S K n a0 a1 a2 a3 M) K 336 a b i (57 + 3 * i) m := by
        intro q
        refine u_X12_roadOf_44 ?_
        refine g_getr 20 346 rfl hS.k336 hm.f_336_20 (by decide) ?_
        refine g_ldu hS.k346 hS.l346 (by omega) (by omega) (fun v2 ev2 => ?_)
        refine g_if (fun w2 => next (fun z => z.elim q (fun y => w2 (ev2.trans y.1)))) (fun w2 => ?_)
        refine g_getr 20 346 rfl hS.k336 hm.f_336_20 (by decide) ?_
        refine g_C ?_
        refine g_A (by omega) (by omega) ?_
        refine g_ldu hS.k346 hS.l346 (by omega) (by omega) (fun v3 ev3 => ?_)
        exact g_if (fun w3 => next (fun z => z.elim q (fun y => w3 (ev3.trans y.2)))) (fun w3 => found (Or.inr ⟨by omega, by omega⟩))
      refine g_C ?_
      refine g_C ?_
      refine g_M (by omega) (by omega) ?_
      refine g_A (by omega) (by omega) ?_
      refine g_getr 20 346 rfl hS.k336 hm.f_336_20 (by decide) ?_
      refine g_ldu hS.k346 hS.l346 (by omega) (by omega) (fun v2 ev2 => ?_)
      refine g_if (fun w2 => second (fun z => w2 (ev2.trans z.1))) (fun w2 => ?_)
      refine g_getr 20 346 rfl hS.k336 hm.f_336_20 (by decide) ?_
      refine g_C ?_
      refine g_A (by omega) (by omega) ?_
      refine g_ldu hS.k346 hS.l346 (by omega) (by omega) (fun v3 ev3 => ?_)
      exact g_if (fun w3 => found (Or.inl ⟨by omega, by omega⟩)) (fun w3 => second (fun z => w3 (ev3.trans z.2)))
  exact ⟨9, L 9 0 (by omega) (by omega) (fun l l0 l1 => absurd l1 (by omega)) (by omega)⟩
end
