/-- an ACT: the class keeps its STATE and changes it, the reference keeps its row and changes it -/
theorem RW.act {m0 M1 M2 M3 M4 : Mm} {i u s : Int} (R : RW m0) (ei : i = m0 0 4) (i0 : 0 ≤ i) (i1 : i ≤ 19) (f1 : ∀ c p : Int, ¬ (176 + 8 * i ≤ c ∧ c ≤ 183 + 8 * i) → ¬ (c = 0 ∧ (p = 4 ∨ p = 5)) → M1 c p = m0 c p) (n1 : M1 0 4 = (i + 1) % 20) (v1 : M1 0 5 = m0 0 5 + 1 ∨ (M1 0 5 = 20 ∧ m0 0 5 = 20)) (w0 : M1 (176 + 8 * i) 0 = m0 16 0) (w1 : M1 (176 + 8 * i) 1 = m0 16 1) (w2 : ∀ p : Int, 0 ≤ p → p < 5 → M1 (177 + 8 * i) p = m0 17 p ∧ M1 (178 + 8 * i) p = m0 18 p ∧ M1 (179 + 8 * i) p = m0 19 p) (w3 : ∀ p : Int, 0 ≤ p → p < 4 → M1 (180 + 8 * i) p = m0 20 p ∧ M1 (181 + 8 * i) p = m0 21 p ∧ M1 (182 + 8 * i) p = m0 22 p) (w4 : ∀ p : Int, 0 ≤ p → p < 6 → M1 (183 + 8 * i) p = m0 23 p) (f2 : ∀ c p : Int, ¬ (16 ≤ c ∧ c ≤ 23) → ¬ (55 ≤ c ∧ c ≤ 75) → M2 c p = M1 c p) (u0 : 0 ≤ u) (u1 : u ≤ 19) (e3 : M3 336 25 = u + 1) (hs : (s = 0 ∧ u = M2 336 25) ∨ (s = 57 ∧ u = 19 ∧ M2 336 25 = 20)) (f3 : ∀ c p : Int, ¬ c = 347 → ¬ (c = 336 ∧ p = 25) → M3 c p = M2 c p) (g3 : ∀ j : Int, 0 ≤ j → j < 57 → M3 347 (57 * u + j) = M2 346 j) (k3 : ∀ p : Int, 0 ≤ p → p < 57 * u → M3 347 p = M2 347 (p + s)) (f4 : ∀ c p : Int, ¬ (c = 346 ∧ 0 ≤ p ∧ p < 57 ∧ ¬ tp p) → ¬ (344 ≤ c ∧ c ≤ 345) → ¬ (c = 336 ∧ p = 18) → M4 c p = M3 c p) (b0 : 0 ≤ m0 0 5 ∧ m0 0 5 ≤ 20) (b1 : M1 0 5 ≤ 20) (x : SR M4 16 (M4 346)) : RW M4 := by
  obtain ⟨⟨⟨b, b3⟩, t, r, xx⟩, im, eu, pa⟩ := R
  have F : ∀ c p : Int, ¬ (176 + 8 * i ≤ c ∧ c ≤ 183 + 8 * i) → ¬ (c = 0 ∧ (p = 4 ∨ p = 5)) → ¬ (16 ≤ c ∧ c ≤ 23) → ¬ (55 ≤ c ∧ c ≤ 75) → ¬ c = 347 → ¬ (c = 336 ∧ (p = 25 ∨ p = 18)) → ¬ (c = 346 ∧ 0 ≤ p ∧ p < 57 ∧ ¬ tp p) → ¬ (344 ≤ c ∧ c ≤ 345) → M4 c p = m0 c p := fun c p a1 a2 a3 a4 a5 a6 a7 a8 => by
    rw [f4 c p a7 a8 (fun z => a6 ⟨z.1, Or.inr z.2⟩), f3 c p a5 (fun z => a6 ⟨z.1, Or.inl z.2⟩), f2 c p a3 a4, f1 c p a1 a2]
  have G : ∀ p : Int, (tp p ∨ ¬ (0 ≤ p ∧ p < 57)) → M4 346 p = m0 346 p := fun p q => F 346 p (by omega) (by omega) (by omega) (by omega) (by omega) (by omega) (fun z => q.elim (fun y => z.2.2.2 y) (fun y => y ⟨z.2.1, z.2.2.1⟩)) (by omega)
  have e25 : M2 336 25 = m0 336 25 := by rw [f2 336 25 (by omega) (by omega), f1 336 25 (by omega) (by omega)]
  have q25 : M4 336 25 = u + 1 := by rw [f4 336 25 (by omega) (by omega) (by omega), e3]
  have q05 : M4 0 5 = M1 0 5 := by rw [f4 0 5 (by omega) (by omega) (by omega), f3 0 5 (by omega) (by omega), f2 0 5 (by omega) (by omega)]
  have q04 : M4 0 4 = (i + 1) % 20 := by rw [f4 0 4 (by omega) (by omega) (by omega), f3 0 4 (by omega) (by omega), f2 0 4 (by omega) (by omega), n1]
  have m6 : ∀ p : Int, M2 346 p = m0 346 p := fun p => by rw [f2 346 p (by omega) (by omega), f1 346 p (by omega) (by omega)]
  have m7 : ∀ p : Int, M2 347 p = m0 347 p := fun p => by rw [f2 347 p (by omega) (by omega), f1 347 p (by omega) (by omega)]
  have m4 : ∀ p : Int, M4 347 p = M3 347 p := fun p => f4 347 p (by omega) (by omega) (by omega)
  have c4 : ∀ c p : Int, 176 ≤ c → c ≤ 335 → M4 c p = M1 c p := fun c p a1 a2 => by rw [f4 c p (by omega) (by omega) (by omega), f3 c p (by omega) (by omega), f2 c p (by omega) (by omega)]
  refine ⟨⟨⟨b.move (fun p q => G p (by omega)), by rw [G 3 (by omega)]; exact b3⟩, t.move b b3 (fun p _ _ => F _ p (by omega) (by omega) (by omega) (by omega) (by omega) (by omega) (by omega) (by omega)) (fun c p q => F _ p (by omega) (by omega) (by omega) (by omega) (by omega) (by omega) (by omega) (by omega)) (fun p q => G p (Or.inl q)), x, xx.move b (F 3 4 (by omega) (by omega) (by omega) (by omega) (by omega) (by omega) (by omega) (by omega)) (fun c p c0 c1 _ _ => F _ p (by omega) (by omega) (by omega) (by omega) (by omega) (by omega) (by omega) (by omega)) (fun p p0 p1 => G p (by omega))⟩, fun k k0 k1 => ?_, ?_, fun q q0 q1 => ?_⟩
  · rw [F 357 k (by omega) (by omega) (by omega) (by omega) (by omega) (by omega) (by omega) (by omega)]
    refine (im k k0 k1).imp (fun z => z) (fun z => z.same (fun c p c0 c1 => F c p (by omega) (by omega) (by omega) (by omega) (by omega) (by omega) (by omega) (by omega)) (F _ _ (by omega) (by omega) (by omega) (by omega) (by omega) (by omega) (by omega) (by omega)) (fun p p0 p1 => ?_))
    exact F 354 _ (by omega) (by omega) (by omega) (by omega) (by omega) (by omega) (by omega) (by omega)
  · rw [q05, q25]
    rcases v1 with z | ⟨z, z2⟩ <;> rcases hs with ⟨y, y2⟩ | ⟨y, y2, y3⟩ <;> omega
  · rw [q25] at q1
    rw [q04, q25]
    have bb : DB (M4 346) := b.move (fun p q => G p (by omega))
    by_cases e : q = u
    · have ex : 176 + 8 * (((i + 1) % 20 + 20 - (u + 1) + q) % 20) = 176 + 8 * i := by omega
      rw [ex, e]
      have D0 : ∀ p : Int, 0 ≤ p → p < 57 → uD M4 u p = m0 346 p := fun p p0 p1 => by
        show M4 347 (57 * u + p) = _
        rw [m4, g3 p p0 p1, m6]
      refine ⟨⟨r.move b (fun p p0 p1 => ?_) (fun c p q => ?_) D0, bb⟩, fun p p1 tq => ?_⟩
      · rw [c4 _ p (by omega) (by omega)]
        rcases (show p = 0 ∨ p = 1 by omega) with z | z <;> subst z
        · exact w0
        · exact w1
      · obtain ⟨p0, q⟩ := q
        rw [c4 _ p (by omega) (by omega)]
        rcases (show c = 1 ∨ c = 2 ∨ c = 3 ∨ c = 4 ∨ c = 5 ∨ c = 6 ∨ c = 7 by omega) with z | z | z | z | z | z | z <;> subst z
        · rw [show 176 + 8 * i + 1 = 177 + 8 * i by omega]; exact (w2 p p0 (by omega)).1
        · rw [show 176 + 8 * i + 2 = 178 + 8 * i by omega]; exact (w2 p p0 (by omega)).2.1
        · rw [show 176 + 8 * i + 3 = 179 + 8 * i by omega]; exact (w2 p p0 (by omega)).2.2
        · rw [show 176 + 8 * i + 4 = 180 + 8 * i by omega]; exact (w3 p p0 (by omega)).1
        · rw [show 176 + 8 * i + 5 = 181 + 8 * i by omega]; exact (w3 p p0 (by omega)).2.1
        · rw [show 176 + 8 * i + 6 = 182 + 8 * i by omega]; exact (w3 p p0 (by omega)).2.2
        · rw [show 176 + 8 * i + 7 = 183 + 8 * i by omega]; exact w4 p p0 (by omega)
      · rw [D0 p (by omega) p1, G p (Or.inl tq)]
    · obtain ⟨d, hd⟩ : ∃ d : Int, d = (if s = 0 then 0 else 1) := ⟨_, rfl⟩
      have ds : s = 57 * d ∧ (d = 0 ∨ d = 1) ∧ (u + d = m0 336 25) := by
        rcases hs with ⟨z, y⟩ | ⟨z, y, y2⟩
        · rw [if_pos z] at hd; omega
        · rw [if_neg (by omega)] at hd; omega
      obtain ⟨o, ho⟩ : ∃ o : Int, o = (m0 0 4 + 20 - m0 336 25 + (q + d)) % 20 := ⟨_, rfl⟩
      have ex : ((i + 1) % 20 + 20 - (u + 1) + q) % 20 = o := by omega
      have on : ¬ o = i ∧ 0 ≤ o ∧ o ≤ 19 := by omega
      rw [ex]
      obtain ⟨⟨sr, _⟩, tl⟩ := pa (q + d) (by omega) (by omega)
      rw [← ho] at sr
      have D0 : ∀ p : Int, 0 ≤ p → p < 57 → uD M4 q p = uD m0 (q + d) p := fun p p0 p1 => by
        show M4 347 (57 * q + p) = m0 347 (57 * (q + d) + p)
        rw [m4, k3 _ (by omega) (by omega), m7]
        congr 1
        omega
      have bq : DB (uD m0 (q + d)) ∨ True := Or.inr trivial
      have bo : ∀ p : Int, tp p → p < 57 → uD m0 (q + d) p = m0 346 p := fun p a1 a2 => tl p a2 a1
      have bd' : DB (fun p => if p = 157 then m0 346 157 else uD m0 (q + d) p) := b.move (fun p z => by
        by_cases z2 : p = 157
        · rw [z2]; rfl
        · show (if p = 157 then m0 346 157 else uD m0 (q + d) p) = _
          rw [if_neg z2]; exact bo p (by omega) (by omega))
      have sr' : SR m0 (176 + 8 * o) (fun p => if p = 157 then m0 346 157 else uD m0 (q + d) p) := by
        obtain ⟨⟨r1, r2⟩, r3, r4, r5, r6⟩ := sr
        obtain ⟨b4, b5, b6, b9, b157⟩ := b
        have e4 := bo 4 (by omega) (by omega)
        have e5 := bo 5 (by omega) (by omega)
        have e6 := bo 6 (by omega) (by omega)
        have N : ∀ p : Int, p < 57 → (fun p : Int => if p = 157 then m0 346 157 else uD m0 (q + d) p) p = uD m0 (q + d) p := fun p z => if_neg (by omega)
        refine ⟨⟨by rw [N 7 (by omega)]; exact r1, by rw [N 8 (by omega)]; exact r2⟩, fun a a0 a1 => ?_, fun a a0 a1 => ?_, fun a a0 a1 => ?_, fun a a0 a1 => ?_⟩
        · rw [N 4 (by omega)] at a1
          have z := r3 a a0 a1
          unfold SRh at z ⊢
          rw [N _ (by omega), N _ (by omega), N _ (by omega)]
          exact z
        · rw [N 5 (by omega)] at a1
          have z := r4 a a0 a1
          unfold SRj at z ⊢
          rw [N _ (by omega), N _ (by omega), N _ (by omega), N _ (by omega), N _ (by omega)]
          exact z
        · rw [N 5 (by omega)] at a0
          exact r5 a a0 a1
        · rw [N 6 (by omega)] at a1
          rw [N _ (by omega)]
          exact r6 a a0 a1
      refine ⟨⟨sr'.move bd' (fun p p0 p1 => ?_) (fun c p z => ?_) (fun p p0 p1 => ?_), bb⟩, fun p p1 tq => ?_⟩
      · rw [c4 _ p (by omega) (by omega), f1 _ p (by omega) (by omega)]
      · rw [c4 _ p (by omega) (by omega), f1 _ p (by omega) (by omega)]
      · show _ = (if p = 157 then m0 346 157 else uD m0 (q + d) p)
        rw [D0 p p0 p1, if_neg (by omega)]
      · rw [D0 p (by omega) p1, tl p p1 tq, G p (Or.inl tq)]
