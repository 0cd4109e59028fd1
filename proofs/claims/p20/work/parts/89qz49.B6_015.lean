/-- all stays but the TESTS -/
theorem RZ.tests {S : Sh} {M M' : Mm} {n : Int} (h : RZ S M n) (j : JX S M') (F : ∀ c p : Int, ¬ (c = 3 ∧ p = 4) → ¬ (24 ≤ c ∧ c ≤ 27) → ¬ (c = 346 ∧ 117 ≤ p) → M' c p = M c p) (t : TT M' 3 (M' 346)) (b : 0 ≤ M' 346 157 ∧ M' 346 157 ≤ 10) (z : M' 4 0 = 0 → M' 3 4 = 0) : RZ S M' n := by
  obtain ⟨_, ⟨⟨⟨⟨b4, b5, b6, b9, b157⟩, b3⟩, tl, sr, tt⟩, im, eu, pa⟩, cr, xz⟩ := h
  have G : ∀ p : Int, p < 117 → M' 346 p = M 346 p := fun p q => F 346 p (by omega) (by omega) (by omega)
  have db : DB (M 346) := ⟨b4, b5, b6, b9, b157⟩
  refine ⟨j, ⟨⟨⟨⟨?_, ?_, ?_, ?_, b⟩, ?_⟩, ?_, ?_, t⟩, fun k k0 k1 => ?_, ?_, fun r r0 r1 => ?_⟩, cr.same (fun c p q => F c p (by omega) (by omega) (by omega)), ?_⟩
  · rw [G 4 (by omega)]; exact b4
  · rw [G 5 (by omega)]; exact b5
  · rw [G 6 (by omega)]; exact b6
  · rw [G 9 (by omega)]; exact b9
  · rw [G 3 (by omega)]; exact b3
  · exact tl.move db b3 (fun p _ _ => F _ p (by omega) (by omega) (by omega)) (fun c p q => F _ p (by omega) (by omega) (by omega)) (fun p q => G p (by omega))
  · exact sr.move db (fun p _ _ => F _ p (by omega) (by omega) (by omega)) (fun c p q => F _ p (by omega) (by omega) (by omega)) (fun p _ _ => G p (by omega))
  · rw [F 357 k (by omega) (by omega) (by omega), show iD M' k = iD M k from funext (fun p => F 354 _ (by omega) (by omega) (by omega))]
    exact (im k k0 k1).imp (fun z => z) (fun z => z.same (fun c p c0 c1 => F c p (by omega) (by omega) (by omega)) (F _ 4 (by omega) (by omega) (by omega)) (fun p _ _ => rfl))
  · rw [F 0 5 (by omega) (by omega) (by omega), F 336 25 (by omega) (by omega) (by omega)]; exact eu
  · rw [F 336 25 (by omega) (by omega) (by omega)] at r1 ⊢
    rw [F 0 4 (by omega) (by omega) (by omega)]
    obtain ⟨o, ho⟩ : ∃ o : Int, o = (M 0 4 + 20 - M 336 25 + r) % 20 := ⟨_, rfl⟩
    obtain ⟨⟨sr', _⟩, tl'⟩ := pa r r0 r1
    rw [← ho] at sr' ⊢
    have ob : 0 ≤ o ∧ o ≤ 19 := by omega
    have eD : uD M' r = uD M r := funext (fun p => F 347 _ (by omega) (by omega) (by omega))
    have x4 := tl' 4 (by omega) (by omega)
    have x5 := tl' 5 (by omega) (by omega)
    have x6 := tl' 6 (by omega) (by omega)
    refine ⟨⟨?_, ⟨by rw [G 4 (by omega)]; exact b4, by rw [G 5 (by omega)]; exact b5, by rw [G 6 (by omega)]; exact b6, by rw [G 9 (by omega)]; exact b9, b⟩⟩, fun p p1 q => ?_⟩
    · rw [eD]
      exact sr'.mv (by omega) (by omega) (by omega) (by omega) (fun p _ _ => F _ p (by omega) (by omega) (by omega)) (fun c p q => F _ p (by omega) (by omega) (by omega)) (fun p _ _ => rfl)
    · rw [eD, G p (by omega)]; exact tl' p p1 q
  · obtain ⟨⟨s1, s2, s3, s4⟩, xb, xc, xd, xe, xf⟩ := xz
    refine ⟨⟨?_, z, ?_, ?_⟩, fun k k0 k1 => (xb k k0 k1).move (F _ _ (by omega) (by omega) (by omega)) (F _ _ (by omega) (by omega) (by omega)) (F _ _ (by omega) (by omega) (by omega)) (fun p _ _ => F _ _ (by omega) (by omega) (by omega)) (fun p _ _ => F _ _ (by omega) (by omega) (by omega)) (fun p _ _ => F _ _ (by omega) (by omega) (by omega)), fun r r0 r1 => ?_, ?_, fun k k0 k1 => ?_, ?_⟩
    · rw [F _ 0 (by omega) (by omega) (by omega)]; exact s1
    · exact s3.move (F _ _ (by omega) (by omega) (by omega)) (fun p _ _ => F _ _ (by omega) (by omega) (by omega)) (fun p _ _ => F _ _ (by omega) (by omega) (by omega))
    · exact s4.move (fun p _ _ => F _ _ (by omega) (by omega) (by omega))
    · rw [F _ 0 (by omega) (by omega) (by omega)]
      exact ⟨(xc r r0 r1).1, (xc r r0 r1).2.move (fun p _ _ => F _ _ (by omega) (by omega) (by omega))⟩
    · exact xd.move b3 (fun p q => G p (by omega))
    · rw [F 357 k (by omega) (by omega) (by omega), show iD M' k = iD M k from funext (fun p => F 354 _ (by omega) (by omega) (by omega))]; exact xe k k0 k1
    · rw [F 55 2 (by omega) (by omega) (by omega), F 336 23 (by omega) (by omega) (by omega)]; exact xf
