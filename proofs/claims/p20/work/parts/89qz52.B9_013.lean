/-- dairy of the class, then of the reference -/
theorem zz_dairy {S : Sh} {m0 : Mm} {K : Int → Int → Mm → Prop} {K1 : Int → Mm → Prop} {n : Int} (hS : Shp S) (hz : RZ S m0 n) (hn : 0 ≤ n) (hK : ∀ (r : Int) (M : Mm), wp_X12_dairy S M 336 (fun r2 M2 => K r r2 M2) → K1 r M) (hk : ∀ (r : Int) (M1 : Mm), RZ S M1 n → K r r M1) : wp_X11_dairy S m0 0 K1 := by
  have hj := hz.1
  have hm0 := hj.inv
  obtain ⟨jc, xr, ⟨⟨a1, a2, a3⟩, a4, a5⟩⟩ := id hj
  have b1 := hm0.f_1_1
  have hC : TC m0 (fun p => m0 2 p) (m0 1 1) := ⟨rfl, b1, fun p p0 p1 => ⟨rfl, hm0.a_2 p0 (by omega)⟩⟩
  have hR : ∀ M : Mm, M 336 1 = m0 336 1 → (∀ p : Int, M 337 p = m0 337 p) → TR M (fun p => m0 2 p) (m0 1 1) := fun M e f => ⟨e.trans a1.symm, b1, fun p p0 p1 => ⟨(f p).trans (a2 p p0 (by omega)).symm, hm0.a_2 p0 (by omega)⟩⟩
  obtain ⟨D, eD⟩ : ∃ D : Dd, D = fun p => if p < 10 then 0 else m0 342 p := ⟨_, rfl⟩
  have d0 : ∀ p : Int, 0 ≤ p → p < 10 → D p = 0 := fun p _ p1 => by rw [eD]; exact if_pos p1
  have d1 : ∀ p : Int, 10 ≤ p → p < 117 → D p = m0 342 p := fun p p0 _ => by rw [eD]; exact if_neg (by omega)
  refine zu_dairy11 hS jc hC d0 (fun f m1 j1 f1 x1 nf da => ?_) (fun E m1 j1 f1 x1 y34 y05 da tl sq wk => ?_)
  · have g1 : ∀ c p : Int, 336 ≤ c → m1 c p = m0 c p := fun c p z => f1 c p (by unfold fr1_W; omega) (by omega)
    refine hK _ _ ?_
    refine zu_dairy12 hS j1 (hR m1 (g1 336 1 (by decide)) (fun p => g1 337 p (by decide))) d0 (fun p p0 p1 => by rw [g1 342 p (by decide)]; exact d1 p p0 p1) (fun f' m2 j2 f2 l2 x2 _ da2 => ?_) (fun E m2 _ _ _ _ _ da2 _ _ => absurd (da.det da2).1 nf)
    rw [← (da.det da2).1]
    have F : ∀ c p : Int, ¬ fr1_W c p → ¬ fr2_W c p → ¬ (c = 1 ∧ p = 1) → m2 c p = m0 c p := fun c p q1 q2 q3 => by rw [f2 c p q2, f1 c p q1 q3]
    have jx : JX S m2 := by
      refine hj.tape j2 (fun c p hs q1 q2 q3 => F c p ?_ ?_ q1) ?_ ?_
      · unfold fr1_W; omega
      · unfold fr2_W; omega
      · rw [f2 1 1 (by unfold fr2_W; omega), x1, x2]
      · rw [F 0 7 (by unfold fr1_W; omega) (by unfold fr2_W; omega) (by omega), F 336 2 (by unfold fr1_W; omega) (by unfold fr2_W; omega) (by omega)]
        exact a3
    refine hk _ m2 ⟨jx, hz.2.1.same (fun c p q => F c p (by unfold fr1_W; omega) (by unfold fr2_W; omega) (by omega)), ⟨fun k k0 k1 => ?_, ?_⟩, hz.2.2.2.same (fun c p q => F c p (by unfold fr1_W; omega) (by unfold fr2_W; omega) (by omega))⟩
    · rw [F 336 2 (by unfold fr1_W; omega) (by unfold fr2_W; omega) (by omega)] at k1
      obtain ⟨Cs, r1, r2, r3⟩ := hz.2.2.1.1 k k0 k1
      have e2 : m1 336 2 = m0 336 2 := g1 336 2 (by omega)
      refine ⟨Cs, ?_, r2.low k0 (fun c p q => by rw [l2 c p (by unfold lw3; omega), g1 c p (by omega)]), r3⟩
      rw [F 30 k (by unfold fr1_W; omega) (by unfold fr2_W; omega) (by omega)]
      exact r1.same (fun c p q => F c p (by unfold fr1_W; omega) (by unfold fr2_W; omega) (by omega))
    · rw [F 55 1 (by unfold fr1_W; omega) (by unfold fr2_W; omega) (by omega), F 3 2 (by unfold fr1_W; omega) (by unfold fr2_W; omega) (by omega), hz.2.2.1.2]
      by_cases z : m0 3 2 < 0
      · rw [if_pos z, if_pos z]
      · rw [if_neg z, if_neg z, F 30 _ (by unfold fr1_W; omega) (by unfold fr2_W; omega) (by omega)]
  · have g1 : ∀ c p : Int, 336 ≤ c → m1 c p = m0 c p := fun c p z => f1 c p (by unfold fr1_W; omega) (by omega) (by omega) (by omega) (by omega)
    refine hK _ _ ?_
    refine zu_dairy12 hS j1 (hR m1 (g1 336 1 (by decide)) (fun p => g1 337 p (by decide))) d0 (fun p p0 p1 => by rw [g1 342 p (by decide)]; exact d1 p p0 p1) (fun f' m2 _ _ _ _ nf da2 => absurd (da2.det da).1 nf) (fun E' m2 j2 f2 l2 x25 x2 da2 s1 s2 => ?_)
    have eE := (da.det da2).2
    rw [← eE] at s1 ⊢
    have wd := da.wf d0
    obtain ⟨⟨w7, w8⟩, wh, wj, ww, wu, b3, b4, b5, b6, b9⟩ := wd
    have F : ∀ c p : Int, ¬ fr1_W c p → ¬ fr2_W c p → ¬ (c = 1 ∧ p = 1) → ¬ (4 ≤ c ∧ c ≤ 23) → ¬ (c = 3 ∧ p = 4) → ¬ (c = 0 ∧ p = 5) → ¬ c = 346 → ¬ (c = 336 ∧ p = 25) → m2 c p = m0 c p := fun c p q1 q2 q3 q4 q5 q6 q7 q8 => by rw [f2 c p q2 q7 q8, f1 c p q1 q3 q4 q5 q6]
    have G : ∀ c p : Int, c ≤ 335 → m2 c p = m1 c p := fun c p q => f2 c p (by unfold fr2_W; omega) (by omega) (by omega)
    have jx : JX S m2 := by
      refine hj.tape2 j2 (fun c p hs q0 q1 q2 q3 => F c p ?_ ?_ q1 (by omega) (by omega) (by omega) q0 (by omega)) ?_ ?_
      · unfold fr1_W; omega
      · unfold fr2_W; omega
      · rw [G 1 1 (by omega), x1, x2]
      · rw [F 0 7 (by unfold fr1_W; omega) (by unfold fr2_W; omega) (by omega) (by omega) (by omega) (by omega) (by omega) (by omega), F 336 2 (by unfold fr1_W; omega) (by unfold fr2_W; omega) (by omega) (by omega) (by omega) (by omega) (by omega) (by omega)]
        exact a3
    have e157 : m2 346 157 = 0 := s2 157 (by omega) (by omega)
    have db : DB (m2 346) := ⟨by rw [s1 4 (by omega) (by omega)]; exact b4, by rw [s1 5 (by omega) (by omega)]; exact b5, by rw [s1 6 (by omega) (by omega)]; exact b6, by rw [s1 9 (by omega) (by omega)]; exact b9, by omega⟩
    have hm2 := j2.inv
    have dbE : DB (fun p => if p = 157 then 0 else E p) := ⟨b4, b5, b6, b9, by show (0 : Int) ≤ (if (157 : Int) = 157 then 0 else E 157) ∧ (if (157 : Int) = 157 then 0 else E 157) ≤ 10; rw [if_pos rfl]; decide⟩
    have eE' : ∀ p : Int, 0 ≤ p → p < 117 → m2 346 p = (fun p => if p = 157 then 0 else E p) p := fun p p0 p1 => by
      show _ = (if p = 157 then 0 else E p)
      rw [if_neg (by omega), s1 p p0 p1]
    have tlE : TL 4 (fun p => if p = 157 then 0 else E p) m1 := by
      have N : ∀ p : Int, ¬ p = 157 → (fun p : Int => if p = 157 then 0 else E p) p = E p := fun p q => if_neg q
      obtain ⟨⟨c0, c1, c2, c3, c4, c5, c6, c7⟩, r, hs, ts, ws⟩ := tl
      refine ⟨⟨c0, c1, c2, c3, c4, c5, c6, c7⟩, fun a c a0 a5 c0 c5 => ?_, fun i i0 i1 => ?_, fun i i0 i1 => ?_, fun i i0 i1 => ?_⟩
      · rcases r a c a0 a5 c0 c5 with ⟨e, nr⟩ | ⟨e, k, k0, k1, k2, k3⟩
        · refine Or.inl ⟨e, fun q => nr ?_⟩
          obtain ⟨k, k0, k1, k2⟩ := q
          have k1 : k < E 3 := k1
          rw [N _ (by omega), N _ (by omega)] at k2
          exact ⟨k, k0, k1, k2⟩
        · refine Or.inr ⟨e, k, k0, k1, ?_, ?_⟩
          · rw [N _ (by omega), N _ (by omega)]; exact k2
          · rw [N _ (by omega)]; exact k3
      · have i1 : i < E 4 := i1
        rw [N _ (by omega), N _ (by omega)]; exact hs i i0 i1
      · have i1 : i < E 9 := i1
        rw [N _ (by omega), N _ (by omega), N _ (by omega)]; exact ts i i0 i1
      · have i1 : i < E 6 := i1
        rw [N _ (by omega), N _ (by omega), N _ (by omega), N _ (by omega)]; exact ws i i0 i1
    have tl2 : TL 4 (m2 346) m2 := tlE.move dbE b3.2 (fun p _ _ => G _ p (by omega)) (fun c p q => G _ p (by unfold inT at q; omega)) (fun p q => eE' p (by unfold tp at q; omega) (by unfold tp at q; omega))
    obtain ⟨⟨q0, q1⟩, q2, q3, q4, q5, q6, q7⟩ := sq
    have sr2 : SR m2 16 (m2 346) := by
      refine ⟨⟨?_, ?_⟩, fun i i0 i1 => ⟨?_, ?_, ?_⟩, fun j j0 j1 => ?_, fun j j0 j1 => ⟨?_, ?_⟩, fun w w0 w1 => ?_⟩
      · rw [G 16 0 (by omega), q0, s1 7 (by omega) (by omega), w7]
      · rw [G 16 1 (by omega), q1, s1 8 (by omega) (by omega), w8]
      · rw [s1 4 (by omega) (by omega)] at i1
        rw [s1 _ (by omega) (by omega)]
        show m2 17 i = _
        rw [G 17 i (by omega)]; exact q2 i i0 i1
      · rw [s1 4 (by omega) (by omega)] at i1
        rw [s1 _ (by omega) (by omega), (wh i i0 i1).1]
        show m2 18 i = _
        rw [G 18 i (by omega)]; exact (q3 i i0 (by omega)).1
      · rw [s1 4 (by omega) (by omega)] at i1
        rw [s1 _ (by omega) (by omega), (wh i i0 i1).2]
        show m2 19 i = _
        rw [G 19 i (by omega)]; exact (q3 i i0 (by omega)).2
      · rw [s1 5 (by omega) (by omega)] at j1
        have bj : 0 ≤ m2 346 (35 + 4 * j) := (fam_346_35_4_0_3 hm2 (a := j) (i := 35 + 4 * j) (by omega) (by omega) (by omega)).1
        have x1' := s1 (35 + 4 * j) (by omega) (by omega)
        have x2' := s1 (35 + 4 * j + 1) (by omega) (by omega)
        have x3' := s1 (35 + 4 * j + 2) (by omega) (by omega)
        have x4' := s1 (35 + 4 * j + 3) (by omega) (by omega)
        have y1 := wj j j0 j1
        have y2 := q4 j j0 j1
        refine ⟨?_, ?_, Or.inl ⟨?_, by omega, by omega, bj⟩⟩
        · show m2 21 j = _
          rw [G 21 j (by omega), q5 j j0 (by omega)]; omega
        · show m2 22 j = _
          rw [G 22 j (by omega)]; omega
        · show m2 20 j = _
          rw [G 20 j (by omega)]; omega
      · rw [s1 5 (by omega) (by omega)] at j0
        show m2 20 j = _
        rw [G 20 j (by omega)]; exact q7 j j0 j1
      · rw [s1 5 (by omega) (by omega)] at j0
        show m2 21 j = _
        rw [G 21 j (by omega)]; exact q5 j (by omega) j1
      · rw [s1 6 (by omega) (by omega)] at w1
        rw [s1 _ (by omega) (by omega), ww w w0 w1]
        show m2 23 w = _
        rw [G 23 w (by omega)]; exact q6 w w0 (by omega)
    have tt2 : TT m2 3 (m2 346) := ⟨by rw [G 3 4 (by omega), y34, e157], fun i i0 i1 => absurd i1 (by omega)⟩
    have uq2 : UQ (m2 346) := wu.move b3.2 (fun p q => s1 p (by omega) (by omega))
    obtain ⟨_, ⟨rd, im, eu, pa⟩, cr, xz⟩ := id hz
    have F0 : ∀ c p : Int, 76 ≤ c → c ≤ 357 → ¬ fr2_W c p → ¬ c = 346 → ¬ (c = 336 ∧ p = 25) → m2 c p = m0 c p := fun c p z1 z2 z3 z4 z5 => F c p (by unfold fr1_W; omega) z3 (by omega) (by omega) (by omega) (by omega) z4 z5
    refine hk _ m2 ⟨jx, ⟨⟨⟨db, by rw [s1 3 (by omega) (by omega)]; exact b3.2⟩, tl2, sr2, tt2⟩, fun k k0 k1 => ?_, ?_, fun r r0 r1 => absurd r1 (by omega)⟩, ⟨fun k k0 k1 => ?_, ?_⟩, ?_⟩
    · rw [F0 357 k (by omega) (by omega) (by unfold fr2_W; omega) (by omega) (by omega), show iD m2 k = iD m0 k from funext (fun p => F0 354 _ (by omega) (by omega) (by unfold fr2_W; omega) (by omega) (by omega))]
      exact (im k k0 k1).imp (fun z => z) (fun z => z.same (fun c p c0 c1 => F0 c p (by omega) (by omega) (by unfold fr2_W; omega) (by omega) (by omega)) (F0 _ 4 (by omega) (by omega) (by unfold fr2_W; omega) (by omega) (by omega)) (fun p _ _ => rfl))
    · rw [G 0 5 (by omega), y05, x25]
    · have e2 : m2 336 2 = m0 336 2 := F0 336 2 (by omega) (by omega) (by unfold fr2_W; omega) (by omega) (by omega)
      have e2' : m1 336 2 = m0 336 2 := g1 336 2 (by omega)
      rw [e2] at k1
      obtain ⟨Cs, r1, r2, r3⟩ := cr.1 k k0 k1
      refine ⟨Cs, ?_, r2.low k0 (fun c p q => by rw [l2 c p (by unfold lw3; omega), g1 c p (by omega)]), r3⟩
      rw [F 30 k (by unfold fr1_W; omega) (by unfold fr2_W; omega) (by omega) (by omega) (by omega) (by omega) (by omega) (by omega)]
      exact r1.same (fun c p q => F c p (by unfold fr1_W; omega) (by unfold fr2_W; omega) (by omega) (by omega) (by omega) (by omega) (by omega) (by omega))
    · rw [F 55 1 (by unfold fr1_W; omega) (by unfold fr2_W; omega) (by omega) (by omega) (by omega) (by omega) (by omega) (by omega), F 3 2 (by unfold fr1_W; omega) (by unfold fr2_W; omega) (by omega) (by omega) (by omega) (by omega) (by omega) (by omega), cr.2]
      by_cases z : m0 3 2 < 0
      · rw [if_pos z, if_pos z]
      · rw [if_neg z, if_neg z, F 30 _ (by unfold fr1_W; omega) (by unfold fr2_W; omega) (by omega) (by omega) (by omega) (by omega) (by omega) (by omega)]
    · obtain ⟨xs, xb, xc, xd, xe, xf⟩ := xz
      refine ⟨⟨?_, fun _ => ?_, ?_, ?_⟩, fun k k0 k1 => (xb k k0 k1).move (F0 _ _ (by omega) (by omega) (by unfold fr2_W; omega) (by omega) (by omega)) (F0 _ _ (by omega) (by omega) (by unfold fr2_W; omega) (by omega) (by omega)) (F0 _ _ (by omega) (by omega) (by unfold fr2_W; omega) (by omega) (by omega)) (fun p _ _ => F0 _ _ (by omega) (by omega) (by unfold fr2_W; omega) (by omega) (by omega)) (fun p _ _ => F0 _ _ (by omega) (by omega) (by unfold fr2_W; omega) (by omega) (by omega)) (fun p _ _ => F0 _ _ (by omega) (by omega) (by unfold fr2_W; omega) (by omega) (by omega)), fun r r0 r1 => ?_, uq2, fun k k0 k1 => ?_, ?_⟩
      · show m2 16 0 ≤ n
        rw [G 16 0 (by omega), q0]; exact hn
      · rw [G 3 4 (by omega), y34]
      · exact wk.move (G _ _ (by omega)) (fun p _ _ => G _ _ (by omega)) (fun p _ _ => G _ _ (by omega))
      · intro g g0
        have e : hbt (m2 (3 + 18)) g 4 = 0 := by
          have h0 : ∀ p : Int, 0 ≤ p → p < 4 → m2 (3 + 18) p = -1 := fun p p0 p1 => by
            show m2 21 p = -1
            rw [G 21 p (by omega), q5 p p0 p1]
          have := hbt_ext (f := m2 (3 + 18)) (h := g) (n := 0) 4 (fun j j0 j1 => by rw [h0 j (by omega) (by omega)]; omega)
          exact this
        rw [e]; decide
      · rw [F0 _ 0 (by omega) (by omega) (by unfold fr2_W; omega) (by omega) (by omega)]
        exact ⟨(xc r r0 r1).1, (xc r r0 r1).2.move (fun p _ _ => F0 _ _ (by omega) (by omega) (by unfold fr2_W; omega) (by omega) (by omega))⟩
      · rw [F0 357 k (by omega) (by omega) (by unfold fr2_W; omega) (by omega) (by omega), show iD m2 k = iD m0 k from funext (fun p => F0 354 _ (by omega) (by omega) (by unfold fr2_W; omega) (by omega) (by omega))]; exact xe k k0 k1
      · rw [F 55 2 (by unfold fr1_W; omega) (by unfold fr2_W; omega) (by omega) (by omega) (by omega) (by omega) (by omega) (by omega), F0 336 23 (by omega) (by omega) (by unfold fr2_W; omega) (by omega) (by omega)]; exact xf
