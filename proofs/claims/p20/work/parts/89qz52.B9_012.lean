theorem zu_dairy11 {S : Sh} {m0 : Mm} {K : Int → Mm → Prop} {tb : Int → Int} {tn : Int} {D : Dd} (hS : Shp S) (hj : Jc S m0) (hC : TC m0 tb tn) (hD0 : ∀ p : Int, 0 ≤ p → p < 10 → D p = 0) (hf : ∀ (f : Int) (M1 : Mm), Jc S M1 → (∀ c p : Int, ¬ fr1_W c p → ¬ (c = 1 ∧ p = 1) → M1 c p = m0 c p) → M1 1 1 = 0 → ¬ f = 0 → DA tb tn 0 0 0 0 0 D f dz → K (-2 - f) M1) (hk : ∀ (E : Dd) (M1 : Mm), Jc S M1 → (∀ c p : Int, ¬ fr1_W c p → ¬ (c = 1 ∧ p = 1) → ¬ (4 ≤ c ∧ c ≤ 23) → ¬ (c = 3 ∧ p = 4) → ¬ (c = 0 ∧ p = 5) → M1 c p = m0 c p) → M1 1 1 = 0 → M1 3 4 = 0 → M1 0 5 = 0 → DA tb tn 0 0 0 0 0 D 0 E → TL 4 E M1 → SQ E M1 → Wok (M1 4 0) (M1 5) (M1 6) → K (E 5) M1) : wp_X11_dairy S m0 0 K := by
  obtain ⟨X, eX⟩ : ∃ X : Mm, X = sf m0 := ⟨_, rfl⟩
  have hm0 : Inv X S m0 := by rw [eX]; exact hj.inv
  have xe : ∀ c p : Int, ¬ c = -1 → X c p = m0 c p := fun c p h => by rw [eX]; exact sf_e m0 h
  have hCX : TC X tb tn := ⟨(xe 1 1 (by decide)).trans hC.1, hC.2.1, fun p p0 p1 => ⟨(xe 2 p (by decide)).trans (hC.2.2 p p0 p1).1, (hC.2.2 p p0 p1).2⟩⟩
  refine u_X11_dairy ?_
  refine g_getr 8 31 rfl hS.k0 hm0.f_0_8 (by decide) ?_
  refine ⟨hS.k31, ?_⟩
  have three : ∀ m2 : Mm, Inv X S m2 → fr1_F m0 m2 → ∀ m3 : Mm, m3 = up m2 1 1 0 → Jc S m3 ∧ (∀ c p : Int, ¬ fr1_W c p → ¬ (c = 1 ∧ p = 1) → m3 c p = m0 c p) ∧ m3 1 1 = 0 := by
    intro m2 hm2 fr m3 em3
    refine ⟨by rw [em3]; exact (Jc.of hm2).len11 (by decide) (by decide), fun c p hs q => by rw [em3, up_ne q, fr c p hs], by rw [em3]; exact up_at _ _ _ _⟩
  refine fz_X0_read hm0 (fun _ _ _ => rfl) ?_
  refine zn_read (T := fun f E => DA tb tn 0 0 0 0 0 D f E) hS hm0 hCX hD0 (fun f E h => h) (fun m2 hm2 f2 n2 t2 fr => ?_) (fun m2 E hm2 f2 lc wk2 t2 fr => ?_)
  · refine g_getr 0 1 rfl hS.k0 hm2.f_0_0 (by decide) ?_
    refine g_C ?_
    refine g_putR 1 rfl hS.k1 (fun m3 em3 => ?_)
    obtain ⟨j3, f3, x3⟩ := three m2 hm2 fr m3 em3
    have hm3 := j3.inv
    have e4 : m3 1 4 = m2 1 4 := by rw [em3]; exact up_ne (by omega)
    refine g_ifF (by decide) ?_
    refine g_C ?_
    refine g_getr 0 1 rfl hS.k0 hm3.f_0_0 (by decide) ?_
    refine g_get 4 (0) (4000) rfl hS.k1 hm3.f_1_4 (fun v ev bv cv => ?_)
    refine g_S (by omega) (by omega) ?_
    rw [ev, e4]
    exact hf _ m3 j3 f3 x3 n2 t2
  · refine g_getr 0 1 rfl hS.k0 hm2.f_0_0 (by decide) ?_
    refine g_C ?_
    refine g_putR 1 rfl hS.k1 (fun m3 em3 => ?_)
    obtain ⟨j3, f3, x3⟩ := three m2 hm2 fr m3 em3
    have hm3 := j3.inv
    have e5 : m3 32 5 = E 5 := by rw [em3, up_ne (by omega)]; exact lc.1.2.2.2.2.2.1
    refine g_ifT (by decide) ?_
    refine g_getr 1 3 rfl hS.k0 hm3.f_0_1 (by decide) ?_
    refine g_getr 0 4 rfl hS.k3 hm3.f_3_0 (by decide) ?_
    refine g_getr 8 31 rfl hS.k0 hm3.f_0_8 (by decide) ?_
    refine g_getr 1 32 rfl hS.k31 hm3.f_31_1 (by decide) ?_
    refine ⟨hS.k4, ?_⟩
    refine zb_told hS hm3 (by decide) (by decide) (by decide) (fun m5 hm5 f5 c0 c1 c2 c3 c4 y5 c6 c7 w1 w2 w3 w4 w5 w6 w7 w8 w9 w10 w11 => ?_)
    refine g_getr 1 3 rfl hS.k0 hm5.f_0_1 (by decide) ?_
    refine g_getr 1 16 rfl hS.k3 hm5.f_3_1 (by decide) ?_
    refine g_getr 8 31 rfl hS.k0 hm5.f_0_8 (by decide) ?_
    refine g_getr 2 44 rfl hS.k31 hm5.f_31_2 (by decide) ?_
    refine ⟨hS.k16, ?_⟩
    refine zb_state hS hm5 (by decide) (by decide) (by decide) (fun m6 hm6 f6 v0 v1 q1 q2 q3 q4 q5 q6 q7 => ?_)
    refine g_getr 1 3 rfl hS.k0 hm6.f_0_1 (by decide) ?_
    refine g_C ?_
    refine g_put 4 rfl hS.k3 (hm6.w_3_4 (by omega) (by omega)) (fun m7 em7 hm7 => ?_)
    refine g_C ?_
    refine g_put 5 rfl hS.k0 (hm7.w_0_5 (by omega) (by omega)) (fun m8 em8 hm8 => ?_)
    refine g_getr 1 3 rfl hS.k0 hm8.f_0_1 (by decide) ?_
    refine g_getr 0 4 rfl hS.k3 hm8.f_3_0 (by decide) ?_
    refine g_getu 5 rfl hS.k4 (fun v ev => ?_)
    have f8 : ∀ c p : Int, ¬ (c = 3 ∧ p = 4) → ¬ (c = 0 ∧ p = 5) → m8 c p = m6 c p := fun c p a1 a2 => by rw [em8, up_ne a2, em7, up_ne a1]
    have ev' : v = E 5 := by rw [ev, f8 4 5 (by omega) (by omega), f6 4 5 (by omega), y5, e5]
    rw [ev']
    have y34 : m8 3 4 = 0 := by rw [em8, up_ne (by omega), em7]; exact up_at _ _ _ _
    have y05 : m8 0 5 = 0 := by rw [em8]; exact up_at _ _ _ _
    have g3' : ∀ c p : Int, 32 ≤ c → m3 c p = m2 c p := fun c p a1 => by rw [em3]; exact up_ne (by omega)
    have sq : SQ E m8 := by
      obtain ⟨lc1, lr, lh, lj, lt, lw, ⟨⟨l0, l1⟩, l2, l3, l4, l5⟩⟩ := id lc
      have b4 := hm2.f_32_4
      have b5 := hm2.f_32_5
      have e4 : m2 32 4 = E 4 := lc1.2.2.2.2.1
      have e5' : m2 32 5 = E 5 := lc1.2.2.2.2.2.1
      have G : ∀ c p : Int, 16 ≤ c → c ≤ 23 → m8 c p = m6 c p := fun c p a1 a2 => f8 c p (by omega) (by omega)
      have H : ∀ c p : Int, 44 ≤ c → c ≤ 51 → m5 c p = m2 c p := fun c p a1 a2 => by rw [f5 c p (by omega), g3' c p (by omega)]
      refine ⟨⟨?_, ?_⟩, fun i i0 i1 => ?_, fun i i0 i1 => ⟨?_, ?_⟩, fun i i0 i1 => ⟨?_, ?_⟩, fun i i0 i1 => ?_, fun i i0 i1 => ?_, fun i i0 i1 => ?_⟩
      · rw [G 16 0 (by omega) (by omega), v0, H 44 0 (by omega) (by omega), l0]
      · rw [G 16 1 (by omega) (by omega), v1, H 44 1 (by omega) (by omega), l1]
      · rw [G 17 i (by omega) (by omega)]
        exact (q1 i i0 (by omega)).trans ((H 45 i (by omega) (by omega)).trans (lh i i0 i1).1)
      · rw [G 18 i (by omega) (by omega)]
        exact (q2 i i0 (by omega)).trans ((H 46 i (by omega) (by omega)).trans (l2 i i0 i1).1)
      · rw [G 19 i (by omega) (by omega)]
        exact (q3 i i0 (by omega)).trans ((H 47 i (by omega) (by omega)).trans (l2 i i0 i1).2)
      · rw [G 20 i (by omega) (by omega)]
        exact (q4 i i0 (by omega)).trans ((H 48 i (by omega) (by omega)).trans (lj i i0 i1).1)
      · rw [G 22 i (by omega) (by omega)]
        exact (q6 i i0 (by omega)).trans ((H 50 i (by omega) (by omega)).trans (lj i i0 i1).2)
      · rw [G 21 i (by omega) (by omega)]
        exact (q5 i i0 (by omega)).trans ((H 49 i (by omega) (by omega)).trans (l3 i i0 i1))
      · rw [G 23 i (by omega) (by omega)]
        exact (q7 i i0 (by omega)).trans ((H 51 i (by omega) (by omega)).trans (l4 i i0 i1))
      · rw [G 20 i (by omega) (by omega)]
        exact (q4 i (by omega) (by omega)).trans ((H 48 i (by omega) (by omega)).trans (l5 i (by omega) i0 i1))
    refine hk E m8 (Jc.of hm8) (fun c p hs q w1 w2 w3 => by rw [f8 c p w2 w3, f6 c p (by omega), f5 c p (by omega), f3 c p hs q]) (by rw [hm8.g (c := 1) (p := 1) (by decide), sf_e m3 (by decide), x3]) y34 y05 t2 ?_ sq (wk2.move (by rw [f8 4 0 (by omega) (by omega), f6 4 0 (by omega), c0, g3' 32 0 (by omega)]) (fun p p0 p1 => by rw [f8 5 p (by omega) (by omega), f6 5 p (by omega)]; exact (w1 p p0 p1).trans (g3' 33 p (by omega))) (fun p p0 p1 => by rw [f8 6 p (by omega) (by omega), f6 6 p (by omega)]; exact (w2 p p0 p1).trans (g3' 34 p (by omega))))
    have g8 : ∀ c p : Int, 4 ≤ c → c ≤ 15 → m8 c p = m5 c p := fun c p a1 a2 => by rw [f8 c p (by omega) (by omega), f6 c p (by omega)]
    have g3 : ∀ c p : Int, 32 ≤ c → m3 c p = m2 c p := fun c p a1 => by rw [em3]; exact up_ne (by omega)
    refine lc.told hm2 (fun i i0 i1 => ?_) (fun p p0 p1 => ?_) (fun p p0 p1 => ⟨?_, ?_⟩) (fun p p0 p1 => ⟨?_, ?_, ?_⟩) (fun p p0 p1 => ⟨?_, ?_, ?_, ?_⟩)
    · rw [g8 4 i (by decide) (by decide), ← g3 32 i (by decide)]
      rcases (show i = 0 ∨ i = 1 ∨ i = 2 ∨ i = 3 ∨ i = 4 ∨ i = 5 ∨ i = 6 ∨ i = 7 by omega) with e | e | e | e | e | e | e | e <;> subst e <;> assumption
    · rw [g8 5 p (by decide) (by decide), ← g3 33 p (by decide)]; exact w1 p p0 p1
    · rw [g8 7 p (by decide) (by decide), ← g3 35 p (by decide)]; exact w3 p p0 p1
    · rw [g8 8 p (by decide) (by decide), ← g3 36 p (by decide)]; exact w4 p p0 p1
    · rw [g8 9 p (by decide) (by decide), ← g3 37 p (by decide)]; exact w5 p p0 p1
    · rw [g8 10 p (by decide) (by decide), ← g3 38 p (by decide)]; exact w6 p p0 p1
    · rw [g8 11 p (by decide) (by decide), ← g3 39 p (by decide)]; exact w7 p p0 p1
    · rw [g8 12 p (by decide) (by decide), ← g3 40 p (by decide)]; exact w8 p p0 p1
    · rw [g8 13 p (by decide) (by decide), ← g3 41 p (by decide)]; exact w9 p p0 p1
    · rw [g8 14 p (by decide) (by decide), ← g3 42 p (by decide)]; exact w10 p p0 p1
    · rw [g8 15 p (by decide) (by decide), ← g3 43 p (by decide)]; exact w11 p p0 p1
