theorem zx_image12 {S : Sh} {m0 : Mm} {K : Int → Mm → Prop} {u1 : Int} (hS : Shp S) (hj : Jc S m0) (h0 : ¬ (0 ≤ u1 ∧ u1 ≤ 3) → K (-1) m0) (hk : ∀ (r : Int) (M1 : Mm), 0 ≤ u1 → u1 ≤ 3 → Jc S M1 → r = m0 346 7 → (∀ c p : Int, ¬ (c = 354 ∧ 158 * u1 ≤ p ∧ p < 158 * u1 + 158) → ¬ ((c = 355 ∨ c = 356 ∨ c = 357) ∧ p = u1) → M1 c p = m0 c p) → (∀ j : Int, 0 ≤ j → j < 158 → M1 354 (158 * u1 + j) = m0 346 j) → M1 356 u1 = m0 336 22 → M1 357 u1 = 1 → M1 355 u1 = m0 336 21 → K r M1) : wp_X12_image S m0 336 u1 K := by
  have hm0 := hj.inv
  refine u_X12_image ?_
  refine g_C ?_
  refine g_C ?_
  refine g_C ?_
  refine z_in (fun a b => ?_) (fun c => g_ifF (by decide) (g_C (h0 (by omega))))
  refine g_ifT (by decide) ?_
  refine g_getr 37 357 rfl hS.k336 hm0.f_336_37 (by decide) ?_
  refine g_C ?_
  refine g_stzR hS.k357 hS.l357 (by omega) (by omega) (by decide) (fun m1 e1 => ?_)
  have f1 : ∀ c p : Int, ¬ (c = 357 ∧ p = u1) → m1 c p = m0 c p := fun c p q => (congrFun (congrFun e1 _) _).trans (up_ne q)
  have y1 : m1 357 u1 = 1 := (congrFun (congrFun e1 _) _).trans (up_at _ _ _ _)
  refine g_getr 35 355 rfl hS.k336 ((f1 336 35 (by omega)).trans hm0.f_336_35) (by decide) ?_
  refine g_getu 21 rfl hS.k336 (fun v ev => ?_)
  rw [f1 336 21 (by omega)] at ev
  refine g_stR hS.k355 hS.l355 (by omega) (by omega) (fun m2 e2 => ?_)
  have f2 : ∀ c p : Int, ¬ (c = 355 ∧ p = u1) → m2 c p = m1 c p := fun c p q => (congrFun (congrFun e2 _) _).trans (up_ne q)
  have y2 : m2 355 u1 = v := (congrFun (congrFun e2 _) _).trans (up_at _ _ _ _)
  refine g_getr 36 356 rfl hS.k336 ((f2 336 36 (by omega)).trans ((f1 336 36 (by omega)).trans hm0.f_336_36)) (by decide) ?_
  refine g_getu 22 rfl hS.k336 (fun x ex => ?_)
  rw [f2 336 22 (by omega), f1 336 22 (by omega)] at ex
  refine g_stR hS.k356 hS.l356 (by omega) (by omega) (fun m3 e3 => ?_)
  have f3 : ∀ c p : Int, ¬ (c = 356 ∧ p = u1) → m3 c p = m2 c p := fun c p q => (congrFun (congrFun e3 _) _).trans (up_ne q)
  have y3 : m3 356 u1 = x := (congrFun (congrFun e3 _) _).trans (up_at _ _ _ _)
  have F3 : ∀ c p : Int, ¬ ((c = 355 ∨ c = 356 ∨ c = 357) ∧ p = u1) → m3 c p = m0 c p := fun c p q => by rw [f3 c p (by omega), f2 c p (by omega), f1 c p (by omega)]
  have z355 : m3 355 u1 = m0 336 21 := by rw [f3 355 _ (by omega), y2, ev]
  have z357 : m3 357 u1 = 1 := by rw [f3 357 _ (by omega), f2 357 _ (by omega), y1]
  have z356 : m3 356 u1 = m0 336 22 := by rw [y3, ex]
  refine g_C ?_
  have fin : ∀ m : Mm, (∀ c p : Int, ¬ (c = 354 ∧ 158 * u1 ≤ p ∧ p < 158 * u1 + 158) → m c p = m3 c p) → (∀ j : Int, 0 ≤ j → j < 158 → m 354 (158 * u1 + j) = m0 346 j) → Jc S m := by
    intro m f hc
    have F : ∀ c p : Int, ¬ (c = 354 ∧ 158 * u1 ≤ p ∧ p < 158 * u1 + 158) → ¬ ((c = 355 ∨ c = 356 ∨ c = 357) ∧ p = u1) → m c p = m0 c p := fun c p q1 q2 => (f c p q1).trans (F3 c p q2)
    have bH := hm0.f_346_4
    have bJ := hm0.f_346_5
    have b21 := hm0.f_336_21
    have b22 := hm0.f_336_22
    refine hj.chg (fun c p hc' hp => ?_) (fun i => F 30 i (by omega) (by omega)) (F 55 1 (by omega) (by omega)) ?_ ?_
    · by_cases z : (c : Int) = 354 ∧ 158 * u1 ≤ (p : Int) ∧ (p : Int) < 158 * u1 + 158
      · have z1 : c = 354 := by omega
        subst z1
        refine Or.inr ?_
        obtain ⟨j, hj'⟩ : ∃ j : Nat, (p : Int) = 158 * u1 + j := ⟨((p : Int) - 158 * u1).toNat, by omega⟩
        have e : p = 158 * u1.toNat + j := by omega
        have q := hj.1 346 j (by decide) (by rw [pT_said.1]; omega)
        rw [show ((354 : Nat) : Int) = 354 from rfl, hj', hc j (by omega) (by omega), e, bq_354 _ (by omega) j (by omega)]
        exact q
      · by_cases z2 : ((c : Int) = 355 ∨ (c : Int) = 356 ∨ (c : Int) = 357) ∧ (p : Int) = u1
        · refine Or.inr ?_
          rw [f c p z]
          obtain ⟨z3, z4⟩ := z2
          rw [z4]
          rcases z3 with z3 | z3 | z3
          · have z5 : c = 355 := by omega
            rw [z3, z355, z5, bd_u (b := (-1, 5)) (by decide +kernel)]
            exact Or.inr b21
          · have z5 : c = 356 := by omega
            rw [z3, z356, z5, bd_u (b := (0, 2147483647)) (by decide +kernel)]
            exact Or.inr b22
          · have z5 : c = 357 := by omega
            rw [z3, z357, z5, bd_u (b := (0, 1)) (by decide +kernel)]
            exact Or.inr ⟨by decide, by decide⟩
        · exact Or.inl (F c p z z2)
    · obtain ⟨ga, gb, gc, gd⟩ := hj.2.2.2.1
      unfold Good
      rw [F 336 21 (by omega) (by omega), F 336 2 (by omega) (by omega)]
      refine ⟨ga, fun k k0 k1 => ?_, gc, fun t t0 t1 => ?_⟩
      · by_cases e : k = u1
        · rw [e, f 355 _ (by omega), z355]; exact Or.inr ga
        · rw [F 355 k (by omega) (by omega), F 357 k (by omega) (by omega)]; exact gb k k0 k1
      · exact rulOK_same (gd t t0 t1) (F 341 _ (by omega) (by omega)) (fun p _ _ => F 340 p (by omega) (by omega)) (fun p _ _ => F 338 p (by omega) (by omega))
    · obtain ⟨p1, p2, p3⟩ := hj.2.2.2.2
      have e7 : m 347 = m0 347 := funext (fun p => F 347 p (by omega) (by omega))
      have e6 : m 346 = m0 346 := funext (fun p => F 346 p (by omega) (by omega))
      unfold PL3
      rw [F 336 25 (by omega) (by omega), e7, e6]
      refine ⟨p1, p2, fun k k0 k1 => ?_⟩
      by_cases e : k = u1
      · rw [e]
        have e0 : m 354 (158 * u1) = m0 346 0 := by
          have := hc 0 (by decide) (by decide)
          rw [Int.add_zero] at this
          exact this
        unfold PlOK
        rw [hc 4 (by decide) (by decide), hc 5 (by decide) (by decide), e0]
        refine ⟨fun a a0 a1 => ?_, fun a a0 a1 => ?_⟩
        · show m 354 (158 * u1 + (10 + 5 * a)) < _
          rw [hc _ (by omega) (by omega)]
          exact p1.1 a a0 a1
        · show m 354 (158 * u1 + (35 + 4 * a)) < _
          rw [hc _ (by omega) (by omega)]
          exact p1.2 a a0 a1
      · obtain ⟨q1, q2⟩ := p3 k k0 k1
        have bP4 := hj.bnd 354 (158 * k.toNat + 4) 0 5 (by decide) (by rw [pT_said.2.2.1]; omega) (by rw [bq_354 _ (by omega) 4 (by decide)]; exact bd_said.2.1) (by decide)
        have bP5 := hj.bnd 354 (158 * k.toNat + 5) 0 4 (by decide) (by rw [pT_said.2.2.1]; omega) (by rw [bq_354 _ (by omega) 5 (by decide)]; exact bd_said.2.2) (by decide)
        rw [show ((354 : Nat) : Int) = 354 from rfl, show ((158 * k.toNat + 4 : Nat) : Int) = 158 * k + 4 by omega] at bP4
        rw [show ((354 : Nat) : Int) = 354 from rfl, show ((158 * k.toNat + 5 : Nat) : Int) = 158 * k + 5 by omega] at bP5
        have G : ∀ j : Int, 0 ≤ j → j < 158 → m 354 (158 * k + j) = m0 354 (158 * k + j) := fun j j0 j1 => F 354 _ (by omega) (by omega)
        have G0 : m 354 (158 * k) = m0 354 (158 * k) := F 354 _ (by omega) (by omega)
        unfold PlOK
        rw [G 4 (by decide) (by decide), G 5 (by decide) (by decide), G0]
        refine ⟨fun a a0 a1 => ?_, fun a a0 a1 => ?_⟩
        · show m 354 (158 * k + (10 + 5 * a)) < _
          rw [G _ (by omega) (by omega)]
          exact q1 a a0 a1
        · show m 354 (158 * k + (35 + 4 * a)) < _
          rw [G _ (by omega) (by omega)]
          exact q2 a a0 a1
  have L : ∀ (n : Nat) (k : Int) (m : Mm), 0 ≤ k → k ≤ 158 → (∀ c p : Int, ¬ (c = 354 ∧ 158 * u1 ≤ p ∧ p < 158 * u1 + 158) → m c p = m3 c p) → (∀ j : Int, 0 ≤ j → j < k → m 354 (158 * u1 + j) = m0 346 j) → 159 - k ≤ (n : Int) → wp_X12_image_43 S K n 336 u1 k m := by
    intro n
    induction n with
    | zero => intro k m _ _ _ _ h; exfalso; omega
    | succ n ih =>
      intro k m k0 k1 f hc h
      have e20 : m 336 20 = 346 := by rw [f 336 20 (by omega), F3 336 20 (by omega)]; exact hm0.f_336_20
      have e34 : m 336 34 = 354 := by rw [f 336 34 (by omega), F3 336 34 (by omega)]; exact hm0.f_336_34
      refine u_X12_image_43 ?_
      refine g_C ?_
      refine g_if (fun w2 => ?_) (fun w2 => ?_)
      · refine g_getr 20 346 rfl hS.k336 e20 (by decide) ?_
        refine g_C ?_
        refine g_ldu hS.k346 hS.l346 (by omega) (by omega) (fun v3 ev3 => ?_)
        refine hk _ m a b (fin m f (fun j j0 j1 => hc j j0 (by omega))) (by rw [ev3, f 346 7 (by omega), F3 346 7 (by omega)]) (fun c p q q2 => ?_) (fun j j0 j1 => hc j j0 (by omega)) ?_ ?_ ?_
        · rw [f c p q, F3 c p q2]
        · rw [f 356 _ (by omega), z356]
        · rw [f 357 _ (by omega), z357]
        · rw [f 355 _ (by omega), z355]
      · refine g_getr 34 354 rfl hS.k336 e34 (by decide) ?_
        refine g_C ?_
        refine g_M (by omega) (by omega) ?_
        refine g_A (by omega) (by omega) ?_
        refine g_getr 20 346 rfl hS.k336 e20 (by decide) ?_
        refine g_ldu hS.k346 hS.l346 (by omega) (by omega) (fun x ex => ?_)
        refine g_stR hS.k354 hS.l354 (by omega) (by omega) (fun m4 e4 => ?_)
        have f4 : ∀ c p : Int, ¬ (c = 354 ∧ p = 158 * u1 + k) → m4 c p = m c p := fun c p q => (congrFun (congrFun e4 _) _).trans (up_ne q)
        have y4 : m4 354 (158 * u1 + k) = x := (congrFun (congrFun e4 _) _).trans (up_at _ _ _ _)
        refine g_A (by omega) (by omega) ?_
        refine ih (k + 1) m4 (by omega) (by omega) (fun c p q => (f4 c p (by omega)).trans (f c p q)) (fun j j0 j1 => ?_) (by omega)
        by_cases e : j = k
        · rw [e, y4, ex, f 346 _ (by omega), F3 346 _ (by omega)]
        · rw [f4 354 _ (by omega)]
          exact hc j j0 (by omega)
  exact ⟨159, L 159 0 m3 (by omega) (by omega) (fun _ _ _ => rfl) (fun j j0 j1 => absurd j1 (by omega)) (by omega)⟩
theorem zx_back12 {S : Sh} {m0 : Mm} {K : Int → Mm → Prop} {u1 : Int} (hS : Shp S) (hj : Jc S m0) (h0 : (¬ (0 ≤ u1 ∧ u1 ≤ 3) ∨ m0 357 u1 = 0) → K (-1) m0) (hk : ∀ (r : Int) (M1 : Mm), 0 ≤ u1 → u1 ≤ 3 → ¬ m0 357 u1 = 0 → Jc S M1 → r = m0 354 (158 * u1 + 7) → M1 336 25 = 0 → (∀ c p : Int, ¬ (c = 346 ∧ 0 ≤ p ∧ p < 158) → ¬ (c = 336 ∧ (p = 21 ∨ p = 22 ∨ p = 25)) → M1 c p = m0 c p) → (∀ j : Int, 0 ≤ j → j < 158 → M1 346 j = m0 354 (158 * u1 + j)) → M1 336 22 = m0 356 u1 → M1 336 21 = m0 355 u1 → K r M1) : wp_X12_back S m0 336 u1 K := by
  have hm0 := hj.inv
  refine u_X12_back ?_
  refine g_C ?_
  refine g_C ?_
  refine g_C ?_
  refine z_in (fun a b => ?_) (fun c => g_ifT rfl (g_C (h0 (Or.inl (by omega)))))
  refine g_ifF (by decide) ?_
  refine g_getr 37 357 rfl hS.k336 hm0.f_336_37 (by decide) ?_
  refine g_ldu hS.k357 hS.l357 (by omega) (by omega) (fun fl efl => ?_)
  refine g_if (fun w => ?_) (fun w => g_C (h0 (Or.inr (by omega))))
  refine g_getr 35 355 rfl hS.k336 hm0.f_336_35 (by decide) ?_
  refine g_ldu hS.k355 hS.l355 (by omega) (by omega) (fun v ev => ?_)
  refine g_putR 21 rfl hS.k336 (fun m1 e1 => ?_)
  have f1 : ∀ c p : Int, ¬ (c = 336 ∧ p = 21) → m1 c p = m0 c p := fun c p q => (congrFun (congrFun e1 _) _).trans (up_ne q)
  have y1 : m1 336 21 = v := (congrFun (congrFun e1 _) _).trans (up_at _ _ _ _)
  refine g_getr 36 356 rfl hS.k336 ((f1 336 36 (by omega)).trans hm0.f_336_36) (by decide) ?_
  refine g_ldu hS.k356 hS.l356 (by omega) (by omega) (fun x ex => ?_)
  rw [f1 356 _ (by omega)] at ex
  refine g_putR 22 rfl hS.k336 (fun m2 e2 => ?_)
  have f2 : ∀ c p : Int, ¬ (c = 336 ∧ p = 22) → m2 c p = m1 c p := fun c p q => (congrFun (congrFun e2 _) _).trans (up_ne q)
  have y2 : m2 336 22 = x := (congrFun (congrFun e2 _) _).trans (up_at _ _ _ _)
  refine g_C ?_
  refine g_putR 25 rfl hS.k336 (fun m3 e3 => ?_)
  have f3 : ∀ c p : Int, ¬ (c = 336 ∧ p = 25) → m3 c p = m2 c p := fun c p q => (congrFun (congrFun e3 _) _).trans (up_ne q)
  have z25 : m3 336 25 = 0 := (congrFun (congrFun e3 _) _).trans (up_at _ _ _ _)
  have F3 : ∀ c p : Int, ¬ (c = 336 ∧ (p = 21 ∨ p = 22 ∨ p = 25)) → m3 c p = m0 c p := fun c p q => by rw [f3 c p (by omega), f2 c p (by omega), f1 c p (by omega)]
  have z21 : m3 336 21 = m0 355 u1 := by rw [f3 336 21 (by omega), f2 336 21 (by omega), y1, ev]
  have z22 : m3 336 22 = m0 356 u1 := by rw [f3 336 22 (by omega), y2, ex]
  refine g_C ?_
  have fin : ∀ m : Mm, (∀ c p : Int, ¬ (c = 346 ∧ 0 ≤ p ∧ p < 158) → m c p = m3 c p) → (∀ j : Int, 0 ≤ j → j < 158 → m 346 j = m0 354 (158 * u1 + j)) → Jc S m := by
    intro m f hc
    have F : ∀ c p : Int, ¬ (c = 346 ∧ 0 ≤ p ∧ p < 158) → ¬ (c = 336 ∧ (p = 21 ∨ p = 22 ∨ p = 25)) → m c p = m0 c p := fun c p q1 q2 => (f c p q1).trans (F3 c p q2)
    have b21 := hm0.a_355 (i := u1) (by omega) (by omega)
    have b22 := hm0.a_356 (i := u1) (by omega) (by omega)
    have bP4 := hj.bnd 354 (158 * u1.toNat + 4) 0 5 (by decide) (by rw [pT_said.2.2.1]; omega) (by rw [bq_354 _ (by omega) 4 (by decide)]; exact bd_said.2.1) (by decide)
    have bP5 := hj.bnd 354 (158 * u1.toNat + 5) 0 4 (by decide) (by rw [pT_said.2.2.1]; omega) (by rw [bq_354 _ (by omega) 5 (by decide)]; exact bd_said.2.2) (by decide)
    rw [show ((354 : Nat) : Int) = 354 from rfl, show ((158 * u1.toNat + 4 : Nat) : Int) = 158 * u1 + 4 by omega] at bP4
    rw [show ((354 : Nat) : Int) = 354 from rfl, show ((158 * u1.toNat + 5 : Nat) : Int) = 158 * u1 + 5 by omega] at bP5
    refine hj.chg (fun c p hc' hp => ?_) (fun i => F 30 i (by omega) (by omega)) (F 55 1 (by omega) (by omega)) ?_ ?_
    · by_cases z : (c : Int) = 346 ∧ (p : Int) < 158
      · have z1 : c = 346 := by omega
        subst z1
        refine Or.inr ?_
        have q := hj.1 354 (158 * u1.toNat + p) (by decide) (by rw [pT_said.2.2.1]; omega)
        rw [bq_354 _ (by omega) p (by omega)] at q
        rw [show ((346 : Nat) : Int) = 346 from rfl, hc p (by omega) (by omega)]
        rw [show ((354 : Nat) : Int) = 354 from rfl, show ((158 * u1.toNat + p : Nat) : Int) = 158 * u1 + p by omega] at q
        exact q
      · by_cases z2 : (c : Int) = 336 ∧ ((p : Int) = 21 ∨ (p : Int) = 22 ∨ (p : Int) = 25)
        · refine Or.inr ?_
          rw [f c p (by omega)]
          obtain ⟨z3, z4⟩ := z2
          have z5 : c = 336 := by omega
          rcases z4 with z4 | z4 | z4
          · have z6 : p = 21 := by omega
            rw [z3, z4, z21, z5, z6]
            exact okb_of (l := -1) (u := 5) (by decide +kernel) b21.1 b21.2
          · have z6 : p = 22 := by omega
            rw [z3, z4, z22, z5, z6]
            exact okb_of (l := 0) (u := 2147483647) (by decide +kernel) b22.1 b22.2
          · have z6 : p = 25 := by omega
            rw [z3, z4, z25, z5, z6]
            exact okb_of (l := 0) (u := 20) (by decide +kernel) (by decide) (by decide)
        · exact Or.inl (F c p (by omega) z2)
    · obtain ⟨ga, gb, gc, gd⟩ := hj.2.2.2.1
      unfold Good
      rw [f 336 21 (by omega), z21, F 336 2 (by omega) (by omega)]
      refine ⟨(gb u1 a (by omega)).resolve_left (by omega), fun k k0 k1 => ?_, gc, fun t t0 t1 => ?_⟩
      · rw [F 355 k (by omega) (by omega), F 357 k (by omega) (by omega)]; exact gb k k0 k1
      · exact rulOK_same (gd t t0 t1) (F 341 _ (by omega) (by omega)) (fun p _ _ => F 340 p (by omega) (by omega)) (fun p _ _ => F 338 p (by omega) (by omega))
    · obtain ⟨p1, p2, p3⟩ := hj.2.2.2.2
      have e4 : m 354 = m0 354 := funext (fun p => F 354 p (by omega) (by omega))
      unfold PL3
      rw [f 336 25 (by omega), z25, e4]
      obtain ⟨q1, q2⟩ := p3 u1 a (by omega)
      have e0 : m 346 0 = m0 354 (158 * u1) := by
        have := hc 0 (by decide) (by decide)
        rw [Int.add_zero] at this
        exact this
      refine ⟨⟨fun i i0 i1 => ?_, fun i i0 i1 => ?_⟩, fun i i0 i1 => absurd i1 (by omega), p3⟩
      · rw [hc 4 (by decide) (by decide)] at i1
        rw [hc _ (by omega) (by omega), e0]
        exact q1 i i0 i1
      · rw [hc 5 (by decide) (by decide)] at i1
        rw [hc _ (by omega) (by omega), e0]
        exact q2 i i0 i1
  have L : ∀ (n : Nat) (k : Int) (m : Mm), 0 ≤ k → k ≤ 158 → (∀ c p : Int, ¬ (c = 346 ∧ 0 ≤ p ∧ p < 158) → m c p = m3 c p) → (∀ j : Int, 0 ≤ j → j < k → m 346 j = m0 354 (158 * u1 + j)) → 159 - k ≤ (n : Int) → wp_X12_back_50 S K n 336 u1 k m := by
    intro n
    induction n with
    | zero => intro k m _ _ _ _ h; exfalso; omega
    | succ n ih =>
      intro k m k0 k1 f hc h
      have e20 : m 336 20 = 346 := by rw [f 336 20 (by omega), F3 336 20 (by omega)]; exact hm0.f_336_20
      have e34 : m 336 34 = 354 := by rw [f 336 34 (by omega), F3 336 34 (by omega)]; exact hm0.f_336_34
      refine u_X12_back_50 ?_
      refine g_C ?_
      refine g_if (fun w2 => ?_) (fun w2 => ?_)
      · refine g_getr 20 346 rfl hS.k336 e20 (by decide) ?_
        refine g_C ?_
        refine g_ldu hS.k346 hS.l346 (by omega) (by omega) (fun v3 ev3 => ?_)
        refine hk _ m a b (by omega) (fin m f (fun j j0 j1 => hc j j0 (by omega))) (by rw [ev3]; exact hc 7 (by omega) (by omega)) (by rw [f 336 25 (by omega), z25]) (fun c p q q2 => ?_) (fun j j0 j1 => hc j j0 (by omega)) ?_ (by rw [f 336 21 (by omega), z21])
        · rw [f c p q, F3 c p q2]
        · rw [f 336 22 (by omega), z22]
      · refine g_getr 20 346 rfl hS.k336 e20 (by decide) ?_
        refine g_getr 34 354 rfl hS.k336 e34 (by decide) ?_
        refine g_C ?_
        refine g_M (by omega) (by omega) ?_
        refine g_A (by omega) (by omega) ?_
        refine g_ldu hS.k354 hS.l354 (by omega) (by omega) (fun y ey => ?_)
        refine g_stR hS.k346 hS.l346 (by omega) (by omega) (fun m4 e4 => ?_)
        have f4 : ∀ c p : Int, ¬ (c = 346 ∧ p = k) → m4 c p = m c p := fun c p q => (congrFun (congrFun e4 _) _).trans (up_ne q)
        have y4 : m4 346 k = y := (congrFun (congrFun e4 _) _).trans (up_at _ _ _ _)
        refine g_A (by omega) (by omega) ?_
        refine ih (k + 1) m4 (by omega) (by omega) (fun c p q => (f4 c p (by omega)).trans (f c p q)) (fun j j0 j1 => ?_) (by omega)
        by_cases e : j = k
        · rw [e, y4, ey, f 354 _ (by omega), F3 354 _ (by omega)]
        · rw [f4 346 _ (by omega)]
          exact hc j j0 (by omega)
  exact ⟨159, L 159 0 m3 (by omega) (by omega) (fun _ _ _ => rfl) (fun j j0 j1 => absurd j1 (by omega)) (by omega)⟩
theorem zx_undo12 {S : Sh} {m0 : Mm} {K : Int → Mm → Prop} (hS : Shp S) (hj : JX S m0) (h0 : m0 336 25 = 0 → K (-1) m0) (hk : ∀ (r : Int) (M1 : Mm), JX S M1 → ¬ m0 336 25 = 0 → r = m0 336 25 - 1 → 0 ≤ r → r ≤ 19 → M1 336 25 = r → (∀ c p : Int, ¬ (c = 346 ∧ 0 ≤ p ∧ p < 57) → ¬ (c = 336 ∧ p = 25) → M1 c p = m0 c p) → (∀ j : Int, 0 ≤ j → j < 57 → M1 346 j = m0 347 (57 * r + j)) → K r M1) : wp_X12_undo S m0 336 K := by
  have hm0 := hj.inv
  have b25 := hm0.f_336_25
  refine u_X12_undo ?_
  refine g_getu 25 rfl hS.k336 (fun v ev => ?_)
  refine g_if (fun w => ?_) (fun w => g_C (h0 (by omega)))
  refine g_getu 25 rfl hS.k336 (fun v2 ev2 => ?_)
  refine g_C ?_
  refine g_S (by omega) (by omega) ?_
  obtain ⟨r, hr⟩ : ∃ r : Int, r = v2 - 1 := ⟨_, rfl⟩
  rw [← hr]
  refine g_putR 25 rfl hS.k336 (fun m1 e1 => ?_)
  have f1 : ∀ c p : Int, ¬ (c = 336 ∧ p = 25) → m1 c p = m0 c p := fun c p q => (congrFun (congrFun e1 _) _).trans (up_ne q)
  have y1 : m1 336 25 = r := (congrFun (congrFun e1 _) _).trans (up_at _ _ _ _)
  refine g_C ?_
  have fin : ∀ m : Mm, (∀ c p : Int, ¬ (c = 346 ∧ 0 ≤ p ∧ p < 57) → m c p = m1 c p) → (∀ j : Int, 0 ≤ j → j < 57 → m 346 j = m0 347 (57 * r + j)) → JX S m := by
    intro m f hc
    have F : ∀ c p : Int, ¬ (c = 346 ∧ 0 ≤ p ∧ p < 57) → ¬ (c = 336 ∧ p = 25) → m c p = m0 c p := fun c p q1 q2 => (f c p q1).trans (f1 c p q2)
    have e25 : m 336 25 = r := (f 336 25 (by omega)).trans y1
    have bH := hj.1.bnd 347 (57 * r.toNat + 4) 0 5 (by decide) (by rw [pT_said.2.1]; omega) (by rw [bq_347 _ (by omega) 4 (by decide)]; exact bd_said.2.1) (by decide)
    have bJ := hj.1.bnd 347 (57 * r.toNat + 5) 0 4 (by decide) (by rw [pT_said.2.1]; omega) (by rw [bq_347 _ (by omega) 5 (by decide)]; exact bd_said.2.2) (by decide)
    rw [show ((347 : Nat) : Int) = 347 from rfl, show ((57 * r.toNat + 4 : Nat) : Int) = 57 * r + 4 by omega] at bH
    rw [show ((347 : Nat) : Int) = 347 from rfl, show ((57 * r.toNat + 5 : Nat) : Int) = 57 * r + 5 by omega] at bJ
    refine ⟨hj.1.chg (fun c p hc' hp => ?_) (fun i => F 30 i (by omega) (by omega)) (F 55 1 (by omega) (by omega)) ?_ ?_, ?_⟩
    · by_cases z : (c : Int) = 346 ∧ (p : Int) < 57
      · have z1 : c = 346 := by omega
        subst z1
        refine Or.inr ?_
        have q := hj.1.1 347 (57 * r.toNat + p) (by decide) (by rw [pT_said.2.1]; omega)
        rw [bq_347 _ (by omega) p (by omega)] at q
        rw [show ((346 : Nat) : Int) = 346 from rfl, hc p (by omega) (by omega)]
        rw [show ((347 : Nat) : Int) = 347 from rfl, show ((57 * r.toNat + p : Nat) : Int) = 57 * r + p by omega] at q
        exact q
      · by_cases z2 : (c : Int) = 336 ∧ (p : Int) = 25
        · have z3 : c = 336 := by omega
          have z4 : p = 25 := by omega
          subst z3 z4
          refine Or.inr ?_
          rw [show ((336 : Nat) : Int) = 336 from rfl, show ((25 : Nat) : Int) = 25 from rfl, e25]
          exact okb_of (l := 0) (u := 20) (by decide +kernel) (by omega) (by omega)
        · exact Or.inl (F c p (by omega) z2)
    · exact hj.1.2.2.2.1.eq (fun p q => F 336 p (by omega) (by omega)) (fun c p q => F c p (by omega) (by omega))
    · obtain ⟨p1, p2, p3⟩ := hj.1.2.2.2.2
      have e7 : m 347 = m0 347 := funext (fun p => F 347 p (by omega) (by omega))
      have e4 : m 354 = m0 354 := funext (fun p => F 354 p (by omega) (by omega))
      unfold PL3
      rw [e25, e7, e4]
      obtain ⟨q1, q2⟩ := p2 r (by omega) (by omega)
      refine ⟨⟨fun a a0 a1 => ?_, fun a a0 a1 => ?_⟩, fun i i0 i1 => p2 i i0 (by omega), p3⟩
      · rw [hc 4 (by decide) (by decide)] at a1
        rw [hc _ (by omega) (by omega), hc 0 (by decide) (by decide), Int.add_zero]
        exact q1 a a0 a1
      · rw [hc 5 (by decide) (by decide)] at a1
        rw [hc _ (by omega) (by omega), hc 0 (by decide) (by decide), Int.add_zero]
        exact q2 a a0 a1
    · have k6 := hj.2
      have G : ∀ c p : Int, ¬ c = 346 → ¬ (c = 336 ∧ p = 25) → m c p = m0 c p := fun c p a b => F c p (by omega) b
      unfold Xr at k6 ⊢
      rw [G 3 3 (by omega) (by omega), G 336 22 (by omega) (by omega), G 76 3 (by omega) (by omega), G 76 9 (by omega) (by omega), G 101 3 (by omega) (by omega), G 101 9 (by omega) (by omega), G 126 3 (by omega) (by omega), G 126 9 (by omega) (by omega), G 151 3 (by omega) (by omega), G 151 9 (by omega) (by omega), G 356 0 (by omega) (by omega), G 356 1 (by omega) (by omega), G 356 2 (by omega) (by omega), G 356 3 (by omega) (by omega), G 357 0 (by omega) (by omega), G 357 1 (by omega) (by omega), G 357 2 (by omega) (by omega), G 357 3 (by omega) (by omega)]
      exact ⟨k6.1, k6.2.on G⟩
  have L : ∀ (n : Nat) (k : Int) (m : Mm), 0 ≤ k → k ≤ 57 → (∀ c p : Int, ¬ (c = 346 ∧ 0 ≤ p ∧ p < 57) → m c p = m1 c p) → (∀ j : Int, 0 ≤ j → j < k → m 346 j = m0 347 (57 * r + j)) → 58 - k ≤ (n : Int) → wp_X12_undo_21 S K n 336 k m := by
    intro n
    induction n with
    | zero => intro k m _ _ _ _ h; exfalso; omega
    | succ n ih =>
      intro k m k0 k1 f hc h
      have e20 : m 336 20 = 346 := by rw [f 336 20 (by omega), f1 336 20 (by omega)]; exact hm0.f_336_20
      have e24 : m 336 24 = 347 := by rw [f 336 24 (by omega), f1 336 24 (by omega)]; exact hm0.f_336_24
      have e25 : m 336 25 = r := (f 336 25 (by omega)).trans y1
      refine u_X12_undo_21 ?_
      refine g_C ?_
      refine g_if (fun w2 => ?_) (fun w2 => ?_)
      · refine g_getu 25 rfl hS.k336 (fun v3 ev3 => ?_)
        have e3 : v3 = r := by rw [ev3]; exact e25
        rw [e3]
        exact hk r m (fin m f (fun j j0 j1 => hc j j0 (by omega))) (by omega) (by omega) (by omega) (by omega) e25 (fun c p q q2 => (f c p q).trans (f1 c p q2)) (fun j j0 j1 => hc j j0 (by omega))
      · refine g_getr 20 346 rfl hS.k336 e20 (by decide) ?_
        refine g_getr 24 347 rfl hS.k336 e24 (by decide) ?_
        refine g_C ?_
        refine g_getu 25 rfl hS.k336 (fun v3 ev3 => ?_)
        refine g_M (by omega) (by omega) ?_
        refine g_A (by omega) (by omega) ?_
        refine g_ldu hS.k347 hS.l347 (by omega) (by omega) (fun x ex => ?_)
        refine g_stR hS.k346 hS.l346 (by omega) (by omega) (fun m2 e2 => ?_)
        have f2 : ∀ c p : Int, ¬ (c = 346 ∧ p = k) → m2 c p = m c p := fun c p q => (congrFun (congrFun e2 _) _).trans (up_ne q)
        have y2 : m2 346 k = x := (congrFun (congrFun e2 _) _).trans (up_at _ _ _ _)
        refine g_A (by omega) (by omega) ?_
        refine ih (k + 1) m2 (by omega) (by omega) (fun c p q => (f2 c p (by omega)).trans (f c p q)) (fun j j0 j1 => ?_) (by omega)
        by_cases e : j = k
        · rw [e, y2, ex, f 347 _ (by omega), f1 347 _ (by omega), ev3, e25]
        · rw [f2 346 j (by omega)]
          exact hc j j0 (by omega)
  exact ⟨58, L 58 0 m1 (by omega) (by omega) (fun _ _ _ => rfl) (fun j j0 j1 => absurd j1 (by omega)) (by omega)⟩
