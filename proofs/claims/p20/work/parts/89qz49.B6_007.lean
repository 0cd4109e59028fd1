theorem zz_force {S : Sh} {m0 : Mm} {K : Int → Int → Mm → Prop} {K1 : Int → Mm → Prop} {u n : Int} (hS : Shp S) (hz : RZ S m0 n) (hK : ∀ (r : Int) (M : Mm), wp_X12_force S M 336 u (fun r2 M2 => K r r2 M2) → K1 r M) (hk : ∀ (r : Int) (M1 : Mm), RZ S M1 n → K r r M1) : wp_X11_force S m0 0 u K1 := by
  have hj := hz.1
  have hm0 := hj.inv
  obtain ⟨jc, xr, ⟨⟨a1, a2, a3⟩, a4, a5⟩⟩ := id hj
  have b7 := hm0.f_0_7
  have no : ∀ r : Int, r = -2 → (u < -1 ∨ m0 0 7 ≤ u) → ¬ u = -1 → wp_X12_force S m0 336 u (fun r2 M2 => K r r2 M2) := by
    intro r hr h1 h2
    subst hr
    refine u_X12_force ?_
    refine g_C ?_
    refine g_ifF h2 ?_
    refine ⟨hS.k336, ?_⟩
    refine u_X12_isRule ?_
    refine g_if (fun w => g_C ⟨by decide, g_ifF (by decide) (g_C (hk _ m0 hz))⟩) (fun w => ?_)
    refine g_getu 2 rfl hS.k336 (fun v ev => ?_)
    exact g_ifT (by omega) (g_C ⟨by decide, g_ifF (by decide) (g_C (hk _ m0 hz))⟩)
  refine u_X11_force ?_
  refine g_C ?_
  refine g_if (fun w => g_C (hK _ _ (no _ rfl (by omega) (by omega)))) (fun w => ?_)
  refine g_getu 7 rfl hS.k0 (fun v ev => ?_)
  refine g_if (fun w2 => ?_) (fun w2 => g_C (hK _ _ (no _ rfl (by omega) (by omega))))
  refine g_getr 1 3 rfl hS.k0 hm0.f_0_1 (by decide) ?_
  refine g_getu 2 rfl hS.k3 (fun o eo => ?_)
  refine g_getr 1 3 rfl hS.k0 hm0.f_0_1 (by decide) ?_
  refine g_putR 2 rfl hS.k3 (fun m1 e1 => ?_)
  have f1 : ∀ c p : Int, ¬ (c = 3 ∧ p = 2) → m1 c p = m0 c p := fun c p q => (congrFun (congrFun e1 _) _).trans (up_ne q)
  have x1 : m1 3 2 = u := (congrFun (congrFun e1 _) _).trans (up_at _ _ _ _)
  have j1 : Jc S m1 := by
    rw [e1]
    refine jc.put (fun c p z1 z2 => ?_) (by decide)
    have z1 : c = 3 := by omega
    have z2 : p = 2 := by omega
    subst z1 z2
    exact okb_of (l := -1) (u := 5) (by decide +kernel) (by omega) (by omega)
  refine ⟨hS.k0, ?_⟩
  refine zx_enforce hS j1.inv (fun m2 hm2 fe ye => ?_)
  have sp : ∀ c p : Int, spP c p → m2 c p = m1 c p := fun c p q => (hm2.g q).trans (sf_e m1 (by omega))
  have j2 : Jc S m2 := Jc.of hm2
  have k2 : m2 336 2 = m0 336 2 := (sp 336 2 (by decide)).trans (f1 336 2 (by omega))
  have go : wp_X12_force_16 S (fun r2 M2 => K o r2 M2) 336 u m2 := by
    refine u_X12_force_16 ?_
    refine g_getu 21 rfl hS.k336 (fun q eq => ?_)
    rw [sp 336 21 (by decide), f1 336 21 (by omega)] at eq
    refine g_putR 21 rfl hS.k336 (fun m3 e3 => ?_)
    have f3 : ∀ c p : Int, ¬ (c = 336 ∧ p = 21) → m3 c p = m2 c p := fun c p q => (congrFun (congrFun e3 _) _).trans (up_ne q)
    have x3 : m3 336 21 = u := (congrFun (congrFun e3 _) _).trans (up_at _ _ _ _)
    have j3 : Jc S m3 := by
      obtain ⟨k1, k2', k3, k4, k5⟩ := j2
      refine ⟨fun c p hc hp => ?_, fun i i0 i1 => ?_, ?_, ?_, ?_⟩
      · by_cases e : (c : Int) = 336 ∧ (p : Int) = 21
        · have z1 : c = 336 := by omega
          have z2 : p = 21 := by omega
          subst z1 z2
          rw [show ((336 : Nat) : Int) = 336 from rfl, show ((21 : Nat) : Int) = 21 from rfl, x3]
          exact okb_of (l := -1) (u := 5) (by decide +kernel) (by omega) (by omega)
        · rw [f3 c p e]
          exact k1 c p hc hp
      · rw [f3 30 i (by omega)]; exact k2' i i0 i1
      · rw [f3 55 1 (by omega)]; exact k3
      · obtain ⟨ga, gb, gc, gd⟩ := k4
        unfold Good
        rw [x3, f3 336 2 (by omega)]
        refine ⟨by omega, fun k k0 k1 => by rw [f3 355 k (by omega), f3 357 k (by omega)]; exact gb k k0 k1, gc, fun t t0 t1 => ?_⟩
        exact rulOK_same (gd t t0 t1) (f3 341 _ (by omega)) (fun p _ _ => f3 340 p (by omega)) (fun p _ _ => f3 338 p (by omega))
      · unfold PL3 at k5 ⊢
        have e6 : m3 346 = m2 346 := funext (fun p => f3 346 p (by omega))
        have e7 : m3 347 = m2 347 := funext (fun p => f3 347 p (by omega))
        have e8 : m3 354 = m2 354 := funext (fun p => f3 354 p (by omega))
        rw [e6, e7, e8, f3 336 25 (by omega)]
        exact k5
    rw [show q = o by omega]
    have jx : JX S m3 := hj.forced j3 (fun c p hs q1 q2 => by rw [f3 c p q2, sp c p hs, f1 c p q1]) (by rw [f3 3 2 (by omega), sp 3 2 (by decide), x1, x3])
    have F : ∀ c p : Int, ¬ (c = 336 ∧ p = 21) → ¬ (c = 55 ∧ p = 1) → ¬ (c = 3 ∧ p = 2) → m3 c p = m0 c p := fun c p q1 q2 q3 => by rw [f3 c p q1, fe c p q2, f1 c p q3]
    refine hk o m3 ⟨jx, hz.2.1.same (fun c p q => F c p (by omega) (by omega) (by omega)), ⟨fun k k0 k1 => ?_, ?_⟩, hz.2.2.2.same (fun c p q => F c p (by omega) (by omega) (by omega))⟩
    · rw [F 336 2 (by omega) (by omega) (by omega)] at k1
      obtain ⟨Cs, r1, r2, r3⟩ := hz.2.2.1.1 k k0 k1
      refine ⟨Cs, ?_, r2.same (fun c p q => F c p (by omega) (by omega) (by omega)), r3⟩
      rw [F 30 k (by omega) (by omega) (by omega)]
      exact r1.same (fun c p q => F c p (by omega) (by omega) (by omega))
    · rw [f3 55 1 (by omega), ye, f3 3 2 (by omega), fe 3 2 (by omega)]
      by_cases z : m1 3 2 < 0
      · rw [if_pos z, if_pos z]
      · rw [if_neg z, if_neg z, F 30 _ (by omega) (by omega) (by omega), f1 30 _ (by omega)]
  refine hK _ _ ?_
  refine u_X12_force ?_
  refine g_C ?_
  refine g_if (fun w3 => go) (fun w3 => ?_)
  refine ⟨hS.k336, ?_⟩
  refine u_X12_isRule ?_
  refine g_ifF (by omega) ?_
  refine g_getu 2 rfl hS.k336 (fun v3 ev3 => ?_)
  refine g_ifF (by omega) ?_
  exact g_C ⟨by decide, g_ifT (by decide) go⟩
