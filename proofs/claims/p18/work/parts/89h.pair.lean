theorem JX.tape {S S1 : Sh} {m0 m2 : Mm} (h : JX S m0) (j : Jc S1 m2) (F : ∀ c p : Int, spP c p → ¬ (c = 1 ∧ p = 1) → ¬ (c = 336 ∧ (p = 1 ∨ p = 2)) → ¬ (c = 0 ∧ p = 7) → m2 c p = m0 c p) (e1 : m2 1 1 = m2 336 1) (e2 : m2 0 7 = m2 336 2) : JX S1 m2 := by
  obtain ⟨jc, xr, ⟨⟨a1, a2, a3⟩, a4, a5⟩⟩ := h
  refine ⟨j, ?_, ?_⟩
  · unfold Xr at xr ⊢
    rw [F 3 3 (by decide) (by omega) (by omega) (by omega), F 336 22 (by decide) (by omega) (by omega) (by omega), F 76 3 (by decide) (by omega) (by omega) (by omega), F 356 0 (by decide) (by omega) (by omega) (by omega), F 76 9 (by decide) (by omega) (by omega) (by omega), F 357 0 (by decide) (by omega) (by omega) (by omega), F 101 3 (by decide) (by omega) (by omega) (by omega), F 356 1 (by decide) (by omega) (by omega) (by omega), F 101 9 (by decide) (by omega) (by omega) (by omega), F 357 1 (by decide) (by omega) (by omega) (by omega), F 126 3 (by decide) (by omega) (by omega) (by omega), F 356 2 (by decide) (by omega) (by omega) (by omega), F 126 9 (by decide) (by omega) (by omega) (by omega), F 357 2 (by decide) (by omega) (by omega) (by omega), F 151 3 (by decide) (by omega) (by omega) (by omega), F 356 3 (by decide) (by omega) (by omega) (by omega), F 151 9 (by decide) (by omega) (by omega) (by omega), F 357 3 (by decide) (by omega) (by omega) (by omega)]
    exact xr
  · unfold Ya
    rw [F 3 2 (by decide) (by omega) (by omega) (by omega), F 336 21 (by decide) (by omega) (by omega) (by omega), F 76 2 (by decide) (by omega) (by omega) (by omega), F 355 0 (by decide) (by omega) (by omega) (by omega), F 357 0 (by decide) (by omega) (by omega) (by omega), F 101 2 (by decide) (by omega) (by omega) (by omega), F 355 1 (by decide) (by omega) (by omega) (by omega), F 357 1 (by decide) (by omega) (by omega) (by omega), F 126 2 (by decide) (by omega) (by omega) (by omega), F 355 2 (by decide) (by omega) (by omega) (by omega), F 357 2 (by decide) (by omega) (by omega) (by omega), F 151 2 (by decide) (by omega) (by omega) (by omega), F 355 3 (by decide) (by omega) (by omega) (by omega), F 357 3 (by decide) (by omega) (by omega) (by omega)]
    refine ⟨⟨e1, fun p p0 p1 => ?_, e2⟩, a4, a5⟩
    rw [F 2 p (by omega) (by omega) (by omega) (by omega), F 337 p (by omega) (by omega) (by omega) (by omega)]
    exact a2 p p0 p1
theorem zj_end {S : Sh} {m0 : Mm} {K : Int → Int → Mm → Prop} {K1 : Int → Mm → Prop} {u : Int} (hS : Shp S) (hj : JX S m0) (hK : ∀ (r : Int) (M : Mm), wp_X12_end S M 336 u (fun r2 M2 => K r r2 M2) → K1 r M) (hk : ∀ (r : Int) (M1 : Mm), JX S M1 → K r r M1) : wp_X11_end S m0 0 u K1 := by
  have hm0 := hj.inv
  have b1 := hm0.f_1_1
  have a1 := hj.2.2.1.1
  have a3 := hj.2.2.1.2.2
  refine u_X11_end ?_
  refine g_if (fun w => ?_) (fun w => ?_)
  · refine g_C ?_
    refine hK _ _ ?_
    refine u_X12_end ?_
    exact g_ifT w (g_C (hk _ m0 hj))
  · refine g_getr 0 1 rfl hS.k0 hm0.f_0_0 (by decide) ?_
    refine g_getu 1 rfl hS.k1 (fun v ev => ?_)
    refine g_if (fun w2 => ?_) (fun w2 => ?_)
    · refine g_getr 0 1 rfl hS.k0 hm0.f_0_0 (by decide) ?_
      refine g_putR 1 rfl hS.k1 (fun m1 e1 => ?_)
      have f1 : ∀ c p : Int, ¬ (c = 1 ∧ p = 1) → m1 c p = m0 c p := fun c p q => (congrFun (congrFun e1 _) _).trans (up_ne q)
      have x1 : m1 1 1 = u := (congrFun (congrFun e1 _) _).trans (up_at _ _ _ _)
      have j1 : Jc S m1 := by rw [e1]; exact hj.1.len11 (by omega) (by omega)
      refine hK _ _ ?_
      refine u_X12_end ?_
      refine g_ifF w ?_
      refine g_getu 1 rfl hS.k336 (fun v2 ev2 => ?_)
      rw [f1 336 1 (by omega)] at ev2
      refine g_ifT (by omega) ?_
      refine g_putR 1 rfl hS.k336 (fun m2 e2 => ?_)
      have f2 : ∀ c p : Int, ¬ (c = 336 ∧ p = 1) → m2 c p = m1 c p := fun c p q => (congrFun (congrFun e2 _) _).trans (up_ne q)
      have x2 : m2 336 1 = u := (congrFun (congrFun e2 _) _).trans (up_at _ _ _ _)
      have j2 : Jc S m2 := by rw [e2]; exact j1.len12 (by omega) (by omega)
      exact hk u m2 (hj.tape j2 (fun c p _ q1 q2 _ => by rw [f2 c p (by omega), f1 c p q1]) (by rw [f2 1 1 (by omega), x1, x2]) (by rw [f2 0 7 (by omega), f1 0 7 (by omega), f2 336 2 (by omega), f1 336 2 (by omega)]; exact a3))
    · refine g_C ?_
      refine hK _ _ ?_
      refine u_X12_end ?_
      refine g_ifF w ?_
      refine g_getu 1 rfl hS.k336 (fun v2 ev2 => ?_)
      exact g_ifF (by omega) (g_C (hk _ m0 hj))
theorem zj_rule {S : Sh} {m0 : Mm} {K : Int → Int → Sh → Mm → Prop} {K1 : Int → Sh → Mm → Prop} (hS : Shp S) (hj : JX S m0) (hK : ∀ (r : Int) (S1 : Sh) (M : Mm), Shp S1 → wp_X12_rule S1 M 336 (fun r2 M2 => K r r2 S1 M2) → K1 r S1 M) (hk : ∀ (r : Int) (S1 : Sh) (M1 : Mm), Shp S1 → JX S1 M1 → K r r S1 M1) : wp_X11_rule S m0 0 K1 := by
  have hm0 := hj.inv
  obtain ⟨jc, xr, ⟨⟨a1, a2, a3⟩, a4, a5⟩⟩ := id hj
  have b1 := hm0.f_1_1
  have hC : TC m0 (fun p => m0 2 p) (m0 1 1) := ⟨rfl, b1, fun p p0 p1 => ⟨rfl, hm0.a_2 p0 (by omega)⟩⟩
  have hR : ∀ M : Mm, M 336 1 = m0 336 1 → (∀ p : Int, M 337 p = m0 337 p) → TR M (fun p => m0 2 p) (m0 1 1) := fun M e f => ⟨e.trans a1.symm, b1, fun p p0 p1 => ⟨(f p).trans (a2 p p0 (by omega)).symm, hm0.a_2 p0 (by omega)⟩⟩
  refine zk_rule11 hS jc hC (fun z => ?_) (fun f m1 j1 f1 e1 n1 c1 nf => ?_) (fun S1 m1 hS1 j1 f1 e1 g1 n1 c1 => ?_)
  · refine hK _ _ _ hS ?_
    exact zk_rule12 hS jc (hR m0 rfl (fun _ => rfl)) (fun _ => hk _ S m0 hS hj) (fun f M1 _ _ _ n _ _ => absurd (a3.symm.trans z) n) (fun M1 _ _ _ _ n _ => absurd (a3.symm.trans z) n)
  · have k2 : m1 336 2 = m0 336 2 := f1 336 2 (by decide) (by omega)
    refine hK _ _ _ hS ?_
    refine zk_rule12 hS j1 (hR m1 (f1 336 1 (by decide) (by omega)) (fun p => f1 337 p (by omega) (by omega))) (fun z => absurd (a3.trans (k2.symm.trans z)) n1) (fun f' m2 j2 f2 e2 _ c2 _ => ?_) (fun m2 _ _ _ _ _ c2 => absurd (c1.det c2) nf)
    rw [← c1.det c2]
    exact hk _ S m2 hS (hj.tape j2 (fun c p hs q1 q2 q3 => by rw [f2 c p hs (by omega), f1 c p hs q1]) (by rw [f2 1 1 (by decide) (by omega), e1, e2]) (by rw [f2 0 7 (by decide) (by omega), f1 0 7 (by decide) (by omega), f2 336 2 (by decide) (by omega), k2]; exact a3))
  · have k2 : m1 336 2 = m0 336 2 := f1 336 2 (by decide) (by omega) (by omega)
    refine hK _ _ _ hS1 ?_
    refine zk_rule12 hS1 j1 (hR m1 (f1 336 1 (by decide) (by omega) (by omega)) (fun p => f1 337 p (by omega) (by omega) (by omega))) (fun z => absurd (a3.trans (k2.symm.trans z)) n1) (fun f' m2 _ _ _ _ c2 nf => absurd (c2.det c1) nf) (fun m2 j2 f2 e2 g2 _ _ => ?_)
    rw [k2, ← a3]
    exact hk _ S1 m2 hS1 (hj.tape j2 (fun c p hs q1 q2 q3 => by rw [f2 c p hs q2, f1 c p hs q1 q3]) (by rw [f2 1 1 (by decide) (by omega), e1, e2]) (by rw [f2 0 7 (by decide) (by omega), g1, g2, k2, a3]))
