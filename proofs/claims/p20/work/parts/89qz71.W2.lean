/-! WAY and BRINGS of both sides -/
theorem RZ.wk {S : Sh} {M : Mm} {n : Int} (h : RZ S M n) : Wok (M 4 0) (M 5) (M 6) := h.2.2.2.1.2.2.1
theorem RZ.fb {S : Sh} {M : Mm} {n : Int} (h : RZ S M n) : ∀ p : Int, 0 ≤ p → p < 36 → M 5 p ≤ 5 := fun p p0 p1 => (h.inv.a_5 (i := p) p0 p1).2
theorem zq_stand11 {S : Sh} {m : Mm} {K : Int → Mm → Prop} {n j : Int} (hS : Shp S) (hz : RZ S m n) (h1 : 0 ≤ j ∧ j < m 346 5 → StR m j → K 1 m) (h0 : ¬ ((0 ≤ j ∧ j < m 346 5) ∧ StR m j) → K 0 m) : wp_X11_isStandingJug S m 0 j K := by
  have hm := hz.inv
  have ct := hz.ct
  have db := hz.db
  have c5 : m 4 5 = m 346 5 := ct.2.2.2.2.2.1
  refine u_X11_isStandingJug ?_
  refine ⟨hS.k0, ?_⟩
  refine zs_isJug11 hS hm (fun c1 => g_ifF (by decide) ?_) (fun c1 => g_ifT rfl (g_C ⟨by decide, h0 (fun q => c1 (by rw [c5]; exact q.1))⟩))
  rw [c5] at c1
  have zj := hz.jg c1.1 c1.2
  refine g_getr 1 3 rfl hS.k0 hm.f_0_1 (by decide) ?_
  refine g_getr 1 16 rfl hS.k3 hm.f_3_1 (by decide) ?_
  refine ⟨hS.k16, ?_⟩
  refine u_X5_stands ?_
  refine g_getr 5 20 rfl hS.k16 hm.f_16_5 (by decide) ?_
  refine g_ldu hS.k20 hS.l20 c1.1 (by omega) (fun v ev => ?_)
  refine g_C ?_
  refine g_if (fun q => ?_) (fun q => ?_)
  · refine g_C ⟨by decide, ?_⟩
    refine g_ifT rfl (g_C ⟨by decide, h0 (fun y => ?_)⟩)
    have y2 := y.2
    unfold StR at y2
    omega
  · refine g_C ⟨by decide, ?_⟩
    refine g_ifF (by decide) (g_C ⟨by decide, h1 c1 ?_⟩)
    unfold StR
    omega
