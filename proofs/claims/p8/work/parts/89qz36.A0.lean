section
/-! an ACT begins: what is kept -/
def KP (m0 M1 : Mm) (i : Int) : Prop := i = m0 0 4 ∧ (0 ≤ i ∧ i ≤ 19) ∧ (∀ c p : Int, ¬ (176 + 8 * i ≤ c ∧ c ≤ 183 + 8 * i) → ¬ (c = 0 ∧ (p = 4 ∨ p = 5)) → M1 c p = m0 c p) ∧ M1 0 4 = (i + 1) % 20 ∧ (M1 0 5 = m0 0 5 + 1 ∨ (M1 0 5 = 20 ∧ m0 0 5 = 20)) ∧ (M1 (176 + 8 * i) 0 = m0 16 0 ∧ M1 (176 + 8 * i) 1 = m0 16 1) ∧ (∀ p : Int, 0 ≤ p → p < 5 → M1 (177 + 8 * i) p = m0 17 p ∧ M1 (178 + 8 * i) p = m0 18 p ∧ M1 (179 + 8 * i) p = m0 19 p) ∧ (∀ p : Int, 0 ≤ p → p < 4 → M1 (180 + 8 * i) p = m0 20 p ∧ M1 (181 + 8 * i) p = m0 21 p ∧ M1 (182 + 8 * i) p = m0 22 p) ∧ (∀ p : Int, 0 ≤ p → p < 6 → M1 (183 + 8 * i) p = m0 23 p) ∧ (0 ≤ m0 0 5 ∧ m0 0 5 ≤ 20) ∧ M1 0 5 ≤ 20
def KA (m2 M3 : Mm) (u s : Int) : Prop := (0 ≤ u ∧ u ≤ 19) ∧ M3 336 25 = u + 1 ∧ ((s = 0 ∧ u = m2 336 25) ∨ (s = 57 ∧ u = 19 ∧ m2 336 25 = 20)) ∧ (∀ c p : Int, ¬ c = 347 → ¬ (c = 336 ∧ p = 25) → M3 c p = m2 c p) ∧ (∀ j : Int, 0 ≤ j → j < 57 → M3 347 (57 * u + j) = m2 346 j) ∧ (∀ p : Int, 0 ≤ p → p < 57 * u → M3 347 p = m2 347 (p + s))
theorem KP.f {m0 M1 : Mm} {i : Int} (k : KP m0 M1 i) {c p : Int} (a : ¬ (176 ≤ c ∧ c ≤ 335)) (b : ¬ (c = 0 ∧ (p = 4 ∨ p = 5))) : M1 c p = m0 c p := k.2.2.1 c p (by have := k.2.1; omega) b
theorem KA.f {m2 M3 : Mm} {u s : Int} (k : KA m2 M3 u s) {c p : Int} (a : ¬ c = 347) (b : ¬ (c = 336 ∧ p = 25)) : M3 c p = m2 c p := k.2.2.2.1 c p a b
theorem zk_keepPast {X : Mm} {S : Sh} {m0 : Mm} {K : Mm → Prop} (hS : Shp S) (hm0 : Inv X S m0) (hk : ∀ (i : Int) (M1 : Mm), Inv X S M1 → KP m0 M1 i → K M1) : wp_X11_keepPast S m0 0 K := zx_keepPast hS hm0 (fun i M1 h e i0 i1 f n v w0 w1 w2 w3 w4 => hk i M1 h ⟨e, ⟨i0, i1⟩, f, n, v, ⟨w0, w1⟩, w2, w3, w4, hm0.f_0_5, h.f_0_5.2⟩)
theorem zk_keepsAct {X : Mm} {S : Sh} {m0 : Mm} {K : Mm → Prop} (hS : Shp S) (hm0 : Inv X S m0) (hk : ∀ (u s : Int) (M1 : Mm), Inv X S M1 → KA m0 M1 u s → K M1) : wp_X12_keepsAct S m0 336 K := zx_keepsAct hS hm0 (fun M1 u s h u0 u1 e c f g k => hk u s M1 h ⟨⟨u0, u1⟩, e, c, f, g, k⟩)
theorem zs_isHand11 {X : Mm} {S : Sh} {m : Mm} {K : Int → Mm → Prop} {h : Int} (hS : Shp S) (hm : Inv X S m) (h1 : 0 ≤ h ∧ h < m 4 4 → K 1 m) (h0 : ¬ (0 ≤ h ∧ h < m 4 4) → K 0 m) : wp_X11_isHand S m 0 h K := by
  refine u_X11_isHand ?_
  refine g_if (fun w => g_C ⟨by decide, h0 (by omega)⟩) (fun w => ?_)
  refine g_getr 1 3 rfl hS.k0 hm.f_0_1 (by decide) ?_
  refine g_getr 0 4 rfl hS.k3 hm.f_3_0 (by decide) ?_
  refine g_getu 4 rfl hS.k4 (fun v ev => ?_)
  exact g_if (fun w2 => g_C ⟨by decide, h0 (by omega)⟩) (fun w2 => g_C ⟨by decide, h1 (by omega)⟩)
theorem zs_isJug11 {X : Mm} {S : Sh} {m : Mm} {K : Int → Mm → Prop} {h : Int} (hS : Shp S) (hm : Inv X S m) (h1 : 0 ≤ h ∧ h < m 4 5 → K 1 m) (h0 : ¬ (0 ≤ h ∧ h < m 4 5) → K 0 m) : wp_X11_isJug S m 0 h K := by
  refine u_X11_isJug ?_
  refine g_if (fun w => g_C ⟨by decide, h0 (by omega)⟩) (fun w => ?_)
  refine g_getr 1 3 rfl hS.k0 hm.f_0_1 (by decide) ?_
  refine g_getr 0 4 rfl hS.k3 hm.f_3_0 (by decide) ?_
  refine g_getu 5 rfl hS.k4 (fun v ev => ?_)
  exact g_if (fun w2 => g_C ⟨by decide, h0 (by omega)⟩) (fun w2 => g_C ⟨by decide, h1 (by omega)⟩)
theorem zs_isPlace11 {X : Mm} {S : Sh} {m : Mm} {K : Int → Mm → Prop} {h : Int} (hS : Shp S) (hm : Inv X S m) (h1 : 0 ≤ h ∧ h < m 4 0 → K 1 m) (h0 : ¬ (0 ≤ h ∧ h < m 4 0) → K 0 m) : wp_X11_isPlace S m 0 h K := by
  refine u_X11_isPlace ?_
  refine g_if (fun w => g_C ⟨by decide, h0 (by omega)⟩) (fun w => ?_)
  refine g_getr 1 3 rfl hS.k0 hm.f_0_1 (by decide) ?_
  refine g_getr 0 4 rfl hS.k3 hm.f_3_0 (by decide) ?_
  refine g_getu 0 rfl hS.k4 (fun v ev => ?_)
  exact g_if (fun w2 => g_C ⟨by decide, h0 (by omega)⟩) (fun w2 => g_C ⟨by decide, h1 (by omega)⟩)
theorem zs_isWant11 {X : Mm} {S : Sh} {m : Mm} {K : Int → Mm → Prop} {h : Int} (hS : Shp S) (hm : Inv X S m) (h1 : 0 ≤ h ∧ h < m 4 7 → K 1 m) (h0 : ¬ (0 ≤ h ∧ h < m 4 7) → K 0 m) : wp_X11_isWant S m 0 h K := by
  refine u_X11_isWant ?_
  refine g_if (fun w => g_C ⟨by decide, h0 (by omega)⟩) (fun w => ?_)
  refine g_getr 1 3 rfl hS.k0 hm.f_0_1 (by decide) ?_
  refine g_getr 0 4 rfl hS.k3 hm.f_3_0 (by decide) ?_
  refine g_getu 7 rfl hS.k4 (fun v ev => ?_)
  exact g_if (fun w2 => g_C ⟨by decide, h0 (by omega)⟩) (fun w2 => g_C ⟨by decide, h1 (by omega)⟩)
theorem zs_isHand12 {X : Mm} {S : Sh} {m : Mm} {K : Int → Mm → Prop} {h : Int} (hS : Shp S) (hm : Inv X S m) (h1 : 0 ≤ h ∧ h < m 346 4 → K 1 m) (h0 : ¬ (0 ≤ h ∧ h < m 346 4) → K 0 m) : wp_X12_isHand S m 336 h K := by
  refine u_X12_isHand ?_
  refine g_if (fun w => g_C ⟨by decide, h0 (by omega)⟩) (fun w => ?_)
  refine g_getr 20 346 rfl hS.k336 hm.f_336_20 (by decide) ?_
  refine g_C ?_
  refine g_ldu hS.k346 hS.l346 (by omega) (by omega) (fun v ev => ?_)
  exact g_if (fun w2 => g_C ⟨by decide, h0 (by omega)⟩) (fun w2 => g_C ⟨by decide, h1 (by omega)⟩)
theorem zs_isJug12 {X : Mm} {S : Sh} {m : Mm} {K : Int → Mm → Prop} {h : Int} (hS : Shp S) (hm : Inv X S m) (h1 : 0 ≤ h ∧ h < m 346 5 → K 1 m) (h0 : ¬ (0 ≤ h ∧ h < m 346 5) → K 0 m) : wp_X12_isJug S m 336 h K := by
  refine u_X12_isJug ?_
  refine g_if (fun w => g_C ⟨by decide, h0 (by omega)⟩) (fun w => ?_)
  refine g_getr 20 346 rfl hS.k336 hm.f_336_20 (by decide) ?_
  refine g_C ?_
  refine g_ldu hS.k346 hS.l346 (by omega) (by omega) (fun v ev => ?_)
  exact g_if (fun w2 => g_C ⟨by decide, h0 (by omega)⟩) (fun w2 => g_C ⟨by decide, h1 (by omega)⟩)
theorem zs_isWant12 {X : Mm} {S : Sh} {m : Mm} {K : Int → Mm → Prop} {h : Int} (hS : Shp S) (hm : Inv X S m) (h1 : 0 ≤ h ∧ h < m 346 6 → K 1 m) (h0 : ¬ (0 ≤ h ∧ h < m 346 6) → K 0 m) : wp_X12_isWant S m 336 h K := by
  refine u_X12_isWant ?_
  refine g_if (fun w => g_C ⟨by decide, h0 (by omega)⟩) (fun w => ?_)
  refine g_getr 20 346 rfl hS.k336 hm.f_336_20 (by decide) ?_
  refine g_C ?_
  refine g_ldu hS.k346 hS.l346 (by omega) (by omega) (fun v ev => ?_)
  exact g_if (fun w2 => g_C ⟨by decide, h0 (by omega)⟩) (fun w2 => g_C ⟨by decide, h1 (by omega)⟩)
theorem zs_isPlace12 {X : Mm} {S : Sh} {m : Mm} {K : Int → Mm → Prop} {h : Int} (hS : Shp S) (hm : Inv X S m) (h1 : 0 ≤ h ∧ h < m 346 0 → K 1 m) (h0 : ¬ (0 ≤ h ∧ h < m 346 0) → K 0 m) : wp_X12_isPlace S m 336 h K := by
  refine u_X12_isPlace ?_
  refine g_if (fun w => g_C ⟨by decide, h0 (by omega)⟩) (fun w => ?_)
  refine g_getr 20 346 rfl hS.k336 hm.f_336_20 (by decide) ?_
  refine g_C ?_
  refine g_ldu hS.k346 hS.l346 (by omega) (by omega) (fun v ev => ?_)
  exact g_if (fun w2 => g_C ⟨by decide, h0 (by omega)⟩) (fun w2 => g_C ⟨by decide, h1 (by omega)⟩)
theorem zs_giveTo {X : Mm} {S : Sh} {m : Mm} {K : Mm → Prop} {h j : Int} (hS : Shp S) (hm : Inv X S m) (i0 : 0 ≤ h) (i1 : h ≤ 4) (j0 : 0 ≤ j) (j1 : j ≤ 3) (hk : ∀ M1 : Mm, Inv X S M1 → (∀ c p : Int, ¬ (p = j ∧ (c = 20 ∨ c = 21)) → M1 c p = m c p) → M1 21 j = h → M1 20 j = -1 → K M1) : wp_X5_giveTo S m 16 h j K := by
  have hb : isSt 16 := by decide
  refine u_X5_giveTo ?_
  refine g_getr 6 21 rfl hS.k16 hm.f_16_6 (by decide) ?_
  refine g_st hS.k21 hS.l21 (by omega) (by omega) (hm.waB_5_5 hb j0 (by omega) (by omega) (by omega)) (fun m1 e1 hm1 => ?_)
  have f1 : ∀ c p : Int, ¬ (c = 21 ∧ p = j) → m1 c p = m c p := fun c p q => (congrFun (congrFun e1 _) _).trans (up_ne q)
  have y1 : m1 21 j = h := (congrFun (congrFun e1 _) _).trans (up_at _ _ _ _)
  refine g_getr 5 20 rfl hS.k16 hm1.f_16_5 (by decide) ?_
  refine g_C ?_
  refine g_st hS.k20 hS.l20 (by omega) (by omega) (hm1.waB_5_4 hb j0 (by omega) (by omega) (by omega)) (fun m2 e2 hm2 => ?_)
  have f2 : ∀ c p : Int, ¬ (c = 20 ∧ p = j) → m2 c p = m1 c p := fun c p q => (congrFun (congrFun e2 _) _).trans (up_ne q)
  have y2 : m2 20 j = -1 := (congrFun (congrFun e2 _) _).trans (up_at _ _ _ _)
  exact hk m2 hm2 (fun c p q => by rw [f2 c p (by omega), f1 c p (by omega)]) (by rw [f2 21 j (by omega), y1]) y2
abbrev cTk (m : Mm) (h j : Int) : Prop := (0 ≤ h ∧ h < m 4 4) ∧ (0 ≤ j ∧ j < m 4 5) ∧ (¬ m 20 j = -1 ∧ m 20 j = m 17 h ∧ m 18 h = 0 ∧ bcF (hbt (m 21) h 4) < 2)
theorem zs_take11 {X : Mm} {S : Sh} {m0 : Mm} {K : Int → Mm → Prop} {h j : Int} (hS : Shp S) (hm : Inv X S m0) (h0 : ¬ cTk m0 h j → K (-1) m0) (hk : ∀ (i : Int) (M1 M2 : Mm), cTk m0 h j → KP m0 M1 i → Inv X S M2 → (∀ c p : Int, ¬ (p = j ∧ (c = 20 ∨ c = 21)) → M2 c p = M1 c p) → M2 21 j = h → M2 20 j = -1 → K (hbt (M2 21) h 4) M2) : wp_X11_take S m0 0 h j K := by
  have b4 := hm.f_4_4
  have b5 := hm.f_4_5
  have hb : isSt 16 := by decide
  refine u_X11_take ?_
  refine ⟨hS.k0, ?_⟩
  refine zs_isHand11 hS hm (fun c1 => g_ifF (by decide) ?_) (fun c1 => g_ifT rfl (g_C (h0 (fun z => c1 z.1))))
  refine ⟨hS.k0, ?_⟩
  refine zs_isJug11 hS hm (fun c2 => g_ifF (by decide) ?_) (fun c2 => g_ifT rfl (g_C (h0 (fun z => c2 z.2.1))))
  refine g_getr 1 3 rfl hS.k0 hm.f_0_1 (by decide) ?_
  refine g_getr 1 16 rfl hS.k3 hm.f_3_1 (by decide) ?_
  refine ⟨hS.k16, ?_⟩
  refine zt_canTake hS hm hb (by omega) (by omega) (by omega) (by omega) (fun c3 => g_ifT (by decide) ?_) (fun c3 => g_ifF (by decide) (g_C (h0 (fun z => c3 z.2.2))))
  refine ⟨hS.k0, ?_⟩
  refine zk_keepPast hS hm (fun i m1 hm1 kp => ?_)
  refine g_getr 1 3 rfl hS.k0 hm1.f_0_1 (by decide) ?_
  refine g_getr 1 16 rfl hS.k3 hm1.f_3_1 (by decide) ?_
  refine ⟨hS.k16, ?_⟩
  refine zs_giveTo hS hm1 (by omega) (by omega) (by omega) (by omega) (fun m2 hm2 f2 y21 y20 => ?_)
  refine g_getr 1 3 rfl hS.k0 hm2.f_0_1 (by decide) ?_
  refine g_getr 1 16 rfl hS.k3 hm2.f_3_1 (by decide) ?_
  refine ⟨hS.k16, ?_⟩
  exact zt_heldBits hS hm2 hb (hk i m1 m2 ⟨c1, c2, c3⟩ kp hm2 f2 y21 y20)
theorem zs_takes {X : Mm} {S : Sh} {m : Mm} {K : Mm → Prop} {h j : Int} (hS : Shp S) (hm : Inv X S m) (i0 : -1 ≤ h) (i1 : h ≤ 4) (j0 : 0 ≤ j) (j1 : j ≤ 3) (hk : ∀ M1 : Mm, Inv X S M1 → (∀ c p : Int, ¬ (c = 346 ∧ p = 35 + 4 * j + 1) → M1 c p = m c p) → M1 346 (35 + 4 * j + 1) = h → K M1) : wp_X12_takes S m 336 h j K := by
  refine u_X12_takes ?_
  refine g_getr 20 346 rfl hS.k336 hm.f_336_20 (by decide) ?_
  refine g_C ?_
  refine g_C ?_
  refine g_M (by omega) (by omega) ?_
  refine g_A (by omega) (by omega) ?_
  refine g_C ?_
  refine g_A (by omega) (by omega) ?_
  refine g_st hS.k346 hS.l346 (by omega) (by omega) (wfm_346_36_4_0_3 hm (a := j) (by omega) (by omega) (by omega) (by omega) (by omega)) (fun m1 e1 hm1 => ?_)
  exact hk m1 hm1 (fun c p q => (congrFun (congrFun e1 _) _).trans (up_ne q)) ((congrFun (congrFun e1 _) _).trans (up_at _ _ _ _))
abbrev rTk (m : Mm) (h j : Int) : Prop := (0 ≤ h ∧ h < m 346 4) ∧ (0 ≤ j ∧ j < m 346 5) ∧ (m 346 (10 + 5 * h + 1) = 0 ∧ StR m j ∧ m 346 (35 + 4 * j + 0) = m 346 (10 + 5 * h + 0) ∧ bcF (hbR m h) < 2)
theorem zs_take12 {X : Mm} {S : Sh} {m0 : Mm} {K : Int → Mm → Prop} {h j : Int} (hS : Shp S) (hm : Inv X S m0) (h0 : ¬ rTk m0 h j → K (-1) m0) (hk : ∀ (u s : Int) (M1 M2 : Mm), rTk m0 h j → KA m0 M1 u s → Inv X S M2 → (∀ c p : Int, ¬ (c = 346 ∧ p = 35 + 4 * j + 1) → M2 c p = M1 c p) → M2 346 (35 + 4 * j + 1) = h → K (hbR M2 h) M2) : wp_X12_take S m0 336 h j K := by
  have b4 := hm.f_346_4
  have b5 := hm.f_346_5
  refine u_X12_take ?_
  refine ⟨hS.k336, ?_⟩
  refine zs_isHand12 hS hm (fun c1 => g_ifF (by decide) ?_) (fun c1 => g_ifT rfl (g_C (h0 (fun z => c1 z.1))))
  refine ⟨hS.k336, ?_⟩
  refine zs_isJug12 hS hm (fun c2 => g_ifF (by decide) ?_) (fun c2 => g_ifT rfl (g_C (h0 (fun z => c2 z.2.1))))
  refine ⟨hS.k336, ?_⟩
  refine zt_takeR hS hm (by omega) (by omega) (by omega) (by omega) (fun c3 => g_ifT (by decide) ?_) (fun c3 => g_ifF (by decide) (g_C (h0 (fun z => c3 z.2.2))))
  refine ⟨hS.k336, ?_⟩
  refine zk_keepsAct hS hm (fun u s m1 hm1 ka => ?_)
  refine ⟨hS.k336, ?_⟩
  refine zs_takes hS hm1 (by omega) (by omega) (by omega) (by omega) (fun m2 hm2 f2 y2 => ?_)
  refine ⟨hS.k336, ?_⟩
  exact zt_held hS hm2 (hk u s m1 m2 ⟨c1, c2, c3⟩ ka hm2 f2 y2)
end
section
/-! put, handOn, go of both sides, to the letter -/
abbrev cPt (m : Mm) (h j : Int) : Prop := (0 ≤ h ∧ h < m 4 4) ∧ (0 ≤ j ∧ j < m 4 5) ∧ m 18 h = 0 ∧ m 21 j = h
theorem zs_put11 {X : Mm} {S : Sh} {m0 : Mm} {K : Int → Mm → Prop} {h j : Int} (hS : Shp S) (hm : Inv X S m0) (h0 : ¬ cPt m0 h j → K (-1) m0) (hk : ∀ (i : Int) (M1 M2 : Mm), cPt m0 h j → KP m0 M1 i → Inv X S M2 → (∀ c p : Int, ¬ (p = j ∧ (c = 20 ∨ c = 21)) → M2 c p = M1 c p) → M2 21 j = -1 → M2 20 j = m0 17 h → K (m0 17 h) M2) : wp_X11_put S m0 0 h j K := by
  have b4 := hm.f_4_4
  have b5 := hm.f_4_5
  have hb : isSt 16 := by decide
  refine u_X11_put ?_
  refine ⟨hS.k0, ?_⟩
  refine zs_isHand11 hS hm (fun c1 => g_ifF (by decide) ?_) (fun c1 => g_ifT rfl (g_C (h0 (fun z => c1 z.1))))
  refine ⟨hS.k0, ?_⟩
  refine zs_isJug11 hS hm (fun c2 => g_ifF (by decide) ?_) (fun c2 => g_ifT rfl (g_C (h0 (fun z => c2 z.2.1))))
  refine g_getr 1 3 rfl hS.k0 hm.f_0_1 (by decide) ?_
  refine g_getr 1 16 rfl hS.k3 hm.f_3_1 (by decide) ?_
  refine ⟨hS.k16, ?_⟩
  refine zt_atPlace hS hm hb (by omega) (by omega) (fun c3 => g_ifT (by decide) ?_) (fun c3 => g_ifF (by decide) (g_C (h0 (fun z => c3 z.2.2.1))))
  refine g_getr 1 3 rfl hS.k0 hm.f_0_1 (by decide) ?_
  refine g_getr 1 16 rfl hS.k3 hm.f_3_1 (by decide) ?_
  refine g_getr 6 21 rfl hS.k16 hm.f_16_6 (by decide) ?_
  refine g_ldu hS.k21 hS.l21 (by omega) (by omega) (fun v ev => ?_)
  refine g_if (fun w => ?_) (fun w => g_C (h0 (fun z => w (ev.trans z.2.2.2))))
  refine ⟨hS.k0, ?_⟩
  refine zk_keepPast hS hm (fun i m1 hm1 kp => ?_)
  refine g_getr 1 3 rfl hS.k0 hm1.f_0_1 (by decide) ?_
  refine g_getr 1 16 rfl hS.k3 hm1.f_3_1 (by decide) ?_
  refine g_getr 6 21 rfl hS.k16 hm1.f_16_6 (by decide) ?_
  refine g_C ?_
  refine g_st hS.k21 hS.l21 (by omega) (by omega) (hm1.waB_5_5 hb c2.1 (by omega) (by omega) (by omega)) (fun m2 e2 hm2 => ?_)
  have f2 : ∀ c p : Int, ¬ (c = 21 ∧ p = j) → m2 c p = m1 c p := fun c p q => (congrFun (congrFun e2 _) _).trans (up_ne q)
  have y2 : m2 21 j = -1 := (congrFun (congrFun e2 _) _).trans (up_at _ _ _ _)
  refine g_getr 1 3 rfl hS.k0 hm2.f_0_1 (by decide) ?_
  refine g_getr 1 16 rfl hS.k3 hm2.f_3_1 (by decide) ?_
  refine g_getr 5 20 rfl hS.k16 hm2.f_16_5 (by decide) ?_
  refine g_getr 1 3 rfl hS.k0 hm2.f_0_1 (by decide) ?_
  refine g_getr 1 16 rfl hS.k3 hm2.f_3_1 (by decide) ?_
  refine g_getr 2 17 rfl hS.k16 hm2.f_16_2 (by decide) ?_
  refine g_ldu hS.k17 hS.l17 (by omega) (by omega) (fun v2 ev2 => ?_)
  have q17 : 0 ≤ m2 17 h ∧ m2 17 h ≤ 5 := hm2.aB_5_1 hb (i := h) (by omega) (by omega)
  have r17 : m2 17 h = m0 17 h := by rw [f2 17 h (by omega), kp.f (by omega) (by omega)]
  refine g_st hS.k20 hS.l20 (by omega) (by omega) (hm2.waB_5_4 hb c2.1 (by omega) (by omega) (by omega)) (fun m3 e3 hm3 => ?_)
  have f3 : ∀ c p : Int, ¬ (c = 20 ∧ p = j) → m3 c p = m2 c p := fun c p q => (congrFun (congrFun e3 _) _).trans (up_ne q)
  have y3 : m3 20 j = v2 := (congrFun (congrFun e3 _) _).trans (up_at _ _ _ _)
  refine g_getr 1 3 rfl hS.k0 hm3.f_0_1 (by decide) ?_
  refine g_getr 1 16 rfl hS.k3 hm3.f_3_1 (by decide) ?_
  refine g_getr 2 17 rfl hS.k16 hm3.f_16_2 (by decide) ?_
  refine g_ldu hS.k17 hS.l17 (by omega) (by omega) (fun v3 ev3 => ?_)
  have e4 : v3 = m0 17 h := by rw [ev3, f3 17 h (by omega), r17]
  rw [e4]
  exact hk i m1 m3 ⟨c1, c2, c3, ev.symm.trans w⟩ kp hm3 (fun c p q => by rw [f3 c p (by omega), f2 c p (by omega)]) (by rw [f3 21 j (by omega), y2]) (by rw [y3, ev2, r17])
abbrev rPt (m : Mm) (h j : Int) : Prop := (0 ≤ h ∧ h < m 346 4) ∧ (0 ≤ j ∧ j < m 346 5) ∧ m 346 (35 + 4 * j + 1) = h ∧ m 346 (10 + 5 * h + 1) = 0
theorem zs_put12 {X : Mm} {S : Sh} {m0 : Mm} {K : Int → Mm → Prop} {h j : Int} (hS : Shp S) (hm : Inv X S m0) (h0 : ¬ rPt m0 h j → K (-1) m0) (hk : ∀ (u s : Int) (M1 M2 : Mm), rPt m0 h j → KA m0 M1 u s → Inv X S M2 → (∀ c p : Int, ¬ (c = 346 ∧ (p = 35 + 4 * j + 1 ∨ p = 35 + 4 * j)) → M2 c p = M1 c p) → M2 346 (35 + 4 * j + 1) = -1 → M2 346 (35 + 4 * j) = m0 346 (10 + 5 * h + 0) → K (m0 346 (10 + 5 * h + 0)) M2) : wp_X12_put S m0 336 h j K := by
  have b4 := hm.f_346_4
  have b5 := hm.f_346_5
  refine u_X12_put ?_
  refine ⟨hS.k336, ?_⟩
  refine zs_isHand12 hS hm (fun c1 => g_ifF (by decide) ?_) (fun c1 => g_ifT rfl (g_C (h0 (fun z => c1 z.1))))
  refine ⟨hS.k336, ?_⟩
  refine zs_isJug12 hS hm (fun c2 => g_ifF (by decide) ?_) (fun c2 => g_ifT rfl (g_C (h0 (fun z => c2 z.2.1))))
  refine g_C ?_
  refine ⟨hS.k336, ?_⟩
  refine zt_jugOf hS hm (by omega) (by omega) (by omega) (by omega) ?_
  refine g_if (fun w => g_C (h0 (fun z => w z.2.2.1))) (fun w => ?_)
  refine ⟨hS.k336, ?_⟩
  refine zt_atR hS hm (by omega) (by omega) (fun c3 => g_ifT (by decide) ?_) (fun c3 => g_ifF (by decide) (g_C (h0 (fun z => c3 z.2.2.2))))
  refine ⟨hS.k336, ?_⟩
  refine zk_keepsAct hS hm (fun u s m1 hm1 ka => ?_)
  refine g_getr 20 346 rfl hS.k336 hm1.f_336_20 (by decide) ?_
  refine g_C ?_
  refine g_C ?_
  refine g_M (by omega) (by omega) ?_
  refine g_A (by omega) (by omega) ?_
  refine g_C ?_
  refine g_A (by omega) (by omega) ?_
  refine g_C ?_
  refine g_st hS.k346 hS.l346 (by omega) (by omega) (wfm_346_36_4_0_3 hm1 (a := j) (by omega) (by omega) (by omega) (by omega) (by omega)) (fun m2 e2 hm2 => ?_)
  have f2 : ∀ c p : Int, ¬ (c = 346 ∧ p = 35 + 4 * j + 1) → m2 c p = m1 c p := fun c p q => (congrFun (congrFun e2 _) _).trans (up_ne q)
  have y2 : m2 346 (35 + 4 * j + 1) = -1 := (congrFun (congrFun e2 _) _).trans (up_at _ _ _ _)
  refine g_getr 20 346 rfl hS.k336 hm2.f_336_20 (by decide) ?_
  refine g_C ?_
  refine g_C ?_
  refine g_M (by omega) (by omega) ?_
  refine g_A (by omega) (by omega) ?_
  refine g_C ?_
  refine ⟨hS.k336, ?_⟩
  refine zt_handOf hS hm2 (by omega) (by omega) (by omega) (by omega) ?_
  have r0 : m2 346 (10 + 5 * h + 0) = m0 346 (10 + 5 * h + 0) := by rw [f2 346 _ (by omega), ka.f (by omega) (by omega)]
  have q0 : 0 ≤ m2 346 (10 + 5 * h + 0) ∧ m2 346 (10 + 5 * h + 0) ≤ 5 := fam_346_10_5_0_4 hm2 (a := h) (by omega) (by omega) (by omega)
  have x4 : m0 346 4 = X 346 4 := hm.g (by decide)
  have pp : m2 346 (10 + 5 * h) < X 346 0 := hm2.pl.1.1 h c1.1 (by omega)
  rw [show 10 + 5 * h = 10 + 5 * h + 0 by omega] at pp
  refine g_st hS.k346 hS.l346 (by omega) (by omega) (wfm_346_35_4_0_3 hm2 (a := j) (by omega) (by omega) (by omega) (by omega) (by omega) pp) (fun m3 e3 hm3 => ?_)
  have f3 : ∀ c p : Int, ¬ (c = 346 ∧ p = 35 + 4 * j) → m3 c p = m2 c p := fun c p q => (congrFun (congrFun e3 _) _).trans (up_ne q)
  have y3 : m3 346 (35 + 4 * j) = m2 346 (10 + 5 * h + 0) := (congrFun (congrFun e3 _) _).trans (up_at _ _ _ _)
  refine g_C ?_
  refine ⟨hS.k336, ?_⟩
  refine zt_handOf hS hm3 (by omega) (by omega) (by omega) (by omega) ?_
  rw [f3 346 (10 + 5 * h + 0) (by omega), r0]
  exact hk u s m1 m3 ⟨c1, c2, by omega, c3⟩ ka hm3 (fun c p q => by rw [f3 c p (by omega), f2 c p (by omega)]) (by rw [f3 346 _ (by omega), y2]) (by rw [y3, r0])
abbrev cHo (m : Mm) (j h : Int) : Prop := (0 ≤ h ∧ h < m 4 4) ∧ (0 ≤ j ∧ j < m 4 5) ∧ (0 ≤ m 21 j ∧ m 21 j < m 4 4) ∧ ¬ m 21 j = h ∧ (m 18 (m 21 j) = 0 ∧ m 17 (m 21 j) = m 17 h ∧ m 18 h = 0 ∧ bcF (hbt (m 21) h 4) < 2)
theorem zs_handOn11 {X : Mm} {S : Sh} {m0 : Mm} {K : Int → Mm → Prop} {j h : Int} (hS : Shp S) (hm : Inv X S m0) (h0 : ¬ cHo m0 j h → K (-1) m0) (hk : ∀ (i : Int) (M1 M2 : Mm), cHo m0 j h → KP m0 M1 i → Inv X S M2 → (∀ c p : Int, ¬ (p = j ∧ (c = 20 ∨ c = 21)) → M2 c p = M1 c p) → M2 21 j = h → M2 20 j = -1 → K (m0 21 j) M2) : wp_X11_handOn S m0 0 j h K := by
  have b4 := hm.f_4_4
  have b5 := hm.f_4_5
  have hb : isSt 16 := by decide
  refine u_X11_handOn ?_
  refine ⟨hS.k0, ?_⟩
  refine zs_isHand11 hS hm (fun c1 => g_ifF (by decide) ?_) (fun c1 => g_ifT rfl (g_C (h0 (fun z => c1 z.1))))
  refine ⟨hS.k0, ?_⟩
  refine zs_isJug11 hS hm (fun c2 => g_ifT (by decide) ?_) (fun c2 => g_ifF (by decide) (g_C (h0 (fun z => c2 z.2.1))))
  refine g_getr 1 3 rfl hS.k0 hm.f_0_1 (by decide) ?_
  refine g_getr 1 16 rfl hS.k3 hm.f_3_1 (by decide) ?_
  refine g_getr 6 21 rfl hS.k16 hm.f_16_6 (by decide) ?_
  refine g_ldu hS.k21 hS.l21 (by omega) (by omega) (fun v ev => ?_)
  subst ev
  refine ⟨hS.k0, ?_⟩
  refine zs_isHand11 hS hm (fun c3 => g_ifF (by decide) ?_) (fun c3 => g_ifT rfl (g_C (h0 (fun z => c3 z.2.2.1))))
  refine g_if (fun w => g_C (h0 (fun z => z.2.2.2.1 w))) (fun w => ?_)
  refine g_getr 1 3 rfl hS.k0 hm.f_0_1 (by decide) ?_
  refine g_getr 1 16 rfl hS.k3 hm.f_3_1 (by decide) ?_
  refine ⟨hS.k16, ?_⟩
  refine zt_canGive hS hm hb (by omega) (by omega) (by omega) (by omega) (fun c4 => g_ifT (by decide) ?_) (fun c4 => g_ifF (by decide) (g_C (h0 (fun z => c4 z.2.2.2.2))))
  refine ⟨hS.k0, ?_⟩
  refine zk_keepPast hS hm (fun i m1 hm1 kp => ?_)
  refine g_getr 1 3 rfl hS.k0 hm1.f_0_1 (by decide) ?_
  refine g_getr 1 16 rfl hS.k3 hm1.f_3_1 (by decide) ?_
  refine ⟨hS.k16, ?_⟩
  exact zs_giveTo hS hm1 (by omega) (by omega) (by omega) (by omega) (fun m2 hm2 f2 y21 y20 => hk i m1 m2 ⟨c1, c2, c3, w, c4⟩ kp hm2 f2 y21 y20)
abbrev rHo (m : Mm) (j h : Int) : Prop := (0 ≤ j ∧ j < m 346 5) ∧ (0 ≤ h ∧ h < m 346 4) ∧ 0 ≤ m 346 (35 + 4 * j + 1) ∧ ¬ m 346 (35 + 4 * j + 1) = h ∧ m 346 (10 + 5 * m 346 (35 + 4 * j + 1) + 1) = 0 ∧ m 346 (10 + 5 * h + 1) = 0 ∧ m 346 (10 + 5 * m 346 (35 + 4 * j + 1) + 0) = m 346 (10 + 5 * h + 0) ∧ ¬ bcF (hbR m h) = 2
theorem zs_handOn12 {X : Mm} {S : Sh} {m0 : Mm} {K : Int → Mm → Prop} {j h : Int} (hS : Shp S) (hm : Inv X S m0) (h0 : ¬ rHo m0 j h → K (-1) m0) (hk : ∀ (u s : Int) (M1 M2 : Mm), rHo m0 j h → KA m0 M1 u s → Inv X S M2 → (∀ c p : Int, ¬ (c = 346 ∧ p = 35 + 4 * j + 1) → M2 c p = M1 c p) → M2 346 (35 + 4 * j + 1) = h → K (m0 346 (35 + 4 * j + 1)) M2) : wp_X12_handOn S m0 336 j h K := by
  have b4 := hm.f_346_4
  have b5 := hm.f_346_5
  refine u_X12_handOn ?_
  refine ⟨hS.k336, ?_⟩
  refine zs_isJug12 hS hm (fun c1 => g_ifF (by decide) ?_) (fun c1 => g_ifT rfl (g_C (h0 (fun z => c1 z.1))))
  refine ⟨hS.k336, ?_⟩
  refine zs_isHand12 hS hm (fun c2 => g_ifF (by decide) ?_) (fun c2 => g_ifT rfl (g_C (h0 (fun z => c2 z.2.1))))
  have bj : -1 ≤ m0 346 (35 + 4 * j + 1) ∧ m0 346 (35 + 4 * j + 1) ≤ 4 := fam_346_36_4_0_3 hm (a := j) (by omega) (by omega) (by omega)
  refine g_C ?_
  refine ⟨hS.k336, ?_⟩
  refine zt_jugOf hS hm (by omega) (by omega) (by omega) (by omega) ?_
  refine g_if (fun w => g_C (h0 (fun z => absurd z.2.2.1 (by omega)))) (fun w => ?_)
  refine g_C ?_
  refine ⟨hS.k336, ?_⟩
  refine zt_jugOf hS hm (by omega) (by omega) (by omega) (by omega) ?_
  refine g_if (fun w2 => ?_) (fun w2 => g_C (h0 (fun z => w2 z.2.2.2.1)))
  refine g_C ?_
  refine ⟨hS.k336, ?_⟩
  refine zt_jugOf hS hm (by omega) (by omega) (by omega) (by omega) ?_
  refine ⟨hS.k336, ?_⟩
  refine zt_atR hS hm (by omega) (by omega) (fun c3 => g_ifF (by decide) ?_) (fun c3 => g_ifT rfl (g_C (h0 (fun z => c3 z.2.2.2.2.1))))
  refine ⟨hS.k336, ?_⟩
  refine zt_atR hS hm (by omega) (by omega) (fun c4 => g_ifF (by decide) ?_) (fun c4 => g_ifT rfl (g_C (h0 (fun z => c4 z.2.2.2.2.2.1))))
  refine g_C ?_
  refine ⟨hS.k336, ?_⟩
  refine zt_handOf hS hm (by omega) (by omega) (by omega) (by omega) ?_
  refine g_C ?_
  refine ⟨hS.k336, ?_⟩
  refine zt_handOf hS hm (by omega) (by omega) (by omega) (by omega) ?_
  refine g_if (fun w3 => g_C (h0 (fun z => w3 z.2.2.2.2.2.2.1))) (fun w3 => ?_)
  refine ⟨hS.k336, ?_⟩
  refine zt_held hS hm ?_
  have bb := hbt_15 (f := fun j => m0 346 (36 + 4 * j)) (h := h) (n := (m0 346 5).toNat) (by omega)
  refine zt_bits bb.1 bb.2 ?_
  refine g_C ?_
  refine g_if (fun w4 => ?_) (fun w4 => g_C (h0 (fun z => w4 z.2.2.2.2.2.2.2)))
  refine ⟨hS.k336, ?_⟩
  refine zk_keepsAct hS hm (fun u s m1 hm1 ka => ?_)
  refine ⟨hS.k336, ?_⟩
  exact zs_takes hS hm1 (by omega) (by omega) (by omega) (by omega) (fun m2 hm2 f2 y2 => hk u s m1 m2 ⟨c1, c2, by omega, w2, c3, c4, by omega, w4⟩ ka hm2 f2 y2)
abbrev rMt (D : Int → Int) (a c k : Int) : Prop := (D (57 + 3 * k) = a ∧ D (57 + 3 * k + 1) = c) ∨ (D (57 + 3 * k) = c ∧ D (57 + 3 * k + 1) = a)
theorem zs_roadOf {X : Mm} {S : Sh} {m : Mm} {K : Int → Mm → Prop} {a b : Int} (hS : Shp S) (hm : Inv X S m) (h0 : ¬ Rt (m 346) a b → K 0 m) (hk : ∀ k : Int, 0 ≤ k → k < m 346 3 → rMt (m 346) a b k → K (m 346 (57 + 3 * k + 2)) m) : wp_X12_roadOf S m 336 a b K := by
  have b3 := hm.f_346_3
  refine u_X12_roadOf ?_
  refine g_C ?_
  have L : ∀ (n : Nat) (i : Int), 0 ≤ i → i ≤ m 346 3 → (∀ l : Int, 0 ≤ l → l < i → ¬ rMt (m 346) a b l) → 9 - i ≤ (n : Int) → wp_X12_roadOf_2 S K n 336 a b i m := by
    intro n
    induction n with
    | zero => intro i i0 i1 _ hn; exfalso; omega
    | succ n ih =>
      intro i i0 i1 hi hn
      refine u_X12_roadOf_2 ?_
      refine g_getr 20 346 rfl hS.k336 hm.f_336_20 (by decide) ?_
      refine g_C ?_
      refine g_ldu hS.k346 hS.l346 (by omega) (by omega) (fun v ev => ?_)
      refine g_if (fun w => g_C (h0 (fun z => ?_))) (fun w => ?_)
      · obtain ⟨k, k0, k1, k2⟩ := z
        exact hi k k0 (by omega) k2
      have found : rMt (m 346) a b i → wp_X12_roadOf_68 S K 336 (57 + 3 * i) m := by
        intro q
        refine u_X12_roadOf_68 ?_
        refine g_getr 20 346 rfl hS.k336 hm.f_336_20 (by decide) ?_
        refine g_C ?_
        refine g_A (by omega) (by omega) ?_
        refine g_ldu hS.k346 hS.l346 (by omega) (by omega) (fun v2 ev2 => ?_)
        rw [ev2]
        exact hk i i0 (by omega) q
      have next : ¬ rMt (m 346) a b i → wp_X12_roadOf_78 S (fun a0 a1 a2 a3 M => wp_X12_roadOf_2 S K n a0 a1 a2 a3 M) K 336 a b i m := by
        intro q
        refine u_X12_roadOf_78 ?_
        refine g_A (by omega) (by omega) ?_
        refine ih (i + 1) (by omega) (by omega) (fun l l0 l1 => ?_) (by omega)
        by_cases e : l = i
        · rw [e]; exact q
        · exact hi l l0 (by omega)
      have second : ¬ (m 346 (57 + 3 * i) = a ∧ m 346 (57 + 3 * i + 1) = b) → wp_X12_roadOf_44 S (fun a0 a1 a2 a3 M => wp_X12_roadOf_2 S K n a0 a1 a2 a3 M) K 336 a b i (57 + 3 * i) m := by
        intro q
        refine u_X12_roadOf_44 ?_
        refine g_getr 20 346 rfl hS.k336 hm.f_336_20 (by decide) ?_
        refine g_ldu hS.k346 hS.l346 (by omega) (by omega) (fun v2 ev2 => ?_)
        refine g_if (fun w2 => next (fun z => z.elim q (fun y => w2 (ev2.trans y.1)))) (fun w2 => ?_)
        refine g_getr 20 346 rfl hS.k336 hm.f_336_20 (by decide) ?_
        refine g_C ?_
        refine g_A (by omega) (by omega) ?_
        refine g_ldu hS.k346 hS.l346 (by omega) (by omega) (fun v3 ev3 => ?_)
        exact g_if (fun w3 => next (fun z => z.elim q (fun y => w3 (ev3.trans y.2)))) (fun w3 => found (Or.inr ⟨by omega, by omega⟩))
      refine g_C ?_
      refine g_C ?_
      refine g_M (by omega) (by omega) ?_
      refine g_A (by omega) (by omega) ?_
      refine g_getr 20 346 rfl hS.k336 hm.f_336_20 (by decide) ?_
      refine g_ldu hS.k346 hS.l346 (by omega) (by omega) (fun v2 ev2 => ?_)
      refine g_if (fun w2 => second (fun z => w2 (ev2.trans z.1))) (fun w2 => ?_)
      refine g_getr 20 346 rfl hS.k336 hm.f_336_20 (by decide) ?_
      refine g_C ?_
      refine g_A (by omega) (by omega) ?_
      refine g_ldu hS.k346 hS.l346 (by omega) (by omega) (fun v3 ev3 => ?_)
      exact g_if (fun w3 => found (Or.inl ⟨by omega, by omega⟩)) (fun w3 => second (fun z => w3 (ev3.trans z.2)))
  exact ⟨9, L 9 0 (by omega) (by omega) (fun l l0 l1 => absurd l1 (by omega)) (by omega)⟩
end
section
/-! go and meet of both sides, to the letter -/
theorem zs_roadFor {X : Mm} {S : Sh} {m : Mm} {K : Int → Mm → Prop} {h p : Int} (hS : Shp S) (hm : Inv X S m) (i0 : 0 ≤ h) (i1 : h ≤ 4) (p0 : 0 ≤ p) (p1 : p ≤ 5) (h0 : ¬ m 18 h = 0 → K 0 m) (hk : m 18 h = 0 → 0 ≤ m 17 h → m 17 h ≤ 5 → K (m 5 (6 * m 17 h + p)) m) : wp_X5_roadFor S m 16 4 h p K := by
  have hb : isSt 16 := by decide
  refine u_X5_roadFor ?_
  refine ⟨hS.k16, ?_⟩
  refine zt_atPlace hS hm hb i0 i1 (fun c3 => g_ifF (by decide) ?_) (fun c3 => g_ifT rfl (g_C (h0 c3)))
  refine g_getr 2 17 rfl hS.k16 hm.f_16_2 (by decide) ?_
  refine g_ldu hS.k17 hS.l17 (by omega) (by omega) (fun v ev => ?_)
  have q17 : 0 ≤ m 17 h ∧ m 17 h ≤ 5 := hm.aB_5_1 hb (i := h) (by omega) (by omega)
  refine ⟨hS.k4, ?_⟩
  refine u_X8_roadHours ?_
  refine g_getr 8 5 rfl hS.k4 hm.f_4_8 (by decide) ?_
  refine u_X8_pair ?_
  refine g_C ?_
  refine g_M (by omega) (by omega) ?_
  refine g_A (by omega) (by omega) ?_
  refine g_ldu hS.k5 hS.l5 (by omega) (by omega) (fun v2 ev2 => ?_)
  rw [ev2, show v * 6 + p = 6 * m 17 h + p by omega]
  exact hk c3 q17.1 q17.2
abbrev cGo (m : Mm) (h p : Int) : Prop := (0 ≤ h ∧ h < m 4 4) ∧ (0 ≤ p ∧ p < m 4 0) ∧ m 18 h = 0 ∧ ¬ m 5 (6 * m 17 h + p) = 0
theorem zs_go11 {X : Mm} {S : Sh} {m0 : Mm} {K : Int → Mm → Prop} {h p : Int} (hS : Shp S) (hm : Inv X S m0) (h0 : ¬ cGo m0 h p → K (-1) m0) (hk : ∀ (i : Int) (M1 M2 : Mm), cGo m0 h p → KP m0 M1 i → Inv X S M2 → (∀ c q : Int, ¬ (q = h ∧ (c = 17 ∨ c = 18)) → M2 c q = M1 c q) → M2 17 h = p → M2 18 h = m0 5 (6 * m0 17 h + p) → K (m0 5 (6 * m0 17 h + p)) M2) : wp_X11_go S m0 0 h p K := by
  have b4 := hm.f_4_4
  have b0 := hm.f_4_0
  have hb : isSt 16 := by decide
  refine u_X11_go ?_
  refine ⟨hS.k0, ?_⟩
  refine zs_isHand11 hS hm (fun c1 => g_ifF (by decide) ?_) (fun c1 => g_ifT rfl (g_C (h0 (fun z => c1 z.1))))
  refine ⟨hS.k0, ?_⟩
  refine zs_isPlace11 hS hm (fun c2 => g_ifT (by decide) ?_) (fun c2 => g_ifF (by decide) (g_C (h0 (fun z => c2 z.2.1))))
  refine g_getr 1 3 rfl hS.k0 hm.f_0_1 (by decide) ?_
  refine g_getr 1 16 rfl hS.k3 hm.f_3_1 (by decide) ?_
  refine g_getr 1 3 rfl hS.k0 hm.f_0_1 (by decide) ?_
  refine g_getr 0 4 rfl hS.k3 hm.f_3_0 (by decide) ?_
  refine ⟨hS.k16, ?_⟩
  refine zs_roadFor hS hm (by omega) (by omega) (by omega) (by omega) (fun c3 => g_ifF (by decide) (g_C (h0 (fun z => c3 z.2.2.1)))) (fun c3 q0 q1 => ?_)
  refine g_if (fun c4 => ?_) (fun c4 => g_C (h0 (fun z => c4 z.2.2.2)))
  have br : 0 ≤ m0 5 (6 * m0 17 h + p) ∧ m0 5 (6 * m0 17 h + p) ≤ 5 := hm.a_5 (i := 6 * m0 17 h + p) (by omega) (by omega)
  refine ⟨hS.k0, ?_⟩
  refine zk_keepPast hS hm (fun i m1 hm1 kp => ?_)
  refine g_getr 1 3 rfl hS.k0 hm1.f_0_1 (by decide) ?_
  refine g_getr 1 16 rfl hS.k3 hm1.f_3_1 (by decide) ?_
  refine ⟨hS.k16, ?_⟩
  refine u_X5_setOut ?_
  refine g_getr 2 17 rfl hS.k16 hm1.f_16_2 (by decide) ?_
  refine g_st hS.k17 hS.l17 (by omega) (by omega) (hm1.waB_5_1 hb c1.1 (by omega) (by omega) (by omega)) (fun m2 e2 hm2 => ?_)
  have f2 : ∀ c q : Int, ¬ (c = 17 ∧ q = h) → m2 c q = m1 c q := fun c q z => (congrFun (congrFun e2 _) _).trans (up_ne z)
  have y2 : m2 17 h = p := (congrFun (congrFun e2 _) _).trans (up_at _ _ _ _)
  refine g_getr 3 18 rfl hS.k16 hm2.f_16_3 (by decide) ?_
  refine g_st hS.k18 hS.l18 (by omega) (by omega) (hm2.waB_5_2 hb c1.1 (by omega) (by omega) (by omega)) (fun m3 e3 hm3 => ?_)
  have f3 : ∀ c q : Int, ¬ (c = 18 ∧ q = h) → m3 c q = m2 c q := fun c q z => (congrFun (congrFun e3 _) _).trans (up_ne z)
  have y3 : m3 18 h = m0 5 (6 * m0 17 h + p) := (congrFun (congrFun e3 _) _).trans (up_at _ _ _ _)
  exact hk i m1 m3 ⟨c1, c2, c3, c4⟩ kp hm3 (fun c q z => by rw [f3 c q (by omega), f2 c q (by omega)]) (by rw [f3 17 h (by omega), y2]) y3
/-- the ROADS of a row, as a table -/
def RO (D f : Int → Int) : Prop := ∀ a c : Int, 0 ≤ a → a ≤ 5 → 0 ≤ c → c ≤ 5 → (f (6 * a + c) = 0 ∧ ¬ Rt D a c) ∨ (1 ≤ f (6 * a + c) ∧ Rt D a c ∧ ∀ k : Int, 0 ≤ k → k < D 3 → rMt D a c k → D (57 + 3 * k + 2) = f (6 * a + c))
theorem zs_roadR {X : Mm} {S : Sh} {m : Mm} {K : Int → Mm → Prop} {f : Int → Int} {a b : Int} (hS : Shp S) (hm : Inv X S m) (r : RO (m 346) f) (a0 : 0 ≤ a) (a1 : a ≤ 5) (b0 : 0 ≤ b) (b1 : b ≤ 5) (hk : 0 ≤ f (6 * a + b) → K (f (6 * a + b)) m) : wp_X12_roadOf S m 336 a b K := by
  rcases r a b a0 a1 b0 b1 with ⟨e, n⟩ | ⟨e, n, q⟩
  · rw [e] at hk
    refine zs_roadOf hS hm (fun _ => hk (by omega)) (fun k k0 k1 z => absurd ⟨k, k0, k1, z⟩ n)
  · refine zs_roadOf hS hm (fun z => absurd n z) (fun k k0 k1 z => ?_)
    rw [q k k0 k1 z]
    exact hk (by omega)
abbrev rGo (m : Mm) (f : Int → Int) (h p : Int) : Prop := (0 ≤ h ∧ h < m 346 4) ∧ (0 ≤ p ∧ p < m 346 0) ∧ m 346 (10 + 5 * h + 1) = 0 ∧ 0 < f (6 * m 346 (10 + 5 * h + 0) + p)
theorem zs_canGo {X : Mm} {S : Sh} {m : Mm} {K : Int → Mm → Prop} {f : Int → Int} {h p : Int} (hS : Shp S) (hm : Inv X S m) (r : RO (m 346) f) (i0 : 0 ≤ h) (i1 : h ≤ 4) (p0 : 0 ≤ p) (p1 : p ≤ 5) (h1 : (m 346 (10 + 5 * h + 1) = 0 ∧ 0 < f (6 * m 346 (10 + 5 * h + 0) + p)) → K 1 m) (h0 : ¬ (m 346 (10 + 5 * h + 1) = 0 ∧ 0 < f (6 * m 346 (10 + 5 * h + 0) + p)) → K 0 m) : wp_X12_canGo S m 336 h p K := by
  refine u_X12_canGo ?_
  refine ⟨hS.k336, ?_⟩
  refine zt_atR hS hm i0 i1 (fun c3 => g_ifF (by decide) ?_) (fun c3 => g_ifT rfl (g_C ⟨by decide, h0 (fun z => c3 z.1)⟩))
  refine g_C ?_
  refine ⟨hS.k336, ?_⟩
  refine zt_handOf hS hm i0 i1 (by omega) (by omega) ?_
  have q0 : 0 ≤ m 346 (10 + 5 * h + 0) ∧ m 346 (10 + 5 * h + 0) ≤ 5 := fam_346_10_5_0_4 hm (a := h) (by omega) (by omega) (by omega)
  refine ⟨hS.k336, ?_⟩
  refine zs_roadR hS hm r q0.1 q0.2 p0 p1 (fun _ => ?_)
  exact g_if (fun w => g_C ⟨by decide, h0 (fun z => by omega)⟩) (fun w => g_C ⟨by decide, h1 ⟨c3, by omega⟩⟩)
theorem zs_goes {X : Mm} {S : Sh} {m : Mm} {K : Mm → Prop} {f : Int → Int} {h p : Int} (hS : Shp S) (hm : Inv X S m) (r : RO (m 346) f) (fb : ∀ i : Int, 0 ≤ i → i < 36 → 0 ≤ f i ∧ f i ≤ 5) (i0 : 0 ≤ h) (i1 : h ≤ 4) (p0 : 0 ≤ p) (p1 : p ≤ 5) (pp : p < X 346 0) (hk : ∀ M2 : Mm, Inv X S M2 → (∀ c q : Int, ¬ (c = 346 ∧ (q = 10 + 5 * h + 1 ∨ q = 10 + 5 * h)) → M2 c q = m c q) → M2 346 (10 + 5 * h + 1) = f (6 * m 346 (10 + 5 * h + 0) + p) → M2 346 (10 + 5 * h) = p → K M2) : wp_X12_goes S m 336 h p K := by
  refine u_X12_goes ?_
  refine g_getr 20 346 rfl hS.k336 hm.f_336_20 (by decide) ?_
  refine g_C ?_
  refine g_C ?_
  refine g_M (by omega) (by omega) ?_
  refine g_A (by omega) (by omega) ?_
  refine g_C ?_
  refine g_A (by omega) (by omega) ?_
  refine g_C ?_
  refine ⟨hS.k336, ?_⟩
  refine zt_handOf hS hm i0 i1 (by omega) (by omega) ?_
  have q0 : 0 ≤ m 346 (10 + 5 * h + 0) ∧ m 346 (10 + 5 * h + 0) ≤ 5 := fam_346_10_5_0_4 hm (a := h) (by omega) (by omega) (by omega)
  refine ⟨hS.k336, ?_⟩
  refine zs_roadR hS hm r q0.1 q0.2 p0 p1 (fun _ => ?_)
  have bb := fb (6 * m 346 (10 + 5 * h + 0) + p) (by omega) (by omega)
  refine g_st hS.k346 hS.l346 (by omega) (by omega) (wfm_346_11_5_0_4 hm (a := h) (by omega) (by omega) (by omega) (by omega) (by omega)) (fun m2 e2 hm2 => ?_)
  have f2 : ∀ c q : Int, ¬ (c = 346 ∧ q = 10 + 5 * h + 1) → m2 c q = m c q := fun c q z => (congrFun (congrFun e2 _) _).trans (up_ne z)
  have y2 : m2 346 (10 + 5 * h + 1) = f (6 * m 346 (10 + 5 * h + 0) + p) := (congrFun (congrFun e2 _) _).trans (up_at _ _ _ _)
  refine g_getr 20 346 rfl hS.k336 hm2.f_336_20 (by decide) ?_
  refine g_C ?_
  refine g_C ?_
  refine g_M (by omega) (by omega) ?_
  refine g_A (by omega) (by omega) ?_
  refine g_st hS.k346 hS.l346 (by omega) (by omega) (wfm_346_10_5_0_4 hm2 (a := h) (by omega) (by omega) (by omega) (by omega) (by omega) pp) (fun m3 e3 hm3 => ?_)
  have f3 : ∀ c q : Int, ¬ (c = 346 ∧ q = 10 + 5 * h) → m3 c q = m2 c q := fun c q z => (congrFun (congrFun e3 _) _).trans (up_ne z)
  have y3 : m3 346 (10 + 5 * h) = p := (congrFun (congrFun e3 _) _).trans (up_at _ _ _ _)
  exact hk m3 hm3 (fun c q z => by rw [f3 c q (by omega), f2 c q (by omega)]) (by rw [f3 346 _ (by omega), y2]) y3
theorem RO.same {D D' f : Int → Int} (h : RO D f) (b3 : D 3 ≤ 8) (G : ∀ p : Int, (p = 3 ∨ (57 ≤ p ∧ p < 81)) → D' p = D p) : RO D' f := by
  have g3 := G 3 (by omega)
  have A : ∀ a c k : Int, 0 ≤ k → k < D 3 → (rMt D' a c k ↔ rMt D a c k) := fun a c k k0 k1 => by
    unfold rMt
    rw [G (57 + 3 * k) (by omega), G (57 + 3 * k + 1) (by omega)]
  have B : ∀ a c : Int, Rt D' a c ↔ Rt D a c := fun a c => by
    constructor
    · rintro ⟨k, k0, k1, k2⟩
      rw [g3] at k1
      exact ⟨k, k0, k1, (A a c k k0 k1).1 k2⟩
    · rintro ⟨k, k0, k1, k2⟩
      exact ⟨k, k0, by rw [g3]; exact k1, (A a c k k0 k1).2 k2⟩
  intro a c a0 a1 c0 c1
  rcases h a c a0 a1 c0 c1 with ⟨e, n⟩ | ⟨e, n, q⟩
  · exact Or.inl ⟨e, fun z => n ((B a c).1 z)⟩
  · refine Or.inr ⟨e, (B a c).2 n, fun k k0 k1 z => ?_⟩
    rw [g3] at k1
    rw [G (57 + 3 * k + 2) (by omega)]
    exact q k k0 k1 ((A a c k k0 k1).1 z)
theorem zs_go12 {X : Mm} {S : Sh} {m0 : Mm} {K : Int → Mm → Prop} {f : Int → Int} {h p : Int} (hS : Shp S) (hm : Inv X S m0) (r : RO (m0 346) f) (fb : ∀ i : Int, 0 ≤ i → i < 36 → 0 ≤ f i ∧ f i ≤ 5) (h0 : ¬ rGo m0 f h p → K (-1) m0) (hk : ∀ (u s : Int) (M1 M2 : Mm), rGo m0 f h p → KA m0 M1 u s → Inv X S M2 → (∀ c q : Int, ¬ (c = 346 ∧ (q = 10 + 5 * h + 1 ∨ q = 10 + 5 * h)) → M2 c q = M1 c q) → M2 346 (10 + 5 * h + 1) = f (6 * m0 346 (10 + 5 * h + 0) + p) → M2 346 (10 + 5 * h) = p → K (f (6 * m0 346 (10 + 5 * h + 0) + p)) M2) : wp_X12_go S m0 336 h p K := by
  have b4 := hm.f_346_4
  have b0 := hm.f_346_0
  have b3 := hm.f_346_3
  have x0 : m0 346 0 = X 346 0 := hm.g (by decide)
  refine u_X12_go ?_
  refine ⟨hS.k336, ?_⟩
  refine zs_isHand12 hS hm (fun c1 => g_ifF (by decide) ?_) (fun c1 => g_ifT rfl (g_C (h0 (fun z => c1 z.1))))
  refine ⟨hS.k336, ?_⟩
  refine zs_isPlace12 hS hm (fun c2 => g_ifF (by decide) ?_) (fun c2 => g_ifT rfl (g_C (h0 (fun z => c2 z.2.1))))
  refine ⟨hS.k336, ?_⟩
  refine zs_canGo hS hm r (by omega) (by omega) (by omega) (by omega) (fun c3 => g_ifT (by decide) ?_) (fun c3 => g_ifF (by decide) (g_C (h0 (fun z => c3 z.2.2))))
  refine ⟨hS.k336, ?_⟩
  refine zk_keepsAct hS hm (fun u s m1 hm1 ka => ?_)
  have r1 : RO (m1 346) f := r.same b3.2 (fun q _ => ka.f (by omega) (by omega))
  refine ⟨hS.k336, ?_⟩
  refine zs_goes hS hm1 r1 fb (by omega) (by omega) (by omega) (by omega) (by omega) (fun m2 hm2 f2 y1 y0 => ?_)
  rw [ka.f (by omega) (by omega)] at y1
  refine g_C ?_
  refine ⟨hS.k336, ?_⟩
  refine zt_handOf hS hm2 (by omega) (by omega) (by omega) (by omega) ?_
  rw [y1]
  exact hk u s m1 m2 ⟨c1, c2, c3⟩ ka hm2 f2 y1 y0
/-- the first JUG that meets a WANT -/
abbrev cSu (m : Mm) (w j : Int) : Prop := m 20 j = m 12 w ∧ m 13 w ≤ m 22 j ∧ m 22 j ≤ m 14 w
theorem zs_jugFor {X : Mm} {S : Sh} {m : Mm} {K : Int → Mm → Prop} {w : Int} (hS : Shp S) (hm : Inv X S m) (w0 : 0 ≤ w) (w1 : w ≤ 5) (h0 : (m 23 w = -1 → ∀ j : Int, 0 ≤ j → j < m 4 5 → ¬ cSu m w j) → K (-1) m) (hk : ∀ j : Int, m 23 w = -1 → 0 ≤ j → j < m 4 5 → cSu m w j → (∀ l : Int, 0 ≤ l → l < j → ¬ cSu m w l) → K j m) : wp_X11_jugFor S m 0 w K := by
  have b5 := hm.f_4_5
  refine u_X11_jugFor ?_
  refine g_getr 1 3 rfl hS.k0 hm.f_0_1 (by decide) ?_
  refine g_getr 1 16 rfl hS.k3 hm.f_3_1 (by decide) ?_
  refine g_getr 8 23 rfl hS.k16 hm.f_16_8 (by decide) ?_
  refine g_ldu hS.k23 hS.l23 (by omega) (by omega) (fun v ev => ?_)
  refine g_C ?_
  refine g_if (fun c => ?_) (fun c => g_C (h0 (fun z => absurd (ev.trans z) c)))
  refine g_C ?_
  have L : ∀ (n : Nat) (i : Int), 0 ≤ i → i ≤ m 4 5 → (∀ l : Int, 0 ≤ l → l < i → ¬ cSu m w l) → 5 - i ≤ (n : Int) → wp_X11_jugFor_20 S K n 0 w i m := by
    intro n
    induction n with
    | zero => intro i i0 i1 _ hn; exfalso; omega
    | succ n ih =>
      intro i i0 i1 hi hn
      refine u_X11_jugFor_20 ?_
      refine g_getr 1 3 rfl hS.k0 hm.f_0_1 (by decide) ?_
      refine g_getr 0 4 rfl hS.k3 hm.f_3_0 (by decide) ?_
      refine g_getu 5 rfl hS.k4 (fun v2 ev2 => ?_)
      refine g_if (fun c2 => g_C (h0 (fun _ l l0 l1 => hi l l0 (by omega)))) (fun c2 => ?_)
      have next : ¬ cSu m w i → wp_X11_jugFor_99 S (fun a0 a1 a2 M => wp_X11_jugFor_20 S K n a0 a1 a2 M) K 0 w i m := by
        intro q
        refine u_X11_jugFor_99 ?_
        refine g_A (by omega) (by omega) ?_
        refine ih (i + 1) (by omega) (by omega) (fun l l0 l1 => ?_) (by omega)
        by_cases e : l = i
        · rw [e]; exact q
        · exact hi l l0 (by omega)
      refine g_getr 1 3 rfl hS.k0 hm.f_0_1 (by decide) ?_
      refine g_getr 1 16 rfl hS.k3 hm.f_3_1 (by decide) ?_
      refine g_getr 5 20 rfl hS.k16 hm.f_16_5 (by decide) ?_
      refine g_ldu hS.k20 hS.l20 (by omega) (by omega) (fun v3 ev3 => ?_)
      refine g_getr 1 3 rfl hS.k0 hm.f_0_1 (by decide) ?_
      refine g_getr 0 4 rfl hS.k3 hm.f_3_0 (by decide) ?_
      refine g_getr 15 12 rfl hS.k4 hm.f_4_15 (by decide) ?_
      refine g_ldu hS.k12 hS.l12 (by omega) (by omega) (fun v4 ev4 => ?_)
      refine g_if (fun c3 => g_C ?_) (fun c3 => g_C ?_)
      · refine u_X11_jugFor_66 ?_
        exact g_ifT rfl (next (fun z => c3 (by rw [ev3, ev4]; exact z.1)))
      · refine u_X11_jugFor_66 ?_
        refine g_ifF (by decide) ?_
        refine g_getr 1 3 rfl hS.k0 hm.f_0_1 (by decide) ?_
        refine g_getr 0 4 rfl hS.k3 hm.f_3_0 (by decide) ?_
        refine g_getr 1 3 rfl hS.k0 hm.f_0_1 (by decide) ?_
        refine g_getr 1 16 rfl hS.k3 hm.f_3_1 (by decide) ?_
        refine g_getr 7 22 rfl hS.k16 hm.f_16_7 (by decide) ?_
        refine g_ldu hS.k22 hS.l22 (by omega) (by omega) (fun v5 ev5 => ?_)
        refine ⟨hS.k4, ?_⟩
        refine u_X8_suits ?_
        refine g_getr 16 13 rfl hS.k4 hm.f_4_16 (by decide) ?_
        refine g_ldu hS.k13 hS.l13 (by omega) (by omega) (fun v6 ev6 => ?_)
        refine g_if (fun c4 => g_C ⟨by decide, g_ifT rfl (next (fun z => by have := z.2.1; omega))⟩) (fun c4 => ?_)
        refine g_getr 17 14 rfl hS.k4 hm.f_4_17 (by decide) ?_
        refine g_ldu hS.k14 hS.l14 (by omega) (by omega) (fun v7 ev7 => ?_)
        refine g_if (fun c5 => g_C ⟨by decide, g_ifT rfl (next (fun z => by have := z.2.2; omega))⟩) (fun c5 => ?_)
        exact g_C ⟨by decide, g_ifF (by decide) (hk i (ev.symm.trans c) i0 (by omega) ⟨by omega, by omega, by omega⟩ hi)⟩
  exact ⟨5, L 5 0 (by omega) (by omega) (fun l l0 l1 => absurd l1 (by omega)) (by omega)⟩
abbrev rSu (m : Mm) (w j : Int) : Prop := StR m j ∧ m 346 (35 + 4 * j + 0) = m 346 (93 + 4 * w + 0) ∧ m 346 (93 + 4 * w + 1) ≤ m 346 (35 + 4 * j + 2) ∧ m 346 (35 + 4 * j + 2) ≤ m 346 (93 + 4 * w + 2)
theorem zs_firstFor {X : Mm} {S : Sh} {m : Mm} {K : Int → Mm → Prop} {w : Int} (hS : Shp S) (hm : Inv X S m) (w0 : 0 ≤ w) (w1 : w ≤ 5) (h0 : (m 346 (51 + w) < 0 → ∀ j : Int, 0 ≤ j → j < m 346 5 → ¬ rSu m w j) → K (-1) m) (hk : ∀ j : Int, m 346 (51 + w) < 0 → 0 ≤ j → j < m 346 5 → rSu m w j → (∀ l : Int, 0 ≤ l → l < j → ¬ rSu m w l) → K j m) : wp_X12_firstFor S m 336 w K := by
  have b5 := hm.f_346_5
  refine u_X12_firstFor ?_
  refine g_getr 20 346 rfl hS.k336 hm.f_336_20 (by decide) ?_
  refine g_C ?_
  refine g_A (by omega) (by omega) ?_
  refine g_ldu hS.k346 hS.l346 (by omega) (by omega) (fun v ev => ?_)
  refine g_if (fun c => ?_) (fun c => g_C (h0 (fun z => absurd z (by omega))))
  refine g_C ?_
  have L : ∀ (n : Nat) (i : Int), 0 ≤ i → i ≤ m 346 5 → (∀ l : Int, 0 ≤ l → l < i → ¬ rSu m w l) → 5 - i ≤ (n : Int) → wp_X12_firstFor_16 S K n 336 w i m := by
    intro n
    induction n with
    | zero => intro i i0 i1 _ hn; exfalso; omega
    | succ n ih =>
      intro i i0 i1 hi hn
      refine u_X12_firstFor_16 ?_
      refine g_getr 20 346 rfl hS.k336 hm.f_336_20 (by decide) ?_
      refine g_C ?_
      refine g_ldu hS.k346 hS.l346 (by omega) (by omega) (fun v2 ev2 => ?_)
      refine g_if (fun c2 => g_C (h0 (fun _ l l0 l1 => hi l l0 (by omega)))) (fun c2 => ?_)
      have next : ¬ rSu m w i → wp_X12_firstFor_78 S (fun a0 a1 a2 M => wp_X12_firstFor_16 S K n a0 a1 a2 M) K 336 w i m := by
        intro q
        refine u_X12_firstFor_78 ?_
        refine g_A (by omega) (by omega) ?_
        refine ih (i + 1) (by omega) (by omega) (fun l l0 l1 => ?_) (by omega)
        by_cases e : l = i
        · rw [e]; exact q
        · exact hi l l0 (by omega)
      refine ⟨hS.k336, ?_⟩
      refine zt_stands hS hm i0 (by omega) (fun c3 => g_ifF (by decide) ?_) (fun c3 => g_ifT rfl (next (fun z => c3 z.1)))
      refine g_C ?_
      refine ⟨hS.k336, ?_⟩
      refine zt_jugOf hS hm i0 (by omega) (by omega) (by omega) ?_
      refine g_C ?_
      refine ⟨hS.k336, ?_⟩
      refine zt_wantOf hS hm w0 w1 (by omega) (by omega) ?_
      refine g_if (fun c4 => next (fun z => c4 z.2.1)) (fun c4 => ?_)
      refine g_C ?_
      refine ⟨hS.k336, ?_⟩
      refine zt_jugOf hS hm i0 (by omega) (by omega) (by omega) ?_
      refine g_C ?_
      refine g_C ?_
      refine ⟨hS.k336, ?_⟩
      refine zt_wantOf hS hm w0 w1 (by omega) (by omega) ?_
      refine g_C ?_
      refine g_C ?_
      refine ⟨hS.k336, ?_⟩
      refine zt_wantOf hS hm w0 w1 (by omega) (by omega) ?_
      refine g_C ?_
      refine z_in (fun a b => ?_) (fun c5 => g_ifT rfl (next (fun z => c5 ⟨z.2.2.1, z.2.2.2⟩)))
      refine g_ifF (by decide) (hk i (by omega) i0 (by omega) ⟨c3, by omega, a, b⟩ hi)
  exact ⟨5, L 5 0 (by omega) (by omega) (fun l l0 l1 => absurd l1 (by omega)) (by omega)⟩
end
section
/-! meet of both sides, to the letter -/
theorem g_Ax {a b : Int} {K : Int → Prop} (h : ∀ v : Int, v = w32 (a + b) → -2147483648 ≤ v → v ≤ 2147483647 → K v) : wA a b K := h _ rfl (w32_r _).1 (w32_r _).2
abbrev cMe (m : Mm) (w j : Int) : Prop := (0 ≤ w ∧ w < m 4 7) ∧ m 23 w = -1 ∧ (0 ≤ j ∧ j < m 4 5) ∧ cSu m w j ∧ ∀ l : Int, 0 ≤ l → l < j → ¬ cSu m w l
theorem zs_meet11 {X : Mm} {S : Sh} {m0 : Mm} {K : Int → Mm → Prop} {w : Int} (hS : Shp S) (hm : Inv X S m0) (h0 : (0 ≤ w ∧ w < m0 4 7 → m0 23 w = -1 → ∀ j : Int, 0 ≤ j → j < m0 4 5 → ¬ cSu m0 w j) → K (-1) m0) (hk : ∀ (j i : Int) (M1 M2 : Mm), cMe m0 w j → KP m0 M1 i → Inv X S M2 → (∀ c p : Int, ¬ (c = 23 ∧ p = w) → ¬ (c = 16 ∧ p = 1) → ¬ (c = 20 ∧ p = j) → M2 c p = M1 c p) → M2 23 w = m0 16 0 → M2 16 1 = w32 (m0 16 1 + m0 15 w) → M2 20 j = -1 → K j M2) : wp_X11_meet S m0 0 w K := by
  have b7 := hm.f_4_7
  have b5 := hm.f_4_5
  have hb : isSt 16 := by decide
  refine u_X11_meet ?_
  refine ⟨hS.k0, ?_⟩
  refine zs_isWant11 hS hm (fun c1 => g_ifF (by decide) ?_) (fun c1 => g_ifT rfl (g_C ?_))
  rotate_left
  · refine u_X11_meet_17 ?_
    refine g_C ?_
    exact g_ifF (fun z => z rfl) (g_C (h0 (fun z => absurd z c1)))
  refine ⟨hS.k0, ?_⟩
  refine zs_jugFor hS hm c1.1 (by omega) (fun q => ?_) (fun j e23 j0 j1 su fi => ?_)
  · refine u_X11_meet_17 ?_
    refine g_C ?_
    exact g_ifF (fun z => z rfl) (g_C (h0 (fun _ => q)))
  refine u_X11_meet_17 ?_
  refine g_C ?_
  refine g_ifT (by omega) ?_
  refine ⟨hS.k0, ?_⟩
  refine zk_keepPast hS hm (fun i m1 hm1 kp => ?_)
  refine g_getr 1 3 rfl hS.k0 hm1.f_0_1 (by decide) ?_
  refine g_getr 1 16 rfl hS.k3 hm1.f_3_1 (by decide) ?_
  refine g_getr 8 23 rfl hS.k16 hm1.f_16_8 (by decide) ?_
  refine g_getr 1 3 rfl hS.k0 hm1.f_0_1 (by decide) ?_
  refine g_getr 1 16 rfl hS.k3 hm1.f_3_1 (by decide) ?_
  refine g_getu 0 rfl hS.k16 (fun v ev => ?_)
  have bh := hm1.f_16_0
  refine g_st hS.k23 hS.l23 (by omega) (by omega) (hm1.waB_5_7 hb c1.1 (by omega) (by omega) (by omega)) (fun m2 e2 hm2 => ?_)
  have f2 : ∀ c p : Int, ¬ (c = 23 ∧ p = w) → m2 c p = m1 c p := fun c p q => (congrFun (congrFun e2 _) _).trans (up_ne q)
  have y2 : m2 23 w = v := (congrFun (congrFun e2 _) _).trans (up_at _ _ _ _)
  refine g_getr 1 3 rfl hS.k0 hm2.f_0_1 (by decide) ?_
  refine g_getr 1 16 rfl hS.k3 hm2.f_3_1 (by decide) ?_
  refine g_getu 1 rfl hS.k16 (fun v2 ev2 => ?_)
  refine g_getr 1 3 rfl hS.k0 hm2.f_0_1 (by decide) ?_
  refine g_getr 0 4 rfl hS.k3 hm2.f_3_0 (by decide) ?_
  refine g_getr 18 15 rfl hS.k4 hm2.f_4_18 (by decide) ?_
  refine g_ldu hS.k15 hS.l15 (by omega) (by omega) (fun v3 ev3 => ?_)
  refine g_Ax (fun v4 ev4 bv4 cv4 => ?_)
  refine g_put 1 rfl hS.k16 (hm2.w_16_1 bv4 cv4) (fun m3 e3 hm3 => ?_)
  have f3 : ∀ c p : Int, ¬ (c = 16 ∧ p = 1) → m3 c p = m2 c p := fun c p q => (congrFun (congrFun e3 _) _).trans (up_ne q)
  have y3 : m3 16 1 = v4 := (congrFun (congrFun e3 _) _).trans (up_at _ _ _ _)
  refine g_getr 1 3 rfl hS.k0 hm3.f_0_1 (by decide) ?_
  refine g_getr 1 16 rfl hS.k3 hm3.f_3_1 (by decide) ?_
  refine g_getr 5 20 rfl hS.k16 hm3.f_16_5 (by decide) ?_
  refine g_C ?_
  refine g_st hS.k20 hS.l20 (by omega) (by omega) (hm3.waB_5_4 hb j0 (by omega) (by omega) (by omega)) (fun m4 e4 hm4 => ?_)
  have f4 : ∀ c p : Int, ¬ (c = 20 ∧ p = j) → m4 c p = m3 c p := fun c p q => (congrFun (congrFun e4 _) _).trans (up_ne q)
  have y4 : m4 20 j = -1 := (congrFun (congrFun e4 _) _).trans (up_at _ _ _ _)
  refine hk j i m1 m4 ⟨c1, e23, ⟨j0, j1⟩, su, fi⟩ kp hm4 (fun c p q1 q2 q3 => by rw [f4 c p q3, f3 c p q2, f2 c p q1]) ?_ ?_ y4
  · rw [f4 23 w (by first | decide | exact fun z => absurd z.1 (by decide) | exact ⟨fun z => absurd z.1 (by decide), fun z => absurd z.1 (by decide)⟩ | omega), f3 23 w (by first | decide | exact fun z => absurd z.1 (by decide) | exact ⟨fun z => absurd z.1 (by decide), fun z => absurd z.1 (by decide)⟩ | omega), y2, ev, kp.f (by omega) (by omega)]
  · rw [f4 16 1 (by first | decide | exact fun z => absurd z.1 (by decide) | exact ⟨fun z => absurd z.1 (by decide), fun z => absurd z.1 (by decide)⟩ | omega), y3, ev4, ev2, ev3, f2 16 1 (by first | decide | exact fun z => absurd z.1 (by decide) | exact ⟨fun z => absurd z.1 (by decide), fun z => absurd z.1 (by decide)⟩ | omega), f2 15 w (by first | decide | exact fun z => absurd z.1 (by decide) | exact ⟨fun z => absurd z.1 (by decide), fun z => absurd z.1 (by decide)⟩ | omega), kp.f (by omega) (by omega), kp.f (by omega) (by omega)]
abbrev rMe (m : Mm) (w j : Int) : Prop := (0 ≤ w ∧ w < m 346 6) ∧ m 346 (51 + w) < 0 ∧ (0 ≤ j ∧ j < m 346 5) ∧ rSu m w j ∧ ∀ l : Int, 0 ≤ l → l < j → ¬ rSu m w l
theorem zs_meet12 {X : Mm} {S : Sh} {m0 : Mm} {K : Int → Mm → Prop} {w : Int} (hS : Shp S) (hm : Inv X S m0) (h0 : (0 ≤ w ∧ w < m0 346 6 → m0 346 (51 + w) < 0 → ∀ j : Int, 0 ≤ j → j < m0 346 5 → ¬ rSu m0 w j) → K (-1) m0) (hk : ∀ (j u s : Int) (M1 M2 : Mm), rMe m0 w j → KA m0 M1 u s → Inv X S M2 → (∀ c p : Int, ¬ (c = 346 ∧ (p = 35 + 4 * j + 3 ∨ p = 51 + w ∨ p = 8)) → M2 c p = M1 c p) → M2 346 (35 + 4 * j + 3) = 1 → M2 346 (51 + w) = m0 346 7 → M2 346 8 = w32 (m0 346 8 + m0 346 (93 + 4 * w + 3)) → K j M2) : wp_X12_meet S m0 336 w K := by
  have b6 := hm.f_346_6
  have b5 := hm.f_346_5
  refine u_X12_meet ?_
  refine ⟨hS.k336, ?_⟩
  refine zs_isWant12 hS hm (fun c1 => g_ifT (by decide) ?_) (fun c1 => g_ifF (by decide) (g_C (h0 (fun z => absurd z c1))))
  refine ⟨hS.k336, ?_⟩
  refine zs_firstFor hS hm c1.1 (by omega) (fun q => g_ifF (by decide) (g_C (h0 (fun _ => q)))) (fun j e51 j0 j1 su fi => ?_)
  refine g_ifT j0 ?_
  refine ⟨hS.k336, ?_⟩
  refine zk_keepsAct hS hm (fun u s m1 hm1 ka => ?_)
  refine g_getr 20 346 rfl hS.k336 hm1.f_336_20 (by decide) ?_
  refine g_C ?_
  refine g_C ?_
  refine g_M (by omega) (by omega) ?_
  refine g_A (by omega) (by omega) ?_
  refine g_C ?_
  refine g_A (by omega) (by omega) ?_
  refine g_C ?_
  refine g_st hS.k346 hS.l346 (by omega) (by omega) (wfm_346_38_4_0_3 hm1 (a := j) (by omega) (by omega) (by omega) (by omega) (by omega)) (fun m2 e2 hm2 => ?_)
  have f2 : ∀ c p : Int, ¬ (c = 346 ∧ p = 35 + 4 * j + 3) → m2 c p = m1 c p := fun c p q => (congrFun (congrFun e2 _) _).trans (up_ne q)
  have y2 : m2 346 (35 + 4 * j + 3) = 1 := (congrFun (congrFun e2 _) _).trans (up_at _ _ _ _)
  refine g_getr 20 346 rfl hS.k336 hm2.f_336_20 (by decide) ?_
  refine g_C ?_
  refine g_A (by omega) (by omega) ?_
  refine g_getr 20 346 rfl hS.k336 hm2.f_336_20 (by decide) ?_
  refine g_C ?_
  refine g_ld (-2147483648) (2147483647) hS.k346 hS.l346 (by omega) (by omega) (hm2.f_346_7) (fun v ev bv cv => ?_)
  refine g_st hS.k346 hS.l346 (by omega) (by omega) (wfm_346_51_1_0_5 hm2 (a := w) (by omega) (by omega) (by omega) bv cv) (fun m3 e3 hm3 => ?_)
  have f3 : ∀ c p : Int, ¬ (c = 346 ∧ p = 51 + w) → m3 c p = m2 c p := fun c p q => (congrFun (congrFun e3 _) _).trans (up_ne q)
  have y3 : m3 346 (51 + w) = v := (congrFun (congrFun e3 _) _).trans (up_at _ _ _ _)
  refine g_getr 20 346 rfl hS.k336 hm3.f_336_20 (by decide) ?_
  refine g_C ?_
  refine g_ldu hS.k346 hS.l346 (by omega) (by omega) (fun v2 ev2 => ?_)
  refine g_C ?_
  refine ⟨hS.k336, ?_⟩
  refine zt_wantOf hS hm3 c1.1 (by omega) (by omega) (by omega) ?_
  refine g_Ax (fun v4 ev4 bv4 cv4 => ?_)
  refine g_st hS.k346 hS.l346 (by omega) (by omega) (hm3.w_346_8 bv4 cv4) (fun m4 e4 hm4 => ?_)
  have f4 : ∀ c p : Int, ¬ (c = 346 ∧ p = 8) → m4 c p = m3 c p := fun c p q => (congrFun (congrFun e4 _) _).trans (up_ne q)
  have y4 : m4 346 8 = v4 := (congrFun (congrFun e4 _) _).trans (up_at _ _ _ _)
  refine hk j u s m1 m4 ⟨c1, e51, ⟨j0, j1⟩, su, fi⟩ ka hm4 (fun c p q => by rw [f4 c p (by omega), f3 c p (by omega), f2 c p (by omega)]) ?_ ?_ ?_
  · rw [f4 346 _ (by first | decide | exact fun z => absurd z.1 (by decide) | exact ⟨fun z => absurd z.1 (by decide), fun z => absurd z.1 (by decide)⟩ | omega), f3 346 _ (by first | decide | exact fun z => absurd z.1 (by decide) | exact ⟨fun z => absurd z.1 (by decide), fun z => absurd z.1 (by decide)⟩ | omega), y2]
  · rw [f4 346 _ (by first | decide | exact fun z => absurd z.1 (by decide) | exact ⟨fun z => absurd z.1 (by decide), fun z => absurd z.1 (by decide)⟩ | omega), y3, ev, f2 346 7 (by first | decide | exact fun z => absurd z.1 (by decide) | exact ⟨fun z => absurd z.1 (by decide), fun z => absurd z.1 (by decide)⟩ | omega), ka.f (by omega) (by omega)]
  · rw [y4, ev4, ev2, f3 346 8 (by first | decide | exact fun z => absurd z.1 (by decide) | exact ⟨fun z => absurd z.1 (by decide), fun z => absurd z.1 (by decide)⟩ | omega), f3 346 (93 + 4 * w + 3) (by first | decide | exact fun z => absurd z.1 (by decide) | exact ⟨fun z => absurd z.1 (by decide), fun z => absurd z.1 (by decide)⟩ | omega), f2 346 8 (by first | decide | exact fun z => absurd z.1 (by decide) | exact ⟨fun z => absurd z.1 (by decide), fun z => absurd z.1 (by decide)⟩ | omega), f2 346 (93 + 4 * w + 3) (by first | decide | exact fun z => absurd z.1 (by decide) | exact ⟨fun z => absurd z.1 (by decide), fun z => absurd z.1 (by decide)⟩ | omega), ka.f (by omega) (by omega), ka.f (by omega) (by omega)]
end
