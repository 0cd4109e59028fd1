/-! an ACT begins: what is kept -/
def KP (m0 M1 : Mm) (i : Int) : Prop := i = m0 0 4 ∧ (0 ≤ i ∧ i ≤ 19) ∧ (∀ c p : Int, ¬ (176 + 8 * i ≤ c ∧ c ≤ 183 + 8 * i) → ¬ (c = 0 ∧ (p = 4 ∨ p = 5)) → M1 c p = m0 c p) ∧ M1 0 4 = (i + 1) % 20 ∧ (M1 0 5 = m0 0 5 + 1 ∨ (M1 0 5 = 20 ∧ m0 0 5 = 20)) ∧ (M1 (176 + 8 * i) 0 = m0 16 0 ∧ M1 (176 + 8 * i) 1 = m0 16 1) ∧ (∀ p : Int, 0 ≤ p → p < 5 → M1 (177 + 8 * i) p = m0 17 p ∧ M1 (178 + 8 * i) p = m0 18 p ∧ M1 (179 + 8 * i) p = m0 19 p) ∧ (∀ p : Int, 0 ≤ p → p < 4 → M1 (180 + 8 * i) p = m0 20 p ∧ M1 (181 + 8 * i) p = m0 21 p ∧ M1 (182 + 8 * i) p = m0 22 p) ∧ (∀ p : Int, 0 ≤ p → p < 6 → M1 (183 + 8 * i) p = m0 23 p) ∧ (0 ≤ m0 0 5 ∧ m0 0 5 ≤ 20) ∧ M1 0 5 ≤ 20
def KA (m2 M3 : Mm) (u s : Int) : Prop := (0 ≤ u ∧ u ≤ 19) ∧ M3 336 25 = u + 1 ∧ ((s = 0 ∧ u = m2 336 25) ∨ (s = 57 ∧ u = 19 ∧ m2 336 25 = 20)) ∧ (∀ c p : Int, ¬ c = 347 → ¬ (c = 336 ∧ p = 25) → M3 c p = m2 c p) ∧ (∀ j : Int, 0 ≤ j → j < 57 → M3 347 (57 * u + j) = m2 346 j) ∧ (∀ p : Int, 0 ≤ p → p < 57 * u → M3 347 p = m2 347 (p + s))
theorem KP.f {m0 M1 : Mm} {i : Int} (k : KP m0 M1 i) {c p : Int} (a : ¬ (176 ≤ c ∧ c ≤ 335)) (b : ¬ (c = 0 ∧ (p = 4 ∨ p = 5))) : M1 c p = m0 c p := k.2.2.1 c p (by have := k.2.1; omega) b
theorem KA.f {m2 M3 : Mm} {u s : Int} (k : KA m2 M3 u s) {c p : Int} (a : ¬ c = 347) (b : ¬ (c = 336 ∧ p = 25)) : M3 c p = m2 c p := k.2.2.2.1 c p a b
theorem zk_keepPast {X : Mm} {S : Sh} {m0 : Mm} {K : Mm → Prop} (hS : Shp S) (hm0 : Inv X S m0) (hk : ∀ (i : Int) (M1 : Mm), Inv X S M1 → KP m0 M1 i → K M1) : wp_X11_keepPast S m0 0 K := zx_keepPast hS hm0 (fun i M1 h e i0 i1 f n v w0 w1 w2 w3 w4 => hk i M1 h ⟨e, ⟨i0, i1⟩, f, n, v, ⟨w0, w1⟩, w2, w3, w4, hm0.f_0_5, h.f_0_5.2⟩)
theorem zk_keepsAct {X : Mm} {S : Sh} {m0 : Mm} {K : Mm → Prop} (hS : Shp S) (hm0 : Inv X S m0) (hk : ∀ (u s : Int) (M1 : Mm), Inv X S M1 → KA m0 M1 u s → K M1) : wp_X12_keepsAct S m0 336 K := zx_keepsAct hS hm0 (fun M1 u s h u0 u1 e c f g k => hk u s M1 h ⟨⟨u0, u1⟩, e, c, f, g, k⟩)
theorem zs_isHand11 {X : Mm} {S : Sh} {m : Mm} {K : Int → Mm → Prop} {h : Int} (hS : Shp S) (hm : Inv X S m) (h1 : 0 ≤ h ∧ h < m 4 4 → K 1 m) (h0 : ¬ (0 ≤ h ∧ h < m 4 4) → K 0 m) : wp_X11_isHand S m 0 h K := by
  refine u_X11_isHand ?_
  refine g_if (fun w => g_C ⟨by decide, h0 (by omega)⟩) (fun w => ?_)
  refine g_getr 1 3 rfl hS.k0 hm.f_0_1 (by decide) ?_
  refine g_getr 0 4 rfl hS.k3 hm.f_3_0 (by decide) ?_
  refine g_getu 4 rfl hS.k4 (fun v ev => ?_)
  exact g_if (fun w2 => g_C ⟨by decide, h0 (by omega)⟩) (fun w2 => g_C ⟨by decide, h1 (by omega)⟩)
theorem zs_isJug11 {X : Mm} {S : Sh} {m : Mm} {K : Int → Mm → Prop} {h : Int} (hS : Shp S) (hm : Inv X S m) (h1 : 0 ≤ h ∧ h < m 4 5 → K 1 m) (h0 : ¬ (0 ≤ h ∧ h < m 4 5) → K 0 m) : wp_X11_isJug S m 0 h K := by
  refine u_X11_isJug ?_
  refine g_if (fun w => g_C ⟨by decide, h0 (by omega)⟩) (fun w => ?_)
  refine g_getr 1 3 rfl hS.k0 hm.f_0_1 (by decide) ?_
  refine g_getr 0 4 rfl hS.k3 hm.f_3_0 (by decide) ?_
  refine g_getu 5 rfl hS.k4 (fun v ev => ?_)
  exact g_if (fun w2 => g_C ⟨by decide, h0 (by omega)⟩) (fun w2 => g_C ⟨by decide, h1 (by omega)⟩)
theorem zs_isPlace11 {X : Mm} {S : Sh} {m : Mm} {K : Int → Mm → Prop} {h : Int} (hS : Shp S) (hm : Inv X S m) (h1 : 0 ≤ h ∧ h < m 4 0 → K 1 m) (h0 : ¬ (0 ≤ h ∧ h < m 4 0) → K 0 m) : wp_X11_isPlace S m 0 h K := by
  refine u_X11_isPlace ?_
  refine g_if (fun w => g_C ⟨by decide, h0 (by omega)⟩) (fun w => ?_)
  refine g_getr 1 3 rfl hS.k0 hm.f_0_1 (by decide) ?_
  refine g_getr 0 4 rfl hS.k3 hm.f_3_0 (by decide) ?_
  refine g_getu 0 rfl hS.k4 (fun v ev => ?_)
  exact g_if (fun w2 => g_C ⟨by decide, h0 (by omega)⟩) (fun w2 => g_C ⟨by decide, h1 (by omega)⟩)
theorem zs_isWant11 {X : Mm} {S : Sh} {m : Mm} {K : Int → Mm → Prop} {h : Int} (hS : Shp S) (hm : Inv X S m) (h1 : 0 ≤ h ∧ h < m 4 7 → K 1 m) (h0 : ¬ (0 ≤ h ∧ h < m 4 7) → K 0 m) : wp_X11_isWant S m 0 h K := by
  refine u_X11_isWant ?_
  refine g_if (fun w => g_C ⟨by decide, h0 (by omega)⟩) (fun w => ?_)
  refine g_getr 1 3 rfl hS.k0 hm.f_0_1 (by decide) ?_
  refine g_getr 0 4 rfl hS.k3 hm.f_3_0 (by decide) ?_
  refine g_getu 7 rfl hS.k4 (fun v ev => ?_)
  exact g_if (fun w2 => g_C ⟨by decide, h0 (by omega)⟩) (fun w2 => g_C ⟨by decide, h1 (by omega)⟩)
theorem zs_isHand12 {X : Mm} {S : Sh} {m : Mm} {K : Int → Mm → Prop} {h : Int} (hS : Shp S) (hm : Inv X S m) (h1 : 0 ≤ h ∧ h < m 346 4 → K 1 m) (h0 : ¬ (0 ≤ h ∧ h < m 346 4) → K 0 m) : wp_X12_isHand S m 336 h K := by
  refine u_X12_isHand ?_
  refine g_if (fun w => g_C ⟨by decide, h0 (by omega)⟩) (fun w => ?_)
  refine g_getr 20 346 rfl hS.k336 hm.f_336_20 (by decide) ?_
  refine g_C ?_
  refine g_ldu hS.k346 hS.l346 (by omega) (by omega) (fun v ev => ?_)
  exact g_if (fun w2 => g_C ⟨by decide, h0 (by omega)⟩) (fun w2 => g_C ⟨by decide, h1 (by omega)⟩)
theorem zs_isJug12 {X : Mm} {S : Sh} {m : Mm} {K : Int → Mm → Prop} {h : Int} (hS : Shp S) (hm : Inv X S m) (h1 : 0 ≤ h ∧ h < m 346 5 → K 1 m) (h0 : ¬ (0 ≤ h ∧ h < m 346 5) → K 0 m) : wp_X12_isJug S m 336 h K := by
  refine u_X12_isJug ?_
  refine g_if (fun w => g_C ⟨by decide, h0 (by omega)⟩) (fun w => ?_)
  refine g_getr 20 346 rfl hS.k336 hm.f_336_20 (by decide) ?_
  refine g_C ?_
  refine g_ldu hS.k346 hS.l346 (by omega) (by omega) (fun v ev => ?_)
  exact g_if (fun w2 => g_C ⟨by decide, h0 (by omega)⟩) (fun w2 => g_C ⟨by decide, h1 (by omega)⟩)
theorem zs_isWant12 {X : Mm} {S : Sh} {m : Mm} {K : Int → Mm → Prop} {h : Int} (hS : Shp S) (hm : Inv X S m) (h1 : 0 ≤ h ∧ h < m 346 6 → K 1 m) (h0 : ¬ (0 ≤ h ∧ h < m 346 6) → K 0 m) : wp_X12_isWant S m 336 h K := by
  refine u_X12_isWant ?_
  refine g_if (fun w => g_C ⟨by decide, h0 (by omega)⟩) (fun w => ?_)
  refine g_getr 20 346 rfl hS.k336 hm.f_336_20 (by decide) ?_
  refine g_C ?_
  refine g_ldu hS.k346 hS.l346 (by omega) (by omega) (fun v ev => ?_)
  exact g_if (fun w2 => g_C ⟨by decide, h0 (by omega)⟩) (fun w2 => g_C ⟨by decide, h1 (by omega)⟩)
theorem zs_isPlace12 {X : Mm} {S : Sh} {m : Mm} {K : Int → Mm → Prop} {h : Int} (hS : Shp S) (hm : Inv X S m) (h1 : 0 ≤ h ∧ h < m 346 0 → K 1 m) (h0 : ¬ (0 ≤ h ∧ h < m 346 0) → K 0 m) : wp_X12_isPlace S m 336 h K := by
  refine u_X12_isPlace ?_
  refine g_if (fun w => g_C ⟨by decide, h0 (by omega)⟩) (fun w => ?_)
  refine g_getr 20 346 rfl hS.k336 hm.f_336_20 (by decide) ?_
  refine g_C ?_
  refine g_ldu hS.k346 hS.l346 (by omega) (by omega) (fun v ev => ?_)
  exact g_if (fun w2 => g_C ⟨by decide, h0 (by omega)⟩) (fun w2 => g_C ⟨by decide, h1 (by omega)⟩)
theorem zs_giveTo {X : Mm} {S : Sh} {m : Mm} {K : Mm → Prop} {h j : Int} (hS : Shp S) (hm : Inv X S m) (i0 : 0 ≤ h) (i1 : h ≤ 4) (j0 : 0 ≤ j) (j1 : j ≤ 3) (hk : ∀ M1 : Mm, Inv X S M1 → (∀ c p : Int, ¬ (p = j ∧ (c = 20 ∨ c = 21)) → M1 c p = m c p) → M1 21 j = h → M1 20 j = -1 → K M1) : wp_X5_giveTo S m 16 h j K := by
  have hb : isSt 16 := by decide
  refine u_X5_giveTo ?_
  refine g_getr 6 21 rfl hS.k16 hm.f_16_6 (by decide) ?_
  refine g_st hS.k21 hS.l21 (by omega) (by omega) (hm.waB_5_5 hb j0 (by omega) (by omega) (by omega)) (fun m1 e1 hm1 => ?_)
  have f1 : ∀ c p : Int, ¬ (c = 21 ∧ p = j) → m1 c p = m c p := fun c p q => (congrFun (congrFun e1 _) _).trans (up_ne q)
  have y1 : m1 21 j = h := (congrFun (congrFun e1 _) _).trans (up_at _ _ _ _)
  refine g_getr 5 20 rfl hS.k16 hm1.f_16_5 (by decide) ?_
  refine g_C ?_
  refine g_st hS.k20 hS.l20 (by omega) (by omega) (hm1.waB_5_4 hb j0 (by omega) (by omega) (by omega)) (fun m2 e2 hm2 => ?_)
  have f2 : ∀ c p : Int, ¬ (c = 20 ∧ p = j) → m2 c p = m1 c p := fun c p q => (congrFun (congrFun e2 _) _).trans (up_ne q)
  have y2 : m2 20 j = -1 := (congrFun (congrFun e2 _) _).trans (up_at _ _ _ _)
  exact hk m2 hm2 (fun c p q => by rw [f2 c p (by omega), f1 c p (by omega)]) (by rw [f2 21 j (by omega), y1]) y2
abbrev cTk (m : Mm) (h j : Int) : Prop := (0 ≤ h ∧ h < m 4 4) ∧ (0 ≤ j ∧ j < m 4 5) ∧ (¬ m 20 j = -1 ∧ m 20 j = m 17 h ∧ m 18 h = 0 ∧ bcF (hbt (m 21) h 4) < 2)
theorem zs_take11 {X : Mm} {S : Sh} {m0 : Mm} {K : Int → Mm → Prop} {h j : Int} (hS : Shp S) (hm : Inv X S m0) (h0 : ¬ cTk m0 h j → K (-1) m0) (hk : ∀ (i : Int) (M1 M2 : Mm), cTk m0 h j → KP m0 M1 i → Inv X S M2 → (∀ c p : Int, ¬ (p = j ∧ (c = 20 ∨ c = 21)) → M2 c p = M1 c p) → M2 21 j = h → M2 20 j = -1 → K (hbt (M2 21) h 4) M2) : wp_X11_take S m0 0 h j K := by
  have b4 := hm.f_4_4
  have b5 := hm.f_4_5
  have hb : isSt 16 := by decide
  refine u_X11_take ?_
  refine ⟨hS.k0, ?_⟩
  refine zs_isHand11 hS hm (fun c1 => g_ifF (by decide) ?_) (fun c1 => g_ifT rfl (g_C (h0 (fun z => c1 z.1))))
  refine ⟨hS.k0, ?_⟩
  refine zs_isJug11 hS hm (fun c2 => g_ifF (by decide) ?_) (fun c2 => g_ifT rfl (g_C (h0 (fun z => c2 z.2.1))))
  refine g_getr 1 3 rfl hS.k0 hm.f_0_1 (by decide) ?_
  refine g_getr 1 16 rfl hS.k3 hm.f_3_1 (by decide) ?_
  refine ⟨hS.k16, ?_⟩
  refine zt_canTake hS hm hb (by omega) (by omega) (by omega) (by omega) (fun c3 => g_ifT (by decide) ?_) (fun c3 => g_ifF (by decide) (g_C (h0 (fun z => c3 z.2.2))))
  refine ⟨hS.k0, ?_⟩
  refine zk_keepPast hS hm (fun i m1 hm1 kp => ?_)
  refine g_getr 1 3 rfl hS.k0 hm1.f_0_1 (by decide) ?_
  refine g_getr 1 16 rfl hS.k3 hm1.f_3_1 (by decide) ?_
  refine ⟨hS.k16, ?_⟩
  refine zs_giveTo hS hm1 (by omega) (by omega) (by omega) (by omega) (fun m2 hm2 f2 y21 y20 => ?_)
  refine g_getr 1 3 rfl hS.k0 hm2.f_0_1 (by decide) ?_
  refine g_getr 1 16 rfl hS.k3 hm2.f_3_1 (by decide) ?_
  refine ⟨hS.k16, ?_⟩
  exact zt_heldBits hS hm2 hb (hk i m1 m2 ⟨c1, c2, c3⟩ kp hm2 f2 y21 y20)
theorem zs_takes {X : Mm} {S : Sh} {m : Mm} {K : Mm → Prop} {h j : Int} (hS : Shp S) (hm : Inv X S m) (i0 : -1 ≤ h) (i1 : h ≤ 4) (j0 : 0 ≤ j) (j1 : j ≤ 3) (hk : ∀ M1 : Mm, Inv X S M1 → (∀ c p : Int, ¬ (c = 346 ∧ p = 35 + 4 * j + 1) → M1 c p = m c p) → M1 346 (35 + 4 * j + 1) = h → K M1) : wp_X12_takes S m 336 h j K := by
  refine u_X12_takes ?_
  refine g_getr 20 346 rfl hS.k336 hm.f_336_20 (by decide) ?_
  refine g_C ?_
  refine g_C ?_
  refine g_M (by omega) (by omega) ?_
  refine g_A (by omega) (by omega) ?_
  refine g_C ?_
  refine g_A (by omega) (by omega) ?_
  refine g_st hS.k346 hS.l346 (by omega) (by omega) (wfm_346_36_4_0_3 hm (a := j) (by omega) (by omega) (by omega) (by omega) (by omega)) (fun m1 e1 hm1 => ?_)
  exact hk m1 hm1 (fun c p q => (congrFun (congrFun e1 _) _).trans (up_ne q)) ((congrFun (congrFun e1 _) _).trans (up_at _ _ _ _))
abbrev rTk (m : Mm) (h j : Int) : Prop := (0 ≤ h ∧ h < m 346 4) ∧ (0 ≤ j ∧ j < m 346 5) ∧ (m 346 (10 + 5 * h + 1) = 0 ∧ StR m j ∧ m 346 (35 + 4 * j + 0) = m 346 (10 + 5 * h + 0) ∧ bcF (hbR m h) < 2)
theorem zs_take12 {X : Mm} {S : Sh} {m0 : Mm} {K : Int → Mm → Prop} {h j : Int} (hS : Shp S) (hm : Inv X S m0) (h0 : ¬ rTk m0 h j → K (-1) m0) (hk : ∀ (u s : Int) (M1 M2 : Mm), rTk m0 h j → KA m0 M1 u s → Inv X S M2 → (∀ c p : Int, ¬ (c = 346 ∧ p = 35 + 4 * j + 1) → M2 c p = M1 c p) → M2 346 (35 + 4 * j + 1) = h → K (hbR M2 h) M2) : wp_X12_take S m0 336 h j K := by
  have b4 := hm.f_346_4
  have b5 := hm.f_346_5
  refine u_X12_take ?_
  refine ⟨hS.k336, ?_⟩
  refine zs_isHand12 hS hm (fun c1 => g_ifF (by decide) ?_) (fun c1 => g_ifT rfl (g_C (h0 (fun z => c1 z.1))))
  refine ⟨hS.k336, ?_⟩
  refine zs_isJug12 hS hm (fun c2 => g_ifF (by decide) ?_) (fun c2 => g_ifT rfl (g_C (h0 (fun z => c2 z.2.1))))
  refine ⟨hS.k336, ?_⟩
  refine zt_takeR hS hm (by omega) (by omega) (by omega) (by omega) (fun c3 => g_ifT (by decide) ?_) (fun c3 => g_ifF (by decide) (g_C (h0 (fun z => c3 z.2.2))))
  refine ⟨hS.k336, ?_⟩
  refine zk_keepsAct hS hm (fun u s m1 hm1 ka => ?_)
  refine ⟨hS.k336, ?_⟩
  refine zs_takes hS hm1 (by omega) (by omega) (by omega) (by omega) (fun m2 hm2 f2 y2 => ?_)
  refine ⟨hS.k336, ?_⟩
  exact zt_held hS hm2 (hk u s m1 m2 ⟨c1, c2, c3⟩ ka hm2 f2 y2)
