theorem zx_image11 {S : Sh} {m0 : Mm} {K : Int → Mm → Prop} {u1 : Int} (hS : Shp S) (hj : Jc S m0) (h0 : ¬ (0 ≤ u1 ∧ u1 ≤ 3) → K (-1) m0) (hk : ∀ (r : Int) (M1 : Mm), 0 ≤ u1 → u1 ≤ 3 → Jc S M1 → r = m0 16 0 → (∀ c p : Int, ¬ (76 + 25 * u1 + 1 ≤ c ∧ c ≤ 76 + 25 * u1 + 24) → ¬ (c = 76 + 25 * u1) → M1 c p = m0 c p) → (∀ p : Int, 0 ≤ p → p < 8 → M1 (76 + 25 * u1 + 1) p = m0 (3 + 1) p) → (∀ c p : Int, inT c p → M1 (76 + 25 * u1 + 1 + c) p = m0 (3 + 1 + c) p) → (∀ p : Int, 0 ≤ p → p < 2 → M1 (76 + 25 * u1 + 13) p = m0 (3 + 13) p) → (∀ c p : Int, inS c p → M1 (76 + 25 * u1 + 13 + c) p = m0 (3 + 13 + c) p) → M1 (76 + 25 * u1) 4 = m0 3 4 → (∀ c p : Int, 21 ≤ c → c ≤ 24 → 0 ≤ p → p < 10 → M1 (76 + 25 * u1 + c) p = m0 (3 + c) p) → (∀ c p : Int, spP c p → ¬ c = 76 + 25 * u1 → M1 c p = m0 c p) → M1 (76 + 25 * u1) 3 = m0 3 3 → M1 (76 + 25 * u1) 9 = 1 → M1 (76 + 25 * u1) 2 = m0 3 2 → K r M1) : wp_X11_image S m0 0 u1 K := by
  have hm0 := hj.inv
  refine u_X11_image ?_
  refine g_if (fun w => g_C (h0 (by omega))) (fun w => ?_)
  refine g_C ?_
  refine g_if (fun w2 => ?_) (fun w2 => g_C (h0 (by omega)))
  have a : 0 ≤ u1 := by omega
  have b : u1 ≤ 3 := by omega
  have sc := im_sc a b
  refine g_getr 2 28 rfl hS.k0 hm0.f_0_2 (by decide) ?_
  refine g_ldrB (P := fun c => c = 76 + 25 * u1) (fun c hc => by omega) hS.k28 hS.l28 a (by omega) (hm0.im a b) (fun v ev hv => ?_)
  subst hv
  refine g_getr 1 3 rfl hS.k0 hm0.f_0_1 (by decide) ?_
  refine ⟨hS.kB_4_0 sc, ?_⟩
  refine zx_become hS hj sc (by decide) (by omega) (fun m1 j1 ff t0 t1 s0 s1 y0 y1 f1 x1 xx1 => ?_)
  have hm1 := j1.inv
  refine g_getr 2 28 rfl hS.k0 hm1.f_0_2 (by decide) ?_
  refine g_ldrB (P := fun c => c = 76 + 25 * u1) (fun c hc => by omega) hS.k28 hS.l28 a (by omega) (hm1.im a b) (fun v2 ev2 hv2 => ?_)
  subst hv2
  refine g_C ?_
  refine g_putzR 9 rfl (hS.kB_4_0 sc) (by decide) (fun m2 e2 => ?_)
  have f2 : ∀ c p : Int, ¬ (c = 76 + 25 * u1 ∧ p = 9) → m2 c p = m1 c p := fun c p q => (congrFun (congrFun e2 _) _).trans (up_ne q)
  have y2 : m2 (76 + 25 * u1) 9 = 1 := (congrFun (congrFun e2 _) _).trans (up_at _ _ _ _)
  obtain ⟨d0, d1, d2, d3, d4⟩ := cf_4_9 _ sc
  have e2' : m2 = up m1 (((76 + 25 * u1).toNat : Nat) : Int) ((9 : Nat) : Int) 1 := by
    rw [Int.toNat_of_nonneg d0]
    exact e2
  have j2 : Jc S m2 := j1.up1 (76 + 25 * u1).toNat 9 e2' (okb_of d3 (by decide) (by decide)) (by omega) (j1.2.2.2.1.eq (fun p q => f2 336 p (by omega)) (fun c p q => f2 c p (by omega))) (by omega)
  have hm2 := j2.inv
  refine g_getr 1 3 rfl hS.k0 hm2.f_0_1 (by decide) ?_
  refine g_getr 1 16 rfl hS.k3 hm2.f_3_1 (by decide) ?_
  refine g_getu 0 rfl hS.k16 (fun v3 ev3 => ?_)
  refine hk _ m2 a b j2 (by rw [ev3, f2 16 0 (by omega), ff 16 0 (by omega) (by omega)]) (fun c p q q2 => by rw [f2 c p (by omega), ff c p q (by omega)]) (fun p p0 p1 => by rw [f2 _ p (by omega)]; exact t0 p p0 p1) (fun c p q => by rw [f2 _ p (by omega)]; exact t1 c p q) (fun p p0 p1 => by rw [f2 _ p (by omega)]; exact s0 p p0 p1) (fun c p q => by rw [f2 _ p (by omega)]; exact s1 c p q) (by rw [f2 _ 4 (by omega)]; exact y0) (fun c p c0 c1 p0 p1 => by rw [f2 _ p (by omega)]; exact y1 c p c0 c1 p0 p1) (fun c p q q2 => ?_) ?_ y2 (by rw [f2 _ 2 (by omega), xx1])
  · rw [f2 c p (by omega), f1 c p q (by omega)]
  · rw [f2 _ 3 (by omega), x1]
