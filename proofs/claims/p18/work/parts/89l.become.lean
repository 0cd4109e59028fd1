theorem sc_in : ∀ c ∈ lSc, (c + 1) ∈ lTo ∧ (c + 13) ∈ lSt ∧ (c = 3 ∨ c = 76 ∨ c = 101 ∨ c = 126 ∨ c = 151) := by decide +kernel
theorem sc_sp : ∀ c ∈ lSc, spP c 2 ∧ spP c 3 ∧ spP c 9 := by
  intro c hc
  rcases (sc_in c hc).2.2 with e | e | e | e | e <;> subst e <;> exact ⟨by decide, by decide, by decide⟩
theorem sc_no : ∀ c ∈ lSc, 0 ≤ c ∧ (¬ c.toNat = 30 ∧ ¬ (c.toNat = 55 ∧ (2 : Nat) = 1)) ∧ (¬ c.toNat = 30 ∧ ¬ (c.toNat = 55 ∧ (3 : Nat) = 1)) ∧ ¬ (c.toNat = 346 ∨ c.toNat = 347 ∨ c.toNat = 354 ∨ (c.toNat = 336 ∧ (2 : Nat) = 25)) ∧ ¬ (c.toNat = 346 ∨ c.toNat = 347 ∨ c.toNat = 354 ∨ (c.toNat = 336 ∧ (3 : Nat) = 25)) ∧ ¬ (336 : Int) = c ∧ ¬ ((355 : Int) = c ∨ (357 : Int) = c ∨ (341 : Int) = c ∨ (340 : Int) = c ∨ (338 : Int) = c) := by decide +kernel
theorem spP_ne {c p : Int} (h : spP c p) : ¬ c = -1 := by omega
theorem no5 {c d : Int} (h : ¬ ((355 : Int) = d ∨ (357 : Int) = d ∨ (341 : Int) = d ∨ (340 : Int) = d ∨ (338 : Int) = d)) (q : c = 355 ∨ c = 357 ∨ c = 341 ∨ c = 340 ∨ c = 338) : ¬ c = d := by omega
theorem zj_become {S : Sh} {m0 : Mm} {K : Mm → Prop} {u0 u1 : Int} (hS : Shp S) (hj : Jc S m0) (h0 : isSc u0) (h1 : isSc u1) (hk : ∀ M1 : Mm, Jc S M1 → (∀ c p : Int, spP c p → ¬ (c = u0 ∧ (p = 2 ∨ p = 3)) → M1 c p = m0 c p) → M1 u0 3 = m0 u1 3 → M1 u0 2 = m0 u1 2 → K M1) : wp_X4_become S m0 u0 u1 K := by
  obtain ⟨X, eX⟩ : ∃ X : Mm, X = sf m0 := ⟨_, rfl⟩
  have hm0 : Inv X S m0 := by rw [eX]; exact hj.inv
  have xe : ∀ c p : Int, ¬ c = -1 → X c p = m0 c p := fun c p q => by rw [eX]; exact sf_e m0 q
  obtain ⟨t0, s0, -⟩ := sc_in u0 h0
  obtain ⟨t1, s1, -⟩ := sc_in u1 h1
  obtain ⟨n0, n2, n3, n4', n5, n6, n7⟩ := sc_no u0 h0
  obtain ⟨k0, -⟩ := sc_no u1 h1
  obtain ⟨a2, a3, -⟩ := sc_sp u0 h0
  obtain ⟨b2, b3, -⟩ := sc_sp u1 h1
  refine u_X4_become ?_
  refine g_getr 0 (u0 + 1) rfl (hS.kB_4_0 h0) (hm0.fB_4_0 h0) (by omega) ?_
  refine g_getr 0 (u1 + 1) rfl (hS.kB_4_0 h1) (hm0.fB_4_0 h1) (by omega) ?_
  refine ⟨hS.kB_8_0 t0, ?_⟩
  refine z_X8_become hS hm0 t0 t1 (fun m1 hm1 => ?_)
  refine g_getr 1 (u0 + 13) rfl (hS.kB_4_0 h0) (hm1.fB_4_1 h0) (by omega) ?_
  refine g_getr 1 (u1 + 13) rfl (hS.kB_4_0 h1) (hm1.fB_4_1 h1) (by omega) ?_
  refine ⟨hS.kB_5_0 s0, ?_⟩
  refine z_X5_become hS hm1 s0 s1 (fun m2 hm2 => ?_)
  refine g_get 2 (-1) (5) rfl (hS.kB_4_0 h1) (hm2.fB_4_2 h1) (fun v ev bv cv => ?_)
  refine g_putR 2 rfl (hS.kB_4_0 h0) (fun m3 e3 => ?_)
  have f3 : ∀ c p : Int, ¬ (c = u0 ∧ p = 2) → m3 c p = m2 c p := fun c p q => (congrFun (congrFun e3 _) _).trans (up_ne q)
  have y3 : m3 u0 2 = v := (congrFun (congrFun e3 _) _).trans (up_at _ _ _ _)
  have j2 : Jc S m2 := Jc.of hm2
  obtain ⟨c0', -, -, c3', -⟩ := cf_4_2 u0 h0
  have e3' : m3 = up m2 ((u0.toNat : Nat) : Int) ((2 : Nat) : Int) v := by
    rw [Int.toNat_of_nonneg c0']
    exact e3
  have j3 : Jc S m3 := j2.up1 u0.toNat 2 e3' (okb_of c3' bv cv) n2 (j2.2.2.2.1.eq (fun p q => f3 336 p (fun z => n6 z.1)) (fun c p q => f3 c p (fun z => no5 n7 q z.1))) n4'
  have hm3 := j3.inv
  refine g_get 3 (0) (2147483647) rfl (hS.kB_4_0 h1) (hm3.fB_4_3 h1) (fun x ex bx cx => ?_)
  refine g_putR 3 rfl (hS.kB_4_0 h0) (fun m4 e4 => ?_)
  have f4 : ∀ c p : Int, ¬ (c = u0 ∧ p = 3) → m4 c p = m3 c p := fun c p q => (congrFun (congrFun e4 _) _).trans (up_ne q)
  have y4 : m4 u0 3 = x := (congrFun (congrFun e4 _) _).trans (up_at _ _ _ _)
  obtain ⟨d0, -, -, d3, -⟩ := cf_4_3 u0 h0
  have e4' : m4 = up m3 ((u0.toNat : Nat) : Int) ((3 : Nat) : Int) x := by
    rw [Int.toNat_of_nonneg d0]
    exact e4
  have j4 : Jc S m4 := j3.up1 u0.toNat 3 e4' (okb_of d3 bx cx) n3 (j3.2.2.2.1.eq (fun p q => f4 336 p (fun z => n6 z.1)) (fun c p q => f4 c p (fun z => no5 n7 q z.1))) n5
  obtain ⟨Y, eY⟩ : ∃ Y : Mm, Y = sf m4 := ⟨_, rfl⟩
  have hm4 : Inv Y S m4 := by rw [eY]; exact j4.inv
  have ye : ∀ c p : Int, ¬ c = -1 → Y c p = m4 c p := fun c p q => by rw [eY]; exact sf_e m4 q
  refine g_get 4 (0) (10) rfl (hS.kB_4_0 h1) (hm4.fB_4_4 h1) (fun t et bt ct => ?_)
  refine g_put 4 rfl (hS.kB_4_0 h0) (hm4.wB_4_4 h0 bt ct) (fun n0 en0 hn0 => ?_)
  refine g_getr 5 (u1 + 21) rfl (hS.kB_4_0 h1) (hn0.fB_4_5 h1) (by omega) ?_
  refine g_C ?_
  refine g_getr 5 (u0 + 21) rfl (hS.kB_4_0 h0) (hn0.fB_4_5 h0) (by omega) ?_
  refine g_C ?_
  refine g_C ?_
  refine g_cpy (hS.kB_4_21 h1) (hS.kB_4_21 h0) (hS.lB_4_21 h1) (hS.lB_4_21 h0) (by decide) (hn0.cpB_4_21 h1 h0 (by decide)) (fun n1 hn1 => ?_)
  refine g_getr 6 (u1 + 22) rfl (hS.kB_4_0 h1) (hn1.fB_4_6 h1) (by omega) ?_
  refine g_C ?_
  refine g_getr 6 (u0 + 22) rfl (hS.kB_4_0 h0) (hn1.fB_4_6 h0) (by omega) ?_
  refine g_C ?_
  refine g_C ?_
  refine g_cpy (hS.kB_4_22 h1) (hS.kB_4_22 h0) (hS.lB_4_22 h1) (hS.lB_4_22 h0) (by decide) (hn1.cpB_4_22 h1 h0 (by decide)) (fun n2 hn2 => ?_)
  refine g_getr 7 (u1 + 23) rfl (hS.kB_4_0 h1) (hn2.fB_4_7 h1) (by omega) ?_
  refine g_C ?_
  refine g_getr 7 (u0 + 23) rfl (hS.kB_4_0 h0) (hn2.fB_4_7 h0) (by omega) ?_
  refine g_C ?_
  refine g_C ?_
  refine g_cpy (hS.kB_4_23 h1) (hS.kB_4_23 h0) (hS.lB_4_23 h1) (hS.lB_4_23 h0) (by decide) (hn2.cpB_4_23 h1 h0 (by decide)) (fun n3 hn3 => ?_)
  refine g_getr 8 (u1 + 24) rfl (hS.kB_4_0 h1) (hn3.fB_4_8 h1) (by omega) ?_
  refine g_C ?_
  refine g_getr 8 (u0 + 24) rfl (hS.kB_4_0 h0) (hn3.fB_4_8 h0) (by omega) ?_
  refine g_C ?_
  refine g_C ?_
  refine g_cpy (hS.kB_4_24 h1) (hS.kB_4_24 h0) (hS.lB_4_24 h1) (hS.lB_4_24 h0) (by decide) (hn3.cpB_4_24 h1 h0 (by decide)) (fun n4 hn4 => ?_)
  have sp : ∀ c p : Int, spP c p → n4 c p = m4 c p := fun c p q => (hn4.g q).trans (ye c p (spP_ne q))
  have sp2 : ∀ c p : Int, spP c p → m2 c p = m0 c p := fun c p q => (hm2.g q).trans (xe c p (spP_ne q))
  refine hk n4 (Jc.of hn4) (fun c p q q2 => ?_) ?_ ?_
  · rw [sp c p q, f4 c p (fun z => q2 ⟨z.1, Or.inr z.2⟩), f3 c p (fun z => q2 ⟨z.1, Or.inl z.2⟩), sp2 c p q]
  · rw [sp u0 3 a3, y4, ex, f3 u1 3 (fun z => absurd z.2 (by decide)), sp2 u1 3 b3]
  · rw [sp u0 2 a2, f4 u0 2 (fun z => absurd z.2 (by decide)), y3, ev, sp2 u1 2 b2]
theorem im_cell : ∀ p : Nat, p < 4 → p < pT.getD 28 0 ∧ bd 28 p = (76 + 25 * (p : Int), 76 + 25 * (p : Int)) ∧ (76 + 25 * (p : Int)) ∈ lSc := by decide +kernel
theorem Inv.im {X : Mm} {S : Sh} {M : Mm} (h : Inv X S M) {i : Int} (h0 : 0 ≤ i) (h1 : i ≤ 3) : M 28 i = 76 + 25 * i := by
  obtain ⟨q0, q1, -⟩ := im_cell i.toNat (by omega)
  have q := h.rd 28 i.toNat _ _ (by decide) q0 q1 (Int.le_refl _)
  rw [Int.toNat_of_nonneg h0] at q
  exact Int.le_antisymm q.2 q.1
theorem im_sc {i : Int} (h0 : 0 ≤ i) (h1 : i ≤ 3) : isSc (76 + 25 * i) := by
  have q := (im_cell i.toNat (by omega)).2.2
  rw [Int.toNat_of_nonneg h0] at q
  exact q
theorem im_sp {k : Int} (h0 : 0 ≤ k) (h1 : k ≤ 3) : spP (76 + 25 * k) 2 ∧ spP (76 + 25 * k) 3 ∧ spP (76 + 25 * k) 9 := sc_sp _ (im_sc h0 h1)
theorem zj_image11 {S : Sh} {m0 : Mm} {K : Int → Mm → Prop} {u1 : Int} (hS : Shp S) (hj : Jc S m0) (h0 : ¬ (0 ≤ u1 ∧ u1 ≤ 3) → K (-1) m0) (hk : ∀ (r : Int) (M1 : Mm), 0 ≤ u1 → u1 ≤ 3 → Jc S M1 → (∀ c p : Int, spP c p → ¬ c = 76 + 25 * u1 → M1 c p = m0 c p) → M1 (76 + 25 * u1) 3 = m0 3 3 → M1 (76 + 25 * u1) 9 = 1 → M1 (76 + 25 * u1) 2 = m0 3 2 → K r M1) : wp_X11_image S m0 0 u1 K := by
  have hm0 := hj.inv
  refine u_X11_image ?_
  refine g_if (fun w => g_C (h0 (by omega))) (fun w => ?_)
  refine g_C ?_
  refine g_if (fun w2 => ?_) (fun w2 => g_C (h0 (by omega)))
  have a : 0 ≤ u1 := by omega
  have b : u1 ≤ 3 := by omega
  have sc := im_sc a b
  refine g_getr 2 28 rfl hS.k0 hm0.f_0_2 (by decide) ?_
  refine g_ldrB (P := fun c => c = 76 + 25 * u1) (fun c hc => by omega) hS.k28 hS.l28 a (by omega) (hm0.im a b) (fun v ev hv => ?_)
  subst hv
  refine g_getr 1 3 rfl hS.k0 hm0.f_0_1 (by decide) ?_
  refine ⟨hS.kB_4_0 sc, ?_⟩
  refine zj_become hS hj sc (by decide) (fun m1 j1 f1 x1 xx1 => ?_)
  have hm1 := j1.inv
  refine g_getr 2 28 rfl hS.k0 hm1.f_0_2 (by decide) ?_
  refine g_ldrB (P := fun c => c = 76 + 25 * u1) (fun c hc => by omega) hS.k28 hS.l28 a (by omega) (hm1.im a b) (fun v2 ev2 hv2 => ?_)
  subst hv2
  refine g_C ?_
  refine g_putzR 9 rfl (hS.kB_4_0 sc) (by decide) (fun m2 e2 => ?_)
  have f2 : ∀ c p : Int, ¬ (c = 76 + 25 * u1 ∧ p = 9) → m2 c p = m1 c p := fun c p q => (congrFun (congrFun e2 _) _).trans (up_ne q)
  have y2 : m2 (76 + 25 * u1) 9 = 1 := (congrFun (congrFun e2 _) _).trans (up_at _ _ _ _)
  obtain ⟨d0, d1, d2, d3, d4⟩ := cf_4_9 _ sc
  have e2' : m2 = up m1 (((76 + 25 * u1).toNat : Nat) : Int) ((9 : Nat) : Int) 1 := by
    rw [Int.toNat_of_nonneg d0]
    exact e2
  have j2 : Jc S m2 := j1.up1 (76 + 25 * u1).toNat 9 e2' (okb_of d3 (by decide) (by decide)) (by omega) (j1.2.2.2.1.eq (fun p q => f2 336 p (by omega)) (fun c p q => f2 c p (by omega))) (by omega)
  have hm2 := j2.inv
  refine g_getr 1 3 rfl hS.k0 hm2.f_0_1 (by decide) ?_
  refine g_getr 1 16 rfl hS.k3 hm2.f_3_1 (by decide) ?_
  refine g_getu 0 rfl hS.k16 (fun v3 ev3 => ?_)
  refine hk _ m2 a b j2 (fun c p q q2 => ?_) ?_ y2 (by rw [f2 _ 2 (by omega), xx1])
  · rw [f2 c p (by omega), f1 c p q (by omega)]
  · rw [f2 _ 3 (by omega), x1]
theorem zj_back11 {S : Sh} {m0 : Mm} {K : Int → Mm → Prop} {u1 : Int} (hS : Shp S) (hj : Jc S m0) (h0 : (¬ (0 ≤ u1 ∧ u1 ≤ 3) ∨ m0 (76 + 25 * u1) 9 = 0) → K (-1) m0) (hk : ∀ (r : Int) (M1 : Mm), 0 ≤ u1 → u1 ≤ 3 → ¬ m0 (76 + 25 * u1) 9 = 0 → Jc S M1 → (∀ c p : Int, spP c p → ¬ (c = 3 ∧ (p = 2 ∨ p = 3)) → M1 c p = m0 c p) → M1 3 3 = m0 (76 + 25 * u1) 3 → M1 3 2 = m0 (76 + 25 * u1) 2 → K r M1) : wp_X11_back S m0 0 u1 K := by
  have hm0 := hj.inv
  refine u_X11_back ?_
  refine g_if (fun w => g_C (h0 (Or.inl (by omega)))) (fun w => ?_)
  refine g_C ?_
  refine g_if (fun w2 => g_C (h0 (Or.inl (by omega)))) (fun w2 => ?_)
  have a : 0 ≤ u1 := by omega
  have b : u1 ≤ 3 := by omega
  have sc := im_sc a b
  refine g_getr 2 28 rfl hS.k0 hm0.f_0_2 (by decide) ?_
  refine g_ldrB (P := fun c => c = 76 + 25 * u1) (fun c hc => by omega) hS.k28 hS.l28 a (by omega) (hm0.im a b) (fun v ev hv => ?_)
  subst hv
  refine g_getu 9 rfl (hS.kB_4_0 sc) (fun fl efl => ?_)
  refine g_if (fun w3 => ?_) (fun w3 => g_C (h0 (Or.inr (by omega))))
  refine g_getr 1 3 rfl hS.k0 hm0.f_0_1 (by decide) ?_
  refine g_getr 2 28 rfl hS.k0 hm0.f_0_2 (by decide) ?_
  refine g_ldrB (P := fun c => c = 76 + 25 * u1) (fun c hc => by omega) hS.k28 hS.l28 a (by omega) (hm0.im a b) (fun v2 ev2 hv2 => ?_)
  subst hv2
  refine ⟨hS.k3, ?_⟩
  refine zj_become hS hj (by decide) sc (fun m1 j1 f1 x1 xx1 => ?_)
  have hm1 := j1.inv
  refine g_C ?_
  refine g_put 5 rfl hS.k0 (hm1.w_0_5 (by decide) (by decide)) (fun m2 e2 hm2 => ?_)
  refine ⟨hS.k0, ?_⟩
  refine z_X11_enforce hS hm2 (fun m3 hm3 => ?_)
  refine g_getr 1 3 rfl hS.k0 hm3.f_0_1 (by decide) ?_
  refine g_getr 1 16 rfl hS.k3 hm3.f_3_1 (by decide) ?_
  refine g_getu 0 rfl hS.k16 (fun v3 ev3 => ?_)
  have sp : ∀ c p : Int, spP c p → m3 c p = m1 c p := fun c p q => (hm3.g q).trans (sf_e m1 (spP_ne q))
  refine hk _ m3 a b (by omega) (Jc.of hm3) (fun c p q q2 => ?_) ?_ (by rw [sp 3 2 (by decide), xx1])
  · rw [sp c p q, f1 c p q q2]
  · rw [sp 3 3 (by decide), x1]
