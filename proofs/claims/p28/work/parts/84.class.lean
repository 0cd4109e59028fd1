theorem sc_in : ∀ c ∈ lSc, (c + 1) ∈ lTo ∧ (c + 13) ∈ lSt ∧ (c = 3 ∨ c = 76 ∨ c = 101 ∨ c = 126 ∨ c = 151) := by decide +kernel
theorem zj_become {S : Sh} {m0 : Mm} {K : Mm → Prop} {u0 u1 : Int} (hS : Shp S) (hj : Jc S m0) (h0 : isSc u0) (h1 : isSc u1) (hk : ∀ M1 : Mm, Jc S M1 → (∀ c p : Int, spP c p → ¬ (c = u0 ∧ p = 3) → M1 c p = m0 c p) → M1 u0 3 = m0 u1 3 → K M1) : wp_X4_become S m0 u0 u1 K := by
  obtain ⟨X, eX⟩ : ∃ X : Mm, X = sf m0 := ⟨_, rfl⟩
  have hm0 : Inv X S m0 := by rw [eX]; exact hj.inv
  have xe : ∀ c p : Int, ¬ c = -1 → X c p = m0 c p := fun c p q => by rw [eX]; exact sf_e m0 q
  obtain ⟨t0, s0, c0⟩ := sc_in u0 h0
  obtain ⟨t1, s1, c1⟩ := sc_in u1 h1
  refine u_X4_become ?_
  refine g_getr 0 (u0 + 1) rfl (hS.kB_4_0 h0) (hm0.fB_4_0 h0) (by omega) ?_
  refine g_getr 0 (u1 + 1) rfl (hS.kB_4_0 h1) (hm0.fB_4_0 h1) (by omega) ?_
  refine ⟨hS.kB_8_0 t0, ?_⟩
  refine z_X8_become hS hm0 t0 t1 (fun m1 hm1 => ?_)
  refine g_getr 1 (u0 + 13) rfl (hS.kB_4_0 h0) (hm1.fB_4_1 h0) (by omega) ?_
  refine g_getr 1 (u1 + 13) rfl (hS.kB_4_0 h1) (hm1.fB_4_1 h1) (by omega) ?_
  refine ⟨hS.kB_5_0 s0, ?_⟩
  refine z_X5_become hS hm1 s0 s1 (fun m2 hm2 => ?_)
  refine g_get 2 (-1) (5) rfl (hS.kB_4_0 h1) (hm2.fB_4_2 h1) (fun v ev bv cv => ?_)
  refine g_put 2 rfl (hS.kB_4_0 h0) (hm2.wB_4_2 h0 bv cv) (fun m3 e3 hm3 => ?_)
  refine g_get 3 (0) (2147483647) rfl (hS.kB_4_0 h1) (hm3.fB_4_3 h1) (fun x ex bx cx => ?_)
  refine g_putR 3 rfl (hS.kB_4_0 h0) (fun m4 e4 => ?_)
  have f4 : ∀ c p : Int, ¬ (c = u0 ∧ p = 3) → m4 c p = m3 c p := fun c p q => (congrFun (congrFun e4 _) _).trans (up_ne q)
  have y4 : m4 u0 3 = x := (congrFun (congrFun e4 _) _).trans (up_at _ _ _ _)
  have j3 : Jc S m3 := Jc.of hm3
  obtain ⟨d0, d1, d2, d3, d4⟩ := cf_4_3 u0 h0
  have e4' : m4 = up m3 ((u0.toNat : Nat) : Int) ((3 : Nat) : Int) x := by
    rw [Int.toNat_of_nonneg d0]
    exact e4
  have j4 : Jc S m4 := j3.up1 u0.toNat 3 e4' (okb_of d3 bx cx) (by omega) (j3.2.2.2.1.eq (fun p q => f4 336 p (by omega)) (fun c p q => f4 c p (by omega))) (by omega)
  obtain ⟨Y, eY⟩ : ∃ Y : Mm, Y = sf m4 := ⟨_, rfl⟩
  have hm4 : Inv Y S m4 := by rw [eY]; exact j4.inv
  have ye : ∀ c p : Int, ¬ c = -1 → Y c p = m4 c p := fun c p q => by rw [eY]; exact sf_e m4 q
  refine g_get 4 (0) (10) rfl (hS.kB_4_0 h1) (hm4.fB_4_4 h1) (fun t et bt ct => ?_)
  refine g_put 4 rfl (hS.kB_4_0 h0) (hm4.wB_4_4 h0 bt ct) (fun n0 en0 hn0 => ?_)
  refine g_getr 5 (u1 + 21) rfl (hS.kB_4_0 h1) (hn0.fB_4_5 h1) (by omega) ?_
  refine g_C ?_
  refine g_getr 5 (u0 + 21) rfl (hS.kB_4_0 h0) (hn0.fB_4_5 h0) (by omega) ?_
  refine g_C ?_
  refine g_C ?_
  refine g_cpy (hS.kB_4_21 h1) (hS.kB_4_21 h0) (hS.lB_4_21 h1) (hS.lB_4_21 h0) (by decide) (hn0.cpB_4_21 h1 h0 (by decide)) (fun n1 hn1 => ?_)
  refine g_getr 6 (u1 + 22) rfl (hS.kB_4_0 h1) (hn1.fB_4_6 h1) (by omega) ?_
  refine g_C ?_
  refine g_getr 6 (u0 + 22) rfl (hS.kB_4_0 h0) (hn1.fB_4_6 h0) (by omega) ?_
  refine g_C ?_
  refine g_C ?_
  refine g_cpy (hS.kB_4_22 h1) (hS.kB_4_22 h0) (hS.lB_4_22 h1) (hS.lB_4_22 h0) (by decide) (hn1.cpB_4_22 h1 h0 (by decide)) (fun n2 hn2 => ?_)
  refine g_getr 7 (u1 + 23) rfl (hS.kB_4_0 h1) (hn2.fB_4_7 h1) (by omega) ?_
  refine g_C ?_
  refine g_getr 7 (u0 + 23) rfl (hS.kB_4_0 h0) (hn2.fB_4_7 h0) (by omega) ?_
  refine g_C ?_
  refine g_C ?_
  refine g_cpy (hS.kB_4_23 h1) (hS.kB_4_23 h0) (hS.lB_4_23 h1) (hS.lB_4_23 h0) (by decide) (hn2.cpB_4_23 h1 h0 (by decide)) (fun n3 hn3 => ?_)
  refine g_getr 8 (u1 + 24) rfl (hS.kB_4_0 h1) (hn3.fB_4_8 h1) (by omega) ?_
  refine g_C ?_
  refine g_getr 8 (u0 + 24) rfl (hS.kB_4_0 h0) (hn3.fB_4_8 h0) (by omega) ?_
  refine g_C ?_
  refine g_C ?_
  refine g_cpy (hS.kB_4_24 h1) (hS.kB_4_24 h0) (hS.lB_4_24 h1) (hS.lB_4_24 h0) (by decide) (hn3.cpB_4_24 h1 h0 (by decide)) (fun n4 hn4 => ?_)
  have sp : ∀ c p : Int, spP c p → n4 c p = m4 c p := fun c p q => (hn4.g q).trans (ye c p (by omega))
  have sp3 : ∀ c p : Int, spP c p → m3 c p = m0 c p := fun c p q => (hm3.g q).trans (xe c p (by omega))
  refine hk n4 (Jc.of hn4) (fun c p q q2 => ?_) ?_
  · rw [sp c p q, f4 c p q2, sp3 c p q]
  · rw [sp u0 3 (by omega), y4, ex, sp3 u1 3 (by omega)]
theorem im_cell : ∀ p : Nat, p < 4 → p < pT.getD 28 0 ∧ bd 28 p = (76 + 25 * (p : Int), 76 + 25 * (p : Int)) ∧ (76 + 25 * (p : Int)) ∈ lSc := by decide +kernel
theorem Inv.im {X : Mm} {S : Sh} {M : Mm} (h : Inv X S M) {i : Int} (h0 : 0 ≤ i) (h1 : i ≤ 3) : M 28 i = 76 + 25 * i := by
  obtain ⟨q0, q1, -⟩ := im_cell i.toNat (by omega)
  have q := h.rd 28 i.toNat _ _ (by decide) q0 q1 (Int.le_refl _)
  rw [Int.toNat_of_nonneg h0] at q
  exact Int.le_antisymm q.2 q.1
theorem im_sc {i : Int} (h0 : 0 ≤ i) (h1 : i ≤ 3) : isSc (76 + 25 * i) := by
  have q := (im_cell i.toNat (by omega)).2.2
  rw [Int.toNat_of_nonneg h0] at q
  exact q
theorem zj_image11 {S : Sh} {m0 : Mm} {K : Int → Mm → Prop} {u1 : Int} (hS : Shp S) (hj : Jc S m0) (h0 : ¬ (0 ≤ u1 ∧ u1 ≤ 3) → K (-1) m0) (hk : ∀ (r : Int) (M1 : Mm), 0 ≤ u1 → u1 ≤ 3 → Jc S M1 → (∀ c p : Int, spP c p → ¬ c = 76 + 25 * u1 → M1 c p = m0 c p) → M1 (76 + 25 * u1) 3 = m0 3 3 → M1 (76 + 25 * u1) 9 = 1 → K r M1) : wp_X11_image S m0 0 u1 K := by
  have hm0 := hj.inv
  refine u_X11_image ?_
  refine g_if (fun w => g_C (h0 (by omega))) (fun w => ?_)
  refine g_C ?_
  refine g_if (fun w2 => ?_) (fun w2 => g_C (h0 (by omega)))
  have a : 0 ≤ u1 := by omega
  have b : u1 ≤ 3 := by omega
  have sc := im_sc a b
  refine g_getr 2 28 rfl hS.k0 hm0.f_0_2 (by decide) ?_
  refine g_ldrB (P := fun c => c = 76 + 25 * u1) (fun c hc => by omega) hS.k28 hS.l28 a (by omega) (hm0.im a b) (fun v ev hv => ?_)
  subst hv
  refine g_getr 1 3 rfl hS.k0 hm0.f_0_1 (by decide) ?_
  refine ⟨hS.kB_4_0 sc, ?_⟩
  refine zj_become hS hj sc (by decide) (fun m1 j1 f1 x1 => ?_)
  have hm1 := j1.inv
  refine g_getr 2 28 rfl hS.k0 hm1.f_0_2 (by decide) ?_
  refine g_ldrB (P := fun c => c = 76 + 25 * u1) (fun c hc => by omega) hS.k28 hS.l28 a (by omega) (hm1.im a b) (fun v2 ev2 hv2 => ?_)
  subst hv2
  refine g_C ?_
  refine g_putzR 9 rfl (hS.kB_4_0 sc) (by decide) (fun m2 e2 => ?_)
  have f2 : ∀ c p : Int, ¬ (c = 76 + 25 * u1 ∧ p = 9) → m2 c p = m1 c p := fun c p q => (congrFun (congrFun e2 _) _).trans (up_ne q)
  have y2 : m2 (76 + 25 * u1) 9 = 1 := (congrFun (congrFun e2 _) _).trans (up_at _ _ _ _)
  obtain ⟨d0, d1, d2, d3, d4⟩ := cf_4_9 _ sc
  have e2' : m2 = up m1 (((76 + 25 * u1).toNat : Nat) : Int) ((9 : Nat) : Int) 1 := by
    rw [Int.toNat_of_nonneg d0]
    exact e2
  have j2 : Jc S m2 := j1.up1 (76 + 25 * u1).toNat 9 e2' (okb_of d3 (by decide) (by decide)) (by omega) (j1.2.2.2.1.eq (fun p q => f2 336 p (by omega)) (fun c p q => f2 c p (by omega))) (by omega)
  have hm2 := j2.inv
  refine g_getr 1 3 rfl hS.k0 hm2.f_0_1 (by decide) ?_
  refine g_getr 1 16 rfl hS.k3 hm2.f_3_1 (by decide) ?_
  refine g_getu 0 rfl hS.k16 (fun v3 ev3 => ?_)
  refine hk _ m2 a b j2 (fun c p q q2 => ?_) ?_ y2
  · rw [f2 c p (by omega), f1 c p q (by omega)]
  · rw [f2 _ 3 (by omega), x1]
theorem zj_back11 {S : Sh} {m0 : Mm} {K : Int → Mm → Prop} {u1 : Int} (hS : Shp S) (hj : Jc S m0) (h0 : (¬ (0 ≤ u1 ∧ u1 ≤ 3) ∨ m0 (76 + 25 * u1) 9 = 0) → K (-1) m0) (hk : ∀ (r : Int) (M1 : Mm), 0 ≤ u1 → u1 ≤ 3 → ¬ m0 (76 + 25 * u1) 9 = 0 → Jc S M1 → (∀ c p : Int, spP c p → ¬ (c = 3 ∧ p = 3) → M1 c p = m0 c p) → M1 3 3 = m0 (76 + 25 * u1) 3 → K r M1) : wp_X11_back S m0 0 u1 K := by
  have hm0 := hj.inv
  refine u_X11_back ?_
  refine g_if (fun w => g_C (h0 (Or.inl (by omega)))) (fun w => ?_)
  refine g_C ?_
  refine g_if (fun w2 => g_C (h0 (Or.inl (by omega)))) (fun w2 => ?_)
  have a : 0 ≤ u1 := by omega
  have b : u1 ≤ 3 := by omega
  have sc := im_sc a b
  refine g_getr 2 28 rfl hS.k0 hm0.f_0_2 (by decide) ?_
  refine g_ldrB (P := fun c => c = 76 + 25 * u1) (fun c hc => by omega) hS.k28 hS.l28 a (by omega) (hm0.im a b) (fun v ev hv => ?_)
  subst hv
  refine g_getu 9 rfl (hS.kB_4_0 sc) (fun fl efl => ?_)
  refine g_if (fun w3 => ?_) (fun w3 => g_C (h0 (Or.inr (by omega))))
  refine g_getr 1 3 rfl hS.k0 hm0.f_0_1 (by decide) ?_
  refine g_getr 2 28 rfl hS.k0 hm0.f_0_2 (by decide) ?_
  refine g_ldrB (P := fun c => c = 76 + 25 * u1) (fun c hc => by omega) hS.k28 hS.l28 a (by omega) (hm0.im a b) (fun v2 ev2 hv2 => ?_)
  subst hv2
  refine ⟨hS.k3, ?_⟩
  refine zj_become hS hj (by decide) sc (fun m1 j1 f1 x1 => ?_)
  have hm1 := j1.inv
  refine g_C ?_
  refine g_put 5 rfl hS.k0 (hm1.w_0_5 (by decide) (by decide)) (fun m2 e2 hm2 => ?_)
  refine ⟨hS.k0, ?_⟩
  refine z_X11_enforce hS hm2 (fun m3 hm3 => ?_)
  refine g_getr 1 3 rfl hS.k0 hm3.f_0_1 (by decide) ?_
  refine g_getr 1 16 rfl hS.k3 hm3.f_3_1 (by decide) ?_
  refine g_getu 0 rfl hS.k16 (fun v3 ev3 => ?_)
  have sp : ∀ c p : Int, spP c p → m3 c p = m1 c p := fun c p q => (hm3.g q).trans (sf_e m1 (by omega))
  refine hk _ m3 a b (by omega) (Jc.of hm3) (fun c p q q2 => ?_) ?_
  · rw [sp c p q, f1 c p q q2]
  · rw [sp 3 3 (by decide), x1]
theorem Shp.new {S : Sh} (h : Shp S) (ci n : Nat) : Shp (newS S ci n) := by
  refine ⟨by show 358 ≤ S.1 + 1; have := h.1; omega, fun a ha => ?_⟩
  have h1 := h.1
  have e : ¬ (a : Int) = (S.1 : Int) := by omega
  show (if (a : Int) = (S.1 : Int) then ci else S.2.1 a) = _ ∧ (if (a : Int) = (S.1 : Int) then n else S.2.2 a) = _
  rw [if_neg e, if_neg e]
  exact h.2 a ha
theorem rowv.new {S : Sh} {v : Int} (h : rowv S v) (ci n : Nat) : rowv (newS S ci n) v := by
  rcases h with h | ⟨h1, h2, h3⟩
  · exact Or.inl h
  · obtain ⟨q0, q1, q2⟩ := h1
    have e : ¬ v = (S.1 : Int) := by omega
    refine Or.inr ⟨⟨q0, by show v.toNat < S.1 + 1; omega, ?_⟩, ?_, h3⟩
    · show (if v = (S.1 : Int) then ci else S.2.1 v) = 14
      rw [if_neg e]; exact q2
    · show (if v = (S.1 : Int) then n else S.2.2 v) ≤ 399
      rw [if_neg e]; exact h2
theorem zj_rule11 {S : Sh} {m0 : Mm} {K : Int → Sh → Mm → Prop} (hS : Shp S) (hj : JX S m0) (hk : ∀ (r : Int) (S1 : Sh) (M1 : Mm), Shp S1 → JX S1 M1 → K r S1 M1) : wp_X11_rule S m0 0 K := by
  have hm0 := hj.inv
  have hs0 := hS.1
  unfold wp_X11_rule
  refine ⟨by omega, ?_⟩
  refine g_get 7 (0) (6) rfl hS.k0 hm0.f_0_7 (fun v ev bv cv => ?_)
  refine g_C ?_
  refine g_if (fun w => ?_) (fun w => g_C (hk _ S m0 hS hj))
  refine g_getr 9 52 rfl hS.k0 hm0.f_0_9 (by decide) ?_
  refine ⟨hS.k52, ?_⟩
  refine z_X3_read hS hm0 (fun r1 m1 hm1 f1 b1 c1 y1 => ?_)
  refine g_getr 0 1 rfl hS.k0 hm1.f_0_0 (by decide) ?_
  refine g_C ?_
  refine g_put 1 rfl hS.k1 (hm1.w_1_1 (by decide) (by decide)) (fun m2 e2 hm2 => ?_)
  have f2 : ∀ c p : Int, ¬ (c = 1 ∧ p = 1) → m2 c p = m1 c p := fun c p q => (congrFun (congrFun e2 _) _).trans (up_ne q)
  have j2 : JX S m2 := hj.of hm2
  refine g_if (fun w2 => ?_) (fun w2 => ?_)
  · have y2 : m2 52 2 ≤ 399 := by
      rw [f2 52 2 (by omega)]
      exact y1.resolve_left w2
    have e7 : m2 0 7 = m0 0 7 := by rw [f2 0 7 (by omega), f1 0 7 (by omega)]
    refine g_getr 6 30 rfl hS.k0 hm2.f_0_6 (by decide) ?_
    refine g_get 7 (0) (6) rfl hS.k0 hm2.f_0_7 (fun k ek bk ck => ?_)
    refine g_getr 9 52 rfl hS.k0 hm2.f_0_9 (by decide) ?_
    refine ⟨hS.k52, ?_⟩
    unfold wp_X3_copyOfCode
    refine ⟨by omega, ?_⟩
    refine g_getr 1 53 rfl hS.k52 hm2.f_52_1 (by decide) ?_
    refine g_get 2 (0) (400) rfl hS.k52 hm2.f_52_2 (fun l el bl cl => ?_)
    unfold wp_J7_copyOf_59c91
    refine g_len 400 hS.k53 hS.l53 (by decide) ?_
    refine ⟨by omega, bl, cl, by omega, ?_⟩
    have hS3 : Shp (newS S 14 l.toNat) := hS.new 14 l.toNat
    unfold wNewA
    refine g_C ?_
    refine g_C ?_
    refine g_len 400 hS3.k53 hS3.l53 (by decide) ?_
    refine g_min (fun q q1 q2 q3 => ?_)
    have kn : isK (newS S 14 l.toNat) (S.1 : Int) 14 := by
      refine ⟨by omega, by show (S.1 : Int).toNat < S.1 + 1; omega, ?_⟩
      show (if (S.1 : Int) = (S.1 : Int) then 14 else S.2.1 (S.1 : Int)) = 14
      rw [if_pos rfl]
    have ln : (newS S 14 l.toNat).2.2 (S.1 : Int) = l.toNat := by
      show (if (S.1 : Int) = (S.1 : Int) then l.toNat else S.2.2 (S.1 : Int)) = l.toNat
      rw [if_pos rfl]
    refine ⟨hS3.k53, kn, ⟨by decide, by decide, by omega, by rw [hS3.l53]; omega, by rw [ln]; omega⟩, ?_⟩
    obtain ⟨m3, e3⟩ : ∃ m3 : Mm, m3 = cpM (newM S m2 fun _ => if 17 ≤ 14 then -1 else 0) 53 0 (S.1 : Int) 0 q := ⟨_, rfl⟩
    rw [← e3]
    have f3 : ∀ c p : Int, ¬ c = (S.1 : Int) → m3 c p = m2 c p := by
      intro c p hc
      rw [e3]
      unfold cpM newM
      rw [if_neg (fun z => hc z.1), if_neg hc]
    have l30 : (newS S 14 l.toNat).2.2 30 = 6 := hS3.l 30 (by decide) (by decide +kernel)
    refine ⟨hS3.k30, Or.inr kn, ⟨by omega, by rw [l30]; omega⟩, ?_⟩
    obtain ⟨m4, e4⟩ : ∃ m4 : Mm, m4 = up m3 30 k (S.1 : Int) := ⟨_, rfl⟩
    rw [← e4]
    have f4 : ∀ c p : Int, ¬ (c = 30 ∧ p = k) → m4 c p = m3 c p := fun c p q => (congrFun (congrFun e4 _) _).trans (up_ne q)
    have y4 : m4 30 k = (S.1 : Int) := (congrFun (congrFun e4 _) _).trans (up_at _ _ _ _)
    have z7 : m4 0 7 = m2 0 7 := by rw [f4 0 7 (by omega), f3 0 7 (by omega)]
    refine g_getu 7 rfl hS3.k0 (fun k2 ek2 => ?_)
    refine g_C ?_
    refine g_A (by omega) (by omega) ?_
    refine g_putR 7 rfl hS3.k0 (fun m5 e5 => ?_)
    have f5 : ∀ c p : Int, ¬ (c = 0 ∧ p = 7) → m5 c p = m4 c p := fun c p q => (congrFun (congrFun e5 _) _).trans (up_ne q)
    have y5 : m5 0 7 = k2 + 1 := (congrFun (congrFun e5 _) _).trans (up_at _ _ _ _)
    have F : ∀ c p : Int, c < 358 → ¬ (c = 30 ∧ p = k) → ¬ (c = 0 ∧ p = 7) → m5 c p = m2 c p := fun c p a1 a2 a3 => by rw [f5 c p a3, f4 c p a2, f3 c p (by omega)]
    have j5 : JX (newS S 14 l.toNat) m5 := by
      obtain ⟨⟨k1, k2', k3, k4, k5⟩, k6⟩ := j2
      refine ⟨⟨fun c p hc hp => ?_, fun i i0 i1 => ?_, ?_, ?_, ?_⟩, ?_⟩
      · by_cases z : (c : Int) = 30 ∧ (p : Int) = k
        · have z1 : c = 30 := by omega
          rw [z1, bd_u (b := (1, 0)) (by decide +kernel)]
          exact Or.inl (by decide)
        · by_cases z2 : (c : Int) = 0 ∧ (p : Int) = 7
          · have z3 : c = 0 := by omega
            have z4 : p = 7 := by omega
            subst z3 z4
            rw [show ((0 : Nat) : Int) = 0 from rfl, show ((7 : Nat) : Int) = 7 from rfl, y5]
            exact okb_of (l := 0) (u := 6) (by decide +kernel) (by omega) (by omega)
          · rw [F c p (by omega) z z2]
            exact k1 c p hc hp
      · by_cases z : i = k
        · rw [z, f5 30 k (by omega), y4]
          exact Or.inr ⟨kn, by rw [ln]; omega, by omega⟩
        · rw [F 30 i (by omega) (by omega) (by omega)]
          exact (k2' i i0 i1).new 14 l.toNat
      · rw [F 55 1 (by omega) (by omega) (by omega)]
        exact k3.new 14 l.toNat
      · exact k4.eq (fun p q => F 336 p (by omega) (by omega) (by omega)) (fun c p q => F c p (by omega) (by omega) (by omega))
      · exact k5.same (fun p => F 346 p (by omega) (by omega) (by omega)) (fun p => F 347 p (by omega) (by omega) (by omega)) (fun p => F 354 p (by omega) (by omega) (by omega)) (F 336 25 (by omega) (by omega) (by omega))
      · exact k6.same (fun c p q => F c p (by omega) (by omega) (by omega))
    refine g_getu 7 rfl hS3.k0 (fun k3 ek3 => ?_)
    refine g_C ?_
    refine g_S (by omega) (by omega) ?_
    exact hk _ _ m5 hS3 j5
  · refine g_C ?_
    refine g_getr 0 1 rfl hS.k0 hm2.f_0_0 (by decide) ?_
    refine g_get 4 (0) (4000) rfl hS.k1 hm2.f_1_4 (fun v4 ev4 bv4 cv4 => ?_)
    refine g_S (by omega) (by omega) ?_
    exact hk _ S m2 hS j2
