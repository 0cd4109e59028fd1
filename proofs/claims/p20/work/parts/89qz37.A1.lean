/-! put, handOn, go of both sides, to the letter -/
abbrev cPt (m : Mm) (h j : Int) : Prop := (0 ≤ h ∧ h < m 4 4) ∧ (0 ≤ j ∧ j < m 4 5) ∧ m 18 h = 0 ∧ m 21 j = h
theorem zs_put11 {X : Mm} {S : Sh} {m0 : Mm} {K : Int → Mm → Prop} {h j : Int} (hS : Shp S) (hm : Inv X S m0) (h0 : ¬ cPt m0 h j → K (-1) m0) (hk : ∀ (i : Int) (M1 M2 : Mm), cPt m0 h j → KP m0 M1 i → Inv X S M2 → (∀ c p : Int, ¬ (p = j ∧ (c = 20 ∨ c = 21)) → M2 c p = M1 c p) → M2 21 j = -1 → M2 20 j = m0 17 h → K (m0 17 h) M2) : wp_X11_put S m0 0 h j K := by
  have b4 := hm.f_4_4
  have b5 := hm.f_4_5
  have hb : isSt 16 := by decide
  refine u_X11_put ?_
  refine ⟨hS.k0, ?_⟩
  refine zs_isHand11 hS hm (fun c1 => g_ifF (by decide) ?_) (fun c1 => g_ifT rfl (g_C (h0 (fun z => c1 z.1))))
  refine ⟨hS.k0, ?_⟩
  refine zs_isJug11 hS hm (fun c2 => g_ifF (by decide) ?_) (fun c2 => g_ifT rfl (g_C (h0 (fun z => c2 z.2.1))))
  refine g_getr 1 3 rfl hS.k0 hm.f_0_1 (by decide) ?_
  refine g_getr 1 16 rfl hS.k3 hm.f_3_1 (by decide) ?_
  refine ⟨hS.k16, ?_⟩
  refine zt_atPlace hS hm hb (by omega) (by omega) (fun c3 => g_ifT (by decide) ?_) (fun c3 => g_ifF (by decide) (g_C (h0 (fun z => c3 z.2.2.1))))
  refine g_getr 1 3 rfl hS.k0 hm.f_0_1 (by decide) ?_
  refine g_getr 1 16 rfl hS.k3 hm.f_3_1 (by decide) ?_
  refine g_getr 6 21 rfl hS.k16 hm.f_16_6 (by decide) ?_
  refine g_ldu hS.k21 hS.l21 (by omega) (by omega) (fun v ev => ?_)
  refine g_if (fun w => ?_) (fun w => g_C (h0 (fun z => w (ev.trans z.2.2.2))))
  refine ⟨hS.k0, ?_⟩
  refine zk_keepPast hS hm (fun i m1 hm1 kp => ?_)
  refine g_getr 1 3 rfl hS.k0 hm1.f_0_1 (by decide) ?_
  refine g_getr 1 16 rfl hS.k3 hm1.f_3_1 (by decide) ?_
  refine g_getr 6 21 rfl hS.k16 hm1.f_16_6 (by decide) ?_
  refine g_C ?_
  refine g_st hS.k21 hS.l21 (by omega) (by omega) (hm1.waB_5_5 hb c2.1 (by omega) (by omega) (by omega)) (fun m2 e2 hm2 => ?_)
  have f2 : ∀ c p : Int, ¬ (c = 21 ∧ p = j) → m2 c p = m1 c p := fun c p q => (congrFun (congrFun e2 _) _).trans (up_ne q)
  have y2 : m2 21 j = -1 := (congrFun (congrFun e2 _) _).trans (up_at _ _ _ _)
  refine g_getr 1 3 rfl hS.k0 hm2.f_0_1 (by decide) ?_
  refine g_getr 1 16 rfl hS.k3 hm2.f_3_1 (by decide) ?_
  refine g_getr 5 20 rfl hS.k16 hm2.f_16_5 (by decide) ?_
  refine g_getr 1 3 rfl hS.k0 hm2.f_0_1 (by decide) ?_
  refine g_getr 1 16 rfl hS.k3 hm2.f_3_1 (by decide) ?_
  refine g_getr 2 17 rfl hS.k16 hm2.f_16_2 (by decide) ?_
  refine g_ldu hS.k17 hS.l17 (by omega) (by omega) (fun v2 ev2 => ?_)
  have q17 : 0 ≤ m2 17 h ∧ m2 17 h ≤ 5 := hm2.aB_5_1 hb (i := h) (by omega) (by omega)
  have r17 : m2 17 h = m0 17 h := by rw [f2 17 h (by omega), kp.f (by omega) (by omega)]
  refine g_st hS.k20 hS.l20 (by omega) (by omega) (hm2.waB_5_4 hb c2.1 (by omega) (by omega) (by omega)) (fun m3 e3 hm3 => ?_)
  have f3 : ∀ c p : Int, ¬ (c = 20 ∧ p = j) → m3 c p = m2 c p := fun c p q => (congrFun (congrFun e3 _) _).trans (up_ne q)
  have y3 : m3 20 j = v2 := (congrFun (congrFun e3 _) _).trans (up_at _ _ _ _)
  refine g_getr 1 3 rfl hS.k0 hm3.f_0_1 (by decide) ?_
  refine g_getr 1 16 rfl hS.k3 hm3.f_3_1 (by decide) ?_
  refine g_getr 2 17 rfl hS.k16 hm3.f_16_2 (by decide) ?_
  refine g_ldu hS.k17 hS.l17 (by omega) (by omega) (fun v3 ev3 => ?_)
  have e4 : v3 = m0 17 h := by rw [ev3, f3 17 h (by omega), r17]
  rw [e4]
  exact hk i m1 m3 ⟨c1, c2, c3, ev.symm.trans w⟩ kp hm3 (fun c p q => by rw [f3 c p (by omega), f2 c p (by omega)]) (by rw [f3 21 j (by omega), y2]) (by rw [y3, ev2, r17])
abbrev rPt (m : Mm) (h j : Int) : Prop := (0 ≤ h ∧ h < m 346 4) ∧ (0 ≤ j ∧ j < m 346 5) ∧ m 346 (35 + 4 * j + 1) = h ∧ m 346 (10 + 5 * h + 1) = 0
theorem zs_put12 {X : Mm} {S : Sh} {m0 : Mm} {K : Int → Mm → Prop} {h j : Int} (hS : Shp S) (hm : Inv X S m0) (h0 : ¬ rPt m0 h j → K (-1) m0) (hk : ∀ (u s : Int) (M1 M2 : Mm), rPt m0 h j → KA m0 M1 u s → Inv X S M2 → (∀ c p : Int, ¬ (c = 346 ∧ (p = 35 + 4 * j + 1 ∨ p = 35 + 4 * j)) → M2 c p = M1 c p) → M2 346 (35 + 4 * j + 1) = -1 → M2 346 (35 + 4 * j) = m0 346 (10 + 5 * h + 0) → K (m0 346 (10 + 5 * h + 0)) M2) : wp_X12_put S m0 336 h j K := by
  have b4 := hm.f_346_4
  have b5 := hm.f_346_5
  refine u_X12_put ?_
  refine ⟨hS.k336, ?_⟩
  refine zs_isHand12 hS hm (fun c1 => g_ifF (by decide) ?_) (fun c1 => g_ifT rfl (g_C (h0 (fun z => c1 z.1))))
  refine ⟨hS.k336, ?_⟩
  refine zs_isJug12 hS hm (fun c2 => g_ifF (by decide) ?_) (fun c2 => g_ifT rfl (g_C (h0 (fun z => c2 z.2.1))))
  refine g_C ?_
  refine ⟨hS.k336, ?_⟩
  refine zt_jugOf hS hm (by omega) (by omega) (by omega) (by omega) ?_
  refine g_if (fun w => g_C (h0 (fun z => w z.2.2.1))) (fun w => ?_)
  refine ⟨hS.k336, ?_⟩
  refine zt_atR hS hm (by omega) (by omega) (fun c3 => g_ifT (by decide) ?_) (fun c3 => g_ifF (by decide) (g_C (h0 (fun z => c3 z.2.2.2))))
  refine ⟨hS.k336, ?_⟩
  refine zk_keepsAct hS hm (fun u s m1 hm1 ka => ?_)
  refine g_getr 20 346 rfl hS.k336 hm1.f_336_20 (by decide) ?_
  refine g_C ?_
  refine g_C ?_
  refine g_M (by omega) (by omega) ?_
  refine g_A (by omega) (by omega) ?_
  refine g_C ?_
  refine g_A (by omega) (by omega) ?_
  refine g_C ?_
  refine g_st hS.k346 hS.l346 (by omega) (by omega) (wfm_346_36_4_0_3 hm1 (a := j) (by omega) (by omega) (by omega) (by omega) (by omega)) (fun m2 e2 hm2 => ?_)
  have f2 : ∀ c p : Int, ¬ (c = 346 ∧ p = 35 + 4 * j + 1) → m2 c p = m1 c p := fun c p q => (congrFun (congrFun e2 _) _).trans (up_ne q)
  have y2 : m2 346 (35 + 4 * j + 1) = -1 := (congrFun (congrFun e2 _) _).trans (up_at _ _ _ _)
  refine g_getr 20 346 rfl hS.k336 hm2.f_336_20 (by decide) ?_
  refine g_C ?_
  refine g_C ?_
  refine g_M (by omega) (by omega) ?_
  refine g_A (by omega) (by omega) ?_
  refine g_C ?_
  refine ⟨hS.k336, ?_⟩
  refine zt_handOf hS hm2 (by omega) (by omega) (by omega) (by omega) ?_
  have r0 : m2 346 (10 + 5 * h + 0) = m0 346 (10 + 5 * h + 0) := by rw [f2 346 _ (by omega), ka.f (by omega) (by omega)]
  have q0 : 0 ≤ m2 346 (10 + 5 * h + 0) ∧ m2 346 (10 + 5 * h + 0) ≤ 5 := fam_346_10_5_0_4 hm2 (a := h) (by omega) (by omega) (by omega)
  have x4 : m0 346 4 = X 346 4 := hm.g (by decide)
  have pp : m2 346 (10 + 5 * h) < X 346 0 := hm2.pl.1.1 h c1.1 (by omega)
  rw [show 10 + 5 * h = 10 + 5 * h + 0 by omega] at pp
  refine g_st hS.k346 hS.l346 (by omega) (by omega) (wfm_346_35_4_0_3 hm2 (a := j) (by omega) (by omega) (by omega) (by omega) (by omega) pp) (fun m3 e3 hm3 => ?_)
  have f3 : ∀ c p : Int, ¬ (c = 346 ∧ p = 35 + 4 * j) → m3 c p = m2 c p := fun c p q => (congrFun (congrFun e3 _) _).trans (up_ne q)
  have y3 : m3 346 (35 + 4 * j) = m2 346 (10 + 5 * h + 0) := (congrFun (congrFun e3 _) _).trans (up_at _ _ _ _)
  refine g_C ?_
  refine ⟨hS.k336, ?_⟩
  refine zt_handOf hS hm3 (by omega) (by omega) (by omega) (by omega) ?_
  rw [f3 346 (10 + 5 * h + 0) (by omega), r0]
  exact hk u s m1 m3 ⟨c1, c2, by omega, c3⟩ ka hm3 (fun c p q => by rw [f3 c p (by omega), f2 c p (by omega)]) (by rw [f3 346 _ (by omega), y2]) (by rw [y3, r0])
abbrev cHo (m : Mm) (j h : Int) : Prop := (0 ≤ h ∧ h < m 4 4) ∧ (0 ≤ j ∧ j < m 4 5) ∧ (0 ≤ m 21 j ∧ m 21 j < m 4 4) ∧ ¬ m 21 j = h ∧ (m 18 (m 21 j) = 0 ∧ m 17 (m 21 j) = m 17 h ∧ m 18 h = 0 ∧ bcF (hbt (m 21) h 4) < 2)
theorem zs_handOn11 {X : Mm} {S : Sh} {m0 : Mm} {K : Int → Mm → Prop} {j h : Int} (hS : Shp S) (hm : Inv X S m0) (h0 : ¬ cHo m0 j h → K (-1) m0) (hk : ∀ (i : Int) (M1 M2 : Mm), cHo m0 j h → KP m0 M1 i → Inv X S M2 → (∀ c p : Int, ¬ (p = j ∧ (c = 20 ∨ c = 21)) → M2 c p = M1 c p) → M2 21 j = h → M2 20 j = -1 → K (m0 21 j) M2) : wp_X11_handOn S m0 0 j h K := by
  have b4 := hm.f_4_4
  have b5 := hm.f_4_5
  have hb : isSt 16 := by decide
  refine u_X11_handOn ?_
  refine ⟨hS.k0, ?_⟩
  refine zs_isHand11 hS hm (fun c1 => g_ifF (by decide) ?_) (fun c1 => g_ifT rfl (g_C (h0 (fun z => c1 z.1))))
  refine ⟨hS.k0, ?_⟩
  refine zs_isJug11 hS hm (fun c2 => g_ifT (by decide) ?_) (fun c2 => g_ifF (by decide) (g_C (h0 (fun z => c2 z.2.1))))
  refine g_getr 1 3 rfl hS.k0 hm.f_0_1 (by decide) ?_
  refine g_getr 1 16 rfl hS.k3 hm.f_3_1 (by decide) ?_
  refine g_getr 6 21 rfl hS.k16 hm.f_16_6 (by decide) ?_
  refine g_ldu hS.k21 hS.l21 (by omega) (by omega) (fun v ev => ?_)
  subst ev
  refine ⟨hS.k0, ?_⟩
  refine zs_isHand11 hS hm (fun c3 => g_ifF (by decide) ?_) (fun c3 => g_ifT rfl (g_C (h0 (fun z => c3 z.2.2.1))))
  refine g_if (fun w => g_C (h0 (fun z => z.2.2.2.1 w))) (fun w => ?_)
  refine g_getr 1 3 rfl hS.k0 hm.f_0_1 (by decide) ?_
  refine g_getr 1 16 rfl hS.k3 hm.f_3_1 (by decide) ?_
  refine ⟨hS.k16, ?_⟩
  refine zt_canGive hS hm hb (by omega) (by omega) (by omega) (by omega) (fun c4 => g_ifT (by decide) ?_) (fun c4 => g_ifF (by decide) (g_C (h0 (fun z => c4 z.2.2.2.2))))
  refine ⟨hS.k0, ?_⟩
  refine zk_keepPast hS hm (fun i m1 hm1 kp => ?_)
  refine g_getr 1 3 rfl hS.k0 hm1.f_0_1 (by decide) ?_
  refine g_getr 1 16 rfl hS.k3 hm1.f_3_1 (by decide) ?_
  refine ⟨hS.k16, ?_⟩
  exact zs_giveTo hS hm1 (by omega) (by omega) (by omega) (by omega) (fun m2 hm2 f2 y21 y20 => hk i m1 m2 ⟨c1, c2, c3, w, c4⟩ kp hm2 f2 y21 y20)
abbrev rHo (m : Mm) (j h : Int) : Prop := (0 ≤ j ∧ j < m 346 5) ∧ (0 ≤ h ∧ h < m 346 4) ∧ 0 ≤ m 346 (35 + 4 * j + 1) ∧ ¬ m 346 (35 + 4 * j + 1) = h ∧ m 346 (10 + 5 * m 346 (35 + 4 * j + 1) + 1) = 0 ∧ m 346 (10 + 5 * h + 1) = 0 ∧ m 346 (10 + 5 * m 346 (35 + 4 * j + 1) + 0) = m 346 (10 + 5 * h + 0) ∧ ¬ bcF (hbR m h) = 2
theorem zs_handOn12 {X : Mm} {S : Sh} {m0 : Mm} {K : Int → Mm → Prop} {j h : Int} (hS : Shp S) (hm : Inv X S m0) (h0 : ¬ rHo m0 j h → K (-1) m0) (hk : ∀ (u s : Int) (M1 M2 : Mm), rHo m0 j h → KA m0 M1 u s → Inv X S M2 → (∀ c p : Int, ¬ (c = 346 ∧ p = 35 + 4 * j + 1) → M2 c p = M1 c p) → M2 346 (35 + 4 * j + 1) = h → K (m0 346 (35 + 4 * j + 1)) M2) : wp_X12_handOn S m0 336 j h K := by
  have b4 := hm.f_346_4
  have b5 := hm.f_346_5
  refine u_X12_handOn ?_
  refine ⟨hS.k336, ?_⟩
  refine zs_isJug12 hS hm (fun c1 => g_ifF (by decide) ?_) (fun c1 => g_ifT rfl (g_C (h0 (fun z => c1 z.1))))
  refine ⟨hS.k336, ?_⟩
  refine zs_isHand12 hS hm (fun c2 => g_ifF (by decide) ?_) (fun c2 => g_ifT rfl (g_C (h0 (fun z => c2 z.2.1))))
  have bj : -1 ≤ m0 346 (35 + 4 * j + 1) ∧ m0 346 (35 + 4 * j + 1) ≤ 4 := fam_346_36_4_0_3 hm (a := j) (by omega) (by omega) (by omega)
  refine g_C ?_
  refine ⟨hS.k336, ?_⟩
  refine zt_jugOf hS hm (by omega) (by omega) (by omega) (by omega) ?_
  refine g_if (fun w => g_C (h0 (fun z => absurd z.2.2.1 (by omega)))) (fun w => ?_)
  refine g_C ?_
  refine ⟨hS.k336, ?_⟩
  refine zt_jugOf hS hm (by omega) (by omega) (by omega) (by omega) ?_
  refine g_if (fun w2 => ?_) (fun w2 => g_C (h0 (fun z => w2 z.2.2.2.1)))
  refine g_C ?_
  refine ⟨hS.k336, ?_⟩
  refine zt_jugOf hS hm (by omega) (by omega) (by omega) (by omega) ?_
  refine ⟨hS.k336, ?_⟩
  refine zt_atR hS hm (by omega) (by omega) (fun c3 => g_ifF (by decide) ?_) (fun c3 => g_ifT rfl (g_C (h0 (fun z => c3 z.2.2.2.2.1))))
  refine ⟨hS.k336, ?_⟩
  refine zt_atR hS hm (by omega) (by omega) (fun c4 => g_ifF (by decide) ?_) (fun c4 => g_ifT rfl (g_C (h0 (fun z => c4 z.2.2.2.2.2.1))))
  refine g_C ?_
  refine ⟨hS.k336, ?_⟩
  refine zt_handOf hS hm (by omega) (by omega) (by omega) (by omega) ?_
  refine g_C ?_
  refine ⟨hS.k336, ?_⟩
  refine zt_handOf hS hm (by omega) (by omega) (by omega) (by omega) ?_
  refine g_if (fun w3 => g_C (h0 (fun z => w3 z.2.2.2.2.2.2.1))) (fun w3 => ?_)
  refine ⟨hS.k336, ?_⟩
  refine zt_held hS hm ?_
  have bb := hbt_15 (f := fun j => m0 346 (36 + 4 * j)) (h := h) (n := (m0 346 5).toNat) (by omega)
  refine zt_bits bb.1 bb.2 ?_
  refine g_C ?_
  refine g_if (fun w4 => ?_) (fun w4 => g_C (h0 (fun z => w4 z.2.2.2.2.2.2.2)))
  refine ⟨hS.k336, ?_⟩
  refine zk_keepsAct hS hm (fun u s m1 hm1 ka => ?_)
  refine ⟨hS.k336, ?_⟩
  exact zs_takes hS hm1 (by omega) (by omega) (by omega) (by omega) (fun m2 hm2 f2 y2 => hk u s m1 m2 ⟨c1, c2, by omega, w2, c3, c4, by omega, w4⟩ ka hm2 f2 y2)
abbrev rMt (D : Int → Int) (a c k : Int) : Prop := (D (57 + 3 * k) = a ∧ D (57 + 3 * k + 1) = c) ∨ (D (57 + 3 * k) = c ∧ D (57 + 3 * k + 1) = a)
theorem zs_roadOf {X : Mm} {S : Sh} {m : Mm} {K : Int → Mm → Prop} {a b : Int} (hS : Shp S) (hm : Inv X S m) (h0 : ¬ Rt (m 346) a b → K 0 m) (hk : ∀ k : Int, 0 ≤ k → k < m 346 3 → rMt (m 346) a b k → K (m 346 (57 + 3 * k + 2)) m) : wp_X12_roadOf S m 336 a b K := by
  have b3 := hm.f_346_3
  refine u_X12_roadOf ?_
  refine g_C ?_
  have L : ∀ (n : Nat) (i : Int), 0 ≤ i → i ≤ m 346 3 → (∀ l : Int, 0 ≤ l → l < i → ¬ rMt (m 346) a b l) → 9 - i ≤ (n : Int) → wp_X12_roadOf_2 S K n 336 a b i m := by
    intro n
    induction n with
    | zero => intro i i0 i1 _ hn; exfalso; omega
    | succ n ih =>
      intro i i0 i1 hi hn
      refine u_X12_roadOf_2 ?_
      refine g_getr 20 346 rfl hS.k336 hm.f_336_20 (by decide) ?_
      refine g_C ?_
      refine g_ldu hS.k346 hS.l346 (by omega) (by omega) (fun v ev => ?_)
      refine g_if (fun w => g_C (h0 (fun z => ?_))) (fun w => ?_)
      · obtain ⟨k, k0, k1, k2⟩ := z
        exact hi k k0 (by omega) k2
      have found : rMt (m 346) a b i → wp_X12_roadOf_68 S K 336 (57 + 3 * i) m := by
        intro q
        refine u_X12_roadOf_68 ?_
        refine g_getr 20 346 rfl hS.k336 hm.f_336_20 (by decide) ?_
        refine g_C ?_
        refine g_A (by omega) (by omega) ?_
        refine g_ldu hS.k346 hS.l346 (by omega) (by omega) (fun v2 ev2 => ?_)
        rw [ev2]
        exact hk i i0 (by omega) q
      have next : ¬ rMt (m 346) a b i → wp_X12_roadOf_78 S (fun a0 a1 a2 a3 M => wp_X12_roadOf_2 S K n a0 a1 a2 a3 M) K 336 a b i m := by
        intro q
        refine u_X12_roadOf_78 ?_
        refine g_A (by omega) (by omega) ?_
        refine ih (i + 1) (by omega) (by omega) (fun l l0 l1 => ?_) (by omega)
        by_cases e : l = i
        · rw [e]; exact q
        · exact hi l l0 (by omega)
      have second : ¬ (m 346 (57 + 3 * i) = a ∧ m 346 (57 + 3 * i + 1) = b) → wp_X12_roadOf_44 S (fun a0 a1 a2 a3 M => wp_X12_roadOf_2 S K n a0 a1 a2 a3 M) K 336 a b i (57 + 3 * i) m := by
        intro q
        refine u_X12_roadOf_44 ?_
        refine g_getr 20 346 rfl hS.k336 hm.f_336_20 (by decide) ?_
        refine g_ldu hS.k346 hS.l346 (by omega) (by omega) (fun v2 ev2 => ?_)
        refine g_if (fun w2 => next (fun z => z.elim q (fun y => w2 (ev2.trans y.1)))) (fun w2 => ?_)
        refine g_getr 20 346 rfl hS.k336 hm.f_336_20 (by decide) ?_
        refine g_C ?_
        refine g_A (by omega) (by omega) ?_
        refine g_ldu hS.k346 hS.l346 (by omega) (by omega) (fun v3 ev3 => ?_)
        exact g_if (fun w3 => next (fun z => z.elim q (fun y => w3 (ev3.trans y.2)))) (fun w3 => found (Or.inr ⟨by omega, by omega⟩))
      refine g_C ?_
      refine g_C ?_
      refine g_M (by omega) (by omega) ?_
      refine g_A (by omega) (by omega) ?_
      refine g_getr 20 346 rfl hS.k336 hm.f_336_20 (by decide) ?_
      refine g_ldu hS.k346 hS.l346 (by omega) (by omega) (fun v2 ev2 => ?_)
      refine g_if (fun w2 => second (fun z => w2 (ev2.trans z.1))) (fun w2 => ?_)
      refine g_getr 20 346 rfl hS.k336 hm.f_336_20 (by decide) ?_
      refine g_C ?_
      refine g_A (by omega) (by omega) ?_
      refine g_ldu hS.k346 hS.l346 (by omega) (by omega) (fun v3 ev3 => ?_)
      exact g_if (fun w3 => found (Or.inl ⟨by omega, by omega⟩)) (fun w3 => second (fun z => w3 (ev3.trans z.2)))
  exact ⟨9, L 9 0 (by omega) (by omega) (fun l l0 l1 => absurd l1 (by omega)) (by omega)⟩
