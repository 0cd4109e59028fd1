/-! WAY and BRINGS of both sides -/
theorem RZ.wk {S : Sh} {M : Mm} {n : Int} (h : RZ S M n) : Wok (M 4 0) (M 5) (M 6) := h.2.2.2.1.2.2.1
theorem RZ.fb {S : Sh} {M : Mm} {n : Int} (h : RZ S M n) : ∀ p : Int, 0 ≤ p → p < 36 → M 5 p ≤ 5 := fun p p0 p1 => (h.inv.a_5 (i := p) p0 p1).2
theorem zq_stand11 {S : Sh} {m : Mm} {K : Int → Mm → Prop} {n j : Int} (hS : Shp S) (hz : RZ S m n) (h1 : 0 ≤ j ∧ j < m 346 5 → StR m j → K 1 m) (h0 : ¬ ((0 ≤ j ∧ j < m 346 5) ∧ StR m j) → K 0 m) : wp_X11_isStandingJug S m 0 j K := by
  have hm := hz.inv
  have ct := hz.ct
  have db := hz.db
  have c5 : m 4 5 = m 346 5 := ct.2.2.2.2.2.1
  refine u_X11_isStandingJug ?_
  refine ⟨hS.k0, ?_⟩
  refine zs_isJug11 hS hm (fun c1 => g_ifF (by decide) ?_) (fun c1 => g_ifT rfl (g_C ⟨by decide, h0 (fun q => c1 (by rw [c5]; exact q.1))⟩))
  rw [c5] at c1
  have zj := hz.jg c1.1 c1.2
  refine g_getr 1 3 rfl hS.k0 hm.f_0_1 (by decide) ?_
  refine g_getr 1 16 rfl hS.k3 hm.f_3_1 (by decide) ?_
  refine ⟨hS.k16, ?_⟩
  refine u_X5_stands ?_
  refine g_getr 5 20 rfl hS.k16 hm.f_16_5 (by decide) ?_
  refine g_ldu hS.k20 hS.l20 c1.1 (by omega) (fun v ev => ?_)
  refine g_C ?_
  refine g_if (fun q => ?_) (fun q => ?_)
  · refine g_C ⟨by decide, ?_⟩
    refine g_ifT rfl (g_C ⟨by decide, h0 (fun y => ?_)⟩)
    have y2 := y.2
    unfold StR at y2
    omega
  · refine g_C ⟨by decide, ?_⟩
    refine g_ifF (by decide) (g_C ⟨by decide, h1 c1 ?_⟩)
    unfold StR
    omega
theorem zz_brings {S : Sh} {m0 : Mm} {K : Int → Int → Mm → Prop} {K1 : Int → Mm → Prop} {n h j c : Int} (hS : Shp S) (hz : RZ S m0 n) (hn : n ≤ 700) (hK : ∀ (r : Int) (M : Mm), wp_X12_brings S M 336 h j c (fun r2 M2 => K r r2 M2) → K1 r M) (hk : ∀ (r : Int) (M1 : Mm), RZ S M1 n → K r r M1) : wp_X11_brings S m0 0 h j c K1 := by
  have hm := hz.inv
  have ct := hz.ct
  have db := hz.db
  have wk := hz.wk
  have p6 := wk.1
  obtain ⟨o, rc, rr⟩ := hz.rule
  have i0 := hz.2.2.2.2.2.2.2.2
  have h16 : m0 16 0 ≤ n := hz.2.2.2.1.1
  have b16 := hm.f_16_0
  have e7 : m0 16 0 = m0 346 7 := hz.sr.1.1
  obtain ⟨P, eP⟩ : ∃ P : Int, P = m0 4 0 := ⟨_, rfl⟩
  have e0 : m0 346 0 = P := by rw [eP]; exact ct.1.symm
  rw [← eP] at wk p6
  have no : ¬ ((0 ≤ h ∧ h < m0 346 4) ∧ ((0 ≤ j ∧ j < m0 346 5) ∧ StR m0 j) ∧ (0 ≤ c ∧ c < P)) → wp_X12_brings S m0 336 h j c (fun r2 M2 => K (-1) r2 M2) := by
    intro q
    refine u_X12_brings ?_
    refine ⟨hS.k336, ?_⟩
    refine zs_isHand12 hS hm (fun c1 => g_ifF (by decide) ?_) (fun c1 => g_ifT rfl (g_C (hk _ m0 hz)))
    refine ⟨hS.k336, ?_⟩
    refine zs_isJug12 hS hm (fun c2 => g_ifF (by decide) ?_) (fun c2 => g_ifT rfl (g_C (hk _ m0 hz)))
    refine ⟨hS.k336, ?_⟩
    refine zt_stands hS hm c2.1 (by omega) (fun c3 => g_ifF (by decide) ?_) (fun c3 => g_ifT rfl (g_C (hk _ m0 hz)))
    refine ⟨hS.k336, ?_⟩
    refine zs_isPlace12 hS hm (fun c4 => absurd ⟨c1, ⟨c2, c3⟩, by rw [← e0]; exact c4⟩ q) (fun c4 => g_ifF (by decide) (g_C (hk _ m0 hz)))
  refine u_X11_brings ?_
  refine ⟨hS.k0, ?_⟩
  refine zs_isHand11 hS hm (fun c1 => g_ifF (by decide) ?_) (fun c1 => g_ifT rfl (g_C (hK _ _ (no (fun q => c1 (by rw [ct.2.2.2.2.1]; exact q.1))))))
  rw [ct.2.2.2.2.1] at c1
  refine ⟨hS.k0, ?_⟩
  refine zq_stand11 hS hz (fun c2 c3 => g_ifF (by decide) ?_) (fun c2 => g_ifT rfl (g_C (hK _ _ (no (fun q => c2 q.2.1)))))
  refine ⟨hS.k0, ?_⟩
  refine zs_isPlace11 hS hm (fun c4 => g_ifT (by decide) ?_) (fun c4 => g_ifF (by decide) (g_C (hK _ _ (no (fun q => c4 (by rw [← eP]; exact q.2.2))))))
  rw [← eP] at c4
  have zj := hz.jg c2.1 c2.2
  have st : m0 20 j = m0 346 (35 + 4 * j) ∧ 0 ≤ m0 346 (35 + 4 * j) := by
    unfold StR at c3
    omega
  have pl : m0 346 (35 + 4 * j) < P := by
    rw [← e0]
    exact (hz.1.1.2.2.2.2).1.2 j c2.1 c2.2
  obtain ⟨a, ea⟩ : ∃ a : Int, a = m0 346 (35 + 4 * j) := ⟨_, rfl⟩
  rw [← ea] at st pl
  have b22 := hm.a_22 (i := j) c2.1 (by omega)
  obtain ⟨s, es⟩ : ∃ s : Int, s = m0 22 j := ⟨_, rfl⟩
  rw [← es] at b22
  have tx : m0 346 (35 + 4 * j + 2) = s := by rw [es]; exact zj.2.1.symm
  have hbh : HB (m0 346) h := HB.of hm c1.1 (by omega)
  have go : ∀ (r : Int) (M : Mm), RZ S M n → (∀ c p : Int, ¬ c = 56 → ¬ (c = 55 ∧ 4 ≤ p) → M c p = m0 c p) → ((¬ m0 6 (6 * a + c) < 1000 → r = -2) ∧ (m0 6 (6 * a + c) < 1000 → r = (hT o (m0 346) h j 1 (m0 346 7) s (m0 6 (6 * a + c)).toNat).1)) → wp_X12_brings S M 336 h j c (fun r2 M2 => K r r2 M2) := by
    intro r M zM F hr
    have hM := zM.inv
    have e46 : M 346 = m0 346 := funext (fun p => F 346 p (by omega) (by omega))
    have e5 : M 5 = m0 5 := funext (fun p => F 5 p (by omega) (by omega))
    refine u_X12_brings ?_
    refine ⟨hS.k336, ?_⟩
    refine zs_isHand12 hS hM (fun _ => g_ifF (by decide) ?_) (fun y => absurd (by rw [e46]; exact c1) y)
    refine ⟨hS.k336, ?_⟩
    refine zs_isJug12 hS hM (fun _ => g_ifF (by decide) ?_) (fun y => absurd (by rw [e46]; exact c2) y)
    refine ⟨hS.k336, ?_⟩
    refine zt_stands hS hM c2.1 (by omega) (fun _ => g_ifF (by decide) ?_) (fun y => absurd ((StR.same e46).2 c3) y)
    refine ⟨hS.k336, ?_⟩
    refine zs_isPlace12 hS hM (fun _ => g_ifT (by decide) ?_) (fun y => absurd (by rw [e46, e0]; exact c4) y)
    refine ⟨hS.k336, ?_⟩
    refine zq_fillsHours (f := m0 5) (g := m0 6) hS hM (by rw [e46]; exact hz.ro) (by rw [e46]; exact e0) wk hz.fb c4.1 c4.2 (fun m1 hm1 f1 T => ?_)
    have z1 : RZ S m1 n := zM.keep (zM.1.of hm1) (fun c p q => f1 c p (by unfold KZ at q; omega))
    have e461 : m1 346 = m0 346 := (funext (fun p => f1 346 p (by omega))).trans e46
    have ta := T a st.2 pl
    refine g_getr 27 349 rfl hS.k336 hm1.f_336_27 (by decide) ?_
    refine g_C ?_
    refine ⟨hS.k336, ?_⟩
    refine zt_jugOf hS hm1 c2.1 (by omega) (by decide) (by decide) ?_
    rw [e461, Int.add_zero, ← ea]
    refine g_ldu hS.k349 hS.l349 st.2 (by omega) (fun v ev => ?_)
    rw [ta] at ev
    refine g_C ?_
    by_cases q3 : m0 6 (6 * a + c) < 1000
    · have d25 := wk.d25 hz.fb st.2 pl c4.1 c4.2 q3
      have d0 := wk.2.2.1 a c st.2 pl c4.1 c4.2
      have hr2 := hr.2 q3
      rw [if_pos q3] at ev
      refine g_ifT (by omega) ?_
      refine g_C ?_
      refine ⟨hS.k336, ?_⟩
      refine zt_jugOf hS hm1 c2.1 (by omega) (by decide) (by decide) ?_
      rw [e461, tx]
      refine g_getr 20 346 rfl hS.k336 hm1.f_336_20 (by decide) ?_
      refine g_C ?_
      refine g_ldu hS.k346 hS.l346 (by decide) (by decide) (fun t et => ?_)
      rw [e461] at et
      refine g_C ?_
      refine ⟨hS.k336, ?_⟩
      refine zq_turnedBy (o := o) hS hm1 (rr.keep (fun c p z => by rw [f1 c p (by omega), F c p (by omega) (by omega)])) (by rw [f1 336 23 (by omega), F 336 23 (by omega) (by omega)]; exact i0.2) c1.1 (by omega) b22.1 b22.2 (by omega) (by omega) (by omega) (by omega) (fun m2 hm2 f2 => ?_)
      rw [e461, et, ev, ← hr2]
      exact hk r m2 (zM.keep (zM.1.of hm2) (fun c p q => (f2 c p (by unfold KZ at q; omega) (by unfold KZ at q; omega) (by unfold KZ at q; omega)).trans (f1 c p (by unfold KZ at q; omega))))
    · rw [if_neg q3] at ev
      refine g_ifF (by omega) (g_C ?_)
      rw [← hr.1 q3]
      exact hk r m1 z1
  refine g_getr 1 3 rfl hS.k0 hm.f_0_1 (by decide) ?_
  refine g_getr 1 16 rfl hS.k3 hm.f_3_1 (by decide) ?_
  refine g_getr 5 20 rfl hS.k16 hm.f_16_5 (by decide) ?_
  refine g_ldu hS.k20 hS.l20 c2.1 (by omega) (fun v ev => ?_)
  rw [st.1] at ev
  rw [ev]
  refine g_getr 1 3 rfl hS.k0 hm.f_0_1 (by decide) ?_
  refine g_getr 0 4 rfl hS.k3 hm.f_3_0 (by decide) ?_
  refine ⟨hS.k4, ?_⟩
  refine zq_has11 hS hm st.2 (by omega) c4.1 (by omega) (fun q3 => g_ifT (by decide) ?_) (fun q3 => g_ifF (by decide) (g_C (hK _ _ (go _ m0 hz (fun _ _ _ _ => rfl) ⟨fun _ => rfl, fun y => absurd y q3⟩))))
  have d25 := wk.d25 hz.fb st.2 pl c4.1 c4.2 q3
  have d0 := wk.2.2.1 a c st.2 pl c4.1 c4.2
  refine g_getr 10 55 rfl hS.k0 hm.f_0_10 (by decide) ?_
  refine g_getr 1 3 rfl hS.k0 hm.f_0_1 (by decide) ?_
  refine g_getr 1 16 rfl hS.k3 hm.f_3_1 (by decide) ?_
  refine g_getr 7 22 rfl hS.k16 hm.f_16_7 (by decide) ?_
  refine g_ldu hS.k22 hS.l22 c2.1 (by omega) (fun s2 es2 => ?_)
  rw [← es] at es2
  rw [es2]
  refine g_getr 1 3 rfl hS.k0 hm.f_0_1 (by decide) ?_
  refine g_getr 1 16 rfl hS.k3 hm.f_3_1 (by decide) ?_
  refine g_getu 0 rfl hS.k16 (fun t et => ?_)
  rw [e7] at et
  rw [et]
  refine ⟨hS.k55, ?_⟩
  refine zq_suppose hS hm c1.1 (by omega) c2.1 (by omega) b22.1 b22.2 (by omega) (by omega) (fun m1 hm1 f1 hs1 => ?_)
  refine g_getr 10 55 rfl hS.k0 hm1.f_0_10 (by decide) ?_
  refine g_C ?_
  refine g_put 10 rfl hS.k55 (hm1.w_55_10 (by decide) (by decide)) (fun m2 e2 hm2 => ?_)
  have f2 : ∀ c p : Int, ¬ (c = 55 ∧ p = 10) → m2 c p = m1 c p := fun c p q => (congrFun (congrFun e2 _) _).trans (up_ne q)
  have x2 : m2 55 10 = 1 := (congrFun (congrFun e2 _) _).trans (up_at _ _ _ _)
  have F2 : ∀ c p : Int, ¬ c = 56 → ¬ (c = 55 ∧ 4 ≤ p) → m2 c p = m0 c p := fun c p a1 a2 => by rw [f2 c p (by omega), f1 c p a2]
  have hs2 : HS m2 o (m0 346) h j 1 (m0 346 7) s 0 := by
    obtain ⟨y4, y5, y6, y7, y8, y10, y11⟩ := hs1 o (m0 346)
    refine ⟨?_, ?_, ?_, ?_, ?_, x2, ?_⟩
    · rw [f2 55 4 (by decide)]; exact y4
    · rw [f2 55 5 (by decide)]; exact y5
    · rw [f2 55 6 (by decide)]; exact y6
    · rw [f2 55 7 (by decide)]; exact y7
    · rw [f2 55 8 (by decide)]; exact y8
    · rw [f2 55 11 (by decide)]; exact y11
  refine g_getr 10 55 rfl hS.k0 hm2.f_0_10 (by decide) ?_
  refine g_getr 1 3 rfl hS.k0 hm2.f_0_1 (by decide) ?_
  refine g_getr 0 4 rfl hS.k3 hm2.f_3_0 (by decide) ?_
  refine ⟨hS.k4, ?_⟩
  refine zq_way11 hS hm2 st.2 (by omega) c4.1 (by omega) ?_
  rw [F2 6 _ (by omega) (by omega)]
  refine ⟨hS.k55, ?_⟩
  refine zq_holdFor (o := o) (D := m0 346) (k := 0) hS hm2 (rc.keep (fun c p q => F2 c p (by omega) (by omega))) (hz.tl.move hz.rd.1.1 hz.rd.1.2 (fun p _ _ => F2 _ p (by omega) (by omega)) (fun c p q => F2 _ p (by unfold inT at q; omega) (by unfold inT at q; omega)) (fun p _ => rfl)) (by rw [F2 55 2 (by omega) (by omega)]; exact i0.1) hbh c1.1 (by omega) c1.2 b22.1 b22.2 (by omega) d0.1 (by omega) hs2 (fun m3 hm3 f3 hs3 => ?_)
  rw [Nat.zero_add] at hs3
  have y6 := hs3.2.2.1
  have F3 : ∀ c p : Int, ¬ c = 56 → ¬ (c = 55 ∧ 4 ≤ p) → m3 c p = m0 c p := fun c p a1 a2 => by rw [f3 c p a1 a2, F2 c p a1 a2]
  have z3 : RZ S m3 n := hz.keep (hz.1.of hm3) (fun c p q => F3 c p (by unfold KZ at q; omega) (by unfold KZ at q; omega))
  refine g_getr 10 55 rfl hS.k0 hm3.f_0_10 (by decide) ?_
  refine g_getu 6 rfl hS.k55 (fun r er => ?_)
  exact hK _ _ (go _ m3 z3 F3 ⟨fun y => absurd q3 y, fun _ => er.trans y6⟩)
