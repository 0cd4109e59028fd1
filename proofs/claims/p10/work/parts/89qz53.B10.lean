section
/-! what is asked leaves all alike -/
theorem ww_way {S : Sh} {m0 : Mm} {K : Int → Int → Mm → Prop} {K1 : Int → Mm → Prop} {n u1 u2 u3 : Int} (hS : Shp S) (hz : RZ S m0 n) (l1 : -2147483648 ≤ u1) (h1 : u1 ≤ 2147483647) (l2 : -2147483648 ≤ u2) (h2 : u2 ≤ 2147483647) (l3 : -2147483648 ≤ u3) (h3 : u3 ≤ 2147483647) (hK : ∀ (r : Int) (M : Mm), wp_X12_way S M 336 u1 u2 u3 (fun r2 M2 => K r r2 M2) → K1 r M) (hk : ∀ (r r2 : Int) (M1 : Mm), RZ S M1 n → K r r2 M1) : wp_X11_way S m0 0 u1 u2 u3 K1 := by
  have a : wp_X11_way S m0 0 u1 u2 u3 (fun _ m => Inv (sf m0) S m) := z_X11_way hS hz.inv l1 h1 l2 h2 l3 h3 (fun _ _ _ => hz.inv)
  refine fq1_X11_way hz.inv (fun r m1 f1 hm1 => ?_) (fun _ _ _ => rfl) a
  have z1 : RZ S m1 n := hz.same (hz.1.of hm1) (fun c p q1 _ => f1 c p q1)
  have b : wp_X12_way S m1 336 u1 u2 u3 (fun _ m => Inv (sf m1) S m) := z_X12_way hS z1.inv l1 h1 l2 h2 l3 h3 (fun _ _ h _ _ => h)
  refine hK _ _ (fq2_X12_way z1.inv (fun r2 m2 f2 hm2 => ?_) (fun _ _ _ => rfl) b)
  exact hk _ _ m2 (z1.same (z1.1.of hm2) (fun c p _ q2 => f2 c p q2))
theorem ww_brings {S : Sh} {m0 : Mm} {K : Int → Int → Mm → Prop} {K1 : Int → Mm → Prop} {n u1 u2 u3 : Int} (hS : Shp S) (hz : RZ S m0 n) (l1 : -2147483648 ≤ u1) (h1 : u1 ≤ 2147483647) (l2 : -2147483648 ≤ u2) (h2 : u2 ≤ 2147483647) (l3 : -2147483648 ≤ u3) (h3 : u3 ≤ 2147483647) (hK : ∀ (r : Int) (M : Mm), wp_X12_brings S M 336 u1 u2 u3 (fun r2 M2 => K r r2 M2) → K1 r M) (hk : ∀ (r r2 : Int) (M1 : Mm), RZ S M1 n → K r r2 M1) : wp_X11_brings S m0 0 u1 u2 u3 K1 := by
  have a : wp_X11_brings S m0 0 u1 u2 u3 (fun _ m => Inv (sf m0) S m) := z_X11_brings hS hz.inv l1 h1 l2 h2 l3 h3 (fun _ _ h _ _ => h)
  refine fq1_X11_brings hz.inv (fun r m1 f1 hm1 => ?_) (fun _ _ _ => rfl) a
  have z1 : RZ S m1 n := hz.same (hz.1.of hm1) (fun c p q1 _ => f1 c p q1)
  have b : wp_X12_brings S m1 336 u1 u2 u3 (fun _ m => Inv (sf m1) S m) := z_X12_brings hS z1.inv l1 h1 l2 h2 l3 h3 (fun _ _ h _ _ => h)
  refine hK _ _ (fq2_X12_brings z1.inv (fun r2 m2 f2 hm2 => ?_) (fun _ _ _ => rfl) b)
  exact hk _ _ m2 (z1.same (z1.1.of hm2) (fun c p _ q2 => f2 c p q2))
theorem ww_relay {S : Sh} {m0 : Mm} {K : Int → Int → Mm → Prop} {K1 : Int → Mm → Prop} {n u1 u2 u3 u4 u5 : Int} (hS : Shp S) (hz : RZ S m0 n) (l1 : -2147483648 ≤ u1) (h1 : u1 ≤ 2147483647) (l2 : -2147483648 ≤ u2) (h2 : u2 ≤ 2147483647) (l3 : -2147483648 ≤ u3) (h3 : u3 ≤ 2147483647) (l4 : -2147483648 ≤ u4) (h4 : u4 ≤ 2147483647) (l5 : -2147483648 ≤ u5) (h5 : u5 ≤ 2147483647) (hK : ∀ (r : Int) (M : Mm), wp_X12_relay S M 336 u1 u2 u3 u4 u5 (fun r2 M2 => K r r2 M2) → K1 r M) (hk : ∀ (r r2 : Int) (M1 : Mm), RZ S M1 n → K r r2 M1) : wp_X11_relay S m0 0 u1 u2 u3 u4 u5 K1 := by
  have a : wp_X11_relay S m0 0 u1 u2 u3 u4 u5 (fun _ m => Inv (sf m0) S m) := z_X11_relay hS hz.inv l1 h1 l2 h2 l3 h3 l4 h4 l5 h5 (fun _ _ h _ _ => h)
  refine fq1_X11_relay hz.inv (fun r m1 f1 hm1 => ?_) (fun _ _ _ => rfl) a
  have z1 : RZ S m1 n := hz.same (hz.1.of hm1) (fun c p q1 _ => f1 c p q1)
  have b : wp_X12_relay S m1 336 u1 u2 u3 u4 u5 (fun _ m => Inv (sf m1) S m) := z_X12_relay hS z1.inv l1 h1 l2 h2 l3 h3 l4 h4 l5 h5 (fun _ _ h _ _ => h)
  refine hK _ _ (fq2_X12_relay z1.inv (fun r2 m2 f2 hm2 => ?_) (fun _ _ _ => rfl) b)
  exact hk _ _ m2 (z1.same (z1.1.of hm2) (fun c p _ q2 => f2 c p q2))
theorem ww_match {S : Sh} {m0 : Mm} {K : Int → Int → Mm → Prop} {K1 : Int → Mm → Prop} {n u1 : Int} (hS : Shp S) (hz : RZ S m0 n) (l1 : -2147483648 ≤ u1) (h1 : u1 ≤ 2147483647) (hK : ∀ (r : Int) (M : Mm), wp_X12_match S M 336 u1 (fun r2 M2 => K r r2 M2) → K1 r M) (hk : ∀ (r r2 : Int) (M1 : Mm), RZ S M1 n → K r r2 M1) : wp_X11_match S m0 0 u1 K1 := by
  have a : wp_X11_match S m0 0 u1 (fun _ m => Inv (sf m0) S m) := z_X11_match hS hz.inv l1 h1 (fun _ _ h _ _ => h)
  refine fq1_X11_match hz.inv (fun r m1 f1 hm1 => ?_) (fun _ _ _ => rfl) a
  have z1 : RZ S m1 n := hz.same (hz.1.of hm1) (fun c p q1 _ => f1 c p q1)
  have b : wp_X12_match S m1 336 u1 (fun _ m => Inv (sf m1) S m) := z_X12_match hS z1.inv l1 h1 (fun _ _ _ => z1.inv)
  refine hK _ _ (fq2_X12_match z1.inv (fun r2 m2 f2 hm2 => ?_) (fun _ _ _ => rfl) b)
  exact hk _ _ m2 (z1.same (z1.1.of hm2) (fun c p _ q2 => f2 c p q2))
theorem ww_rest {S : Sh} {m0 : Mm} {K : Int → Int → Mm → Prop} {K1 : Int → Mm → Prop} {n u1 u2 u3 u4 : Int} (hS : Shp S) (hz : RZ S m0 n) (l1 : -2147483648 ≤ u1) (h1 : u1 ≤ 2147483647) (l2 : -2147483648 ≤ u2) (h2 : u2 ≤ 2147483647) (l3 : -2147483648 ≤ u3) (h3 : u3 ≤ 2147483647) (l4 : -2147483648 ≤ u4) (h4 : u4 ≤ 2147483647) (hK : ∀ (r : Int) (M : Mm), wp_X12_rest S M 336 u1 u2 u3 u4 (fun r2 M2 => K r r2 M2) → K1 r M) (hk : ∀ (r r2 : Int) (M1 : Mm), RZ S M1 n → K r r2 M1) : wp_X11_rest S m0 0 u1 u2 u3 u4 K1 := by
  have a : wp_X11_rest S m0 0 u1 u2 u3 u4 (fun _ m => Inv (sf m0) S m) := z_X11_rest hS hz.inv l1 h1 l2 h2 l3 h3 l4 h4 (fun _ _ h _ _ => h)
  refine fq1_X11_rest hz.inv (fun r m1 f1 hm1 => ?_) (fun _ _ _ => rfl) a
  have z1 : RZ S m1 n := hz.same (hz.1.of hm1) (fun c p q1 _ => f1 c p q1)
  have b : wp_X12_rest S m1 336 u1 u2 u3 u4 (fun _ m => Inv (sf m1) S m) := z_X12_rest hS z1.inv l1 h1 l2 h2 l3 h3 l4 h4 (fun _ _ h _ _ => h)
  refine hK _ _ (fq2_X12_rest z1.inv (fun r2 m2 f2 hm2 => ?_) (fun _ _ _ => rfl) b)
  exact hk _ _ m2 (z1.same (z1.1.of hm2) (fun c p _ q2 => f2 c p q2))
theorem ww_who {S : Sh} {m0 : Mm} {K : Int → Int → Mm → Prop} {K1 : Int → Mm → Prop} {n u1 : Int} (hS : Shp S) (hz : RZ S m0 n) (l1 : -2147483648 ≤ u1) (h1 : u1 ≤ 2147483647) (hK : ∀ (r : Int) (M : Mm), wp_X12_who S M 336 u1 (fun r2 M2 => K r r2 M2) → K1 r M) (hk : ∀ (r r2 : Int) (M1 : Mm), RZ S M1 n → K r r2 M1) : wp_X11_who S m0 0 u1 K1 := by
  have a : wp_X11_who S m0 0 u1 (fun _ m => Inv (sf m0) S m) := z_X11_who hS hz.inv l1 h1 (fun _ _ h _ _ => h)
  refine fq1_X11_who hz.inv (fun r m1 f1 hm1 => ?_) (fun _ _ _ => rfl) a
  have z1 : RZ S m1 n := hz.same (hz.1.of hm1) (fun c p q1 _ => f1 c p q1)
  have b : wp_X12_who S m1 336 u1 (fun _ m => Inv (sf m1) S m) := z_X12_who hS z1.inv l1 h1 (fun _ _ h _ _ => h)
  refine hK _ _ (fq2_X12_who z1.inv (fun r2 m2 f2 hm2 => ?_) (fun _ _ _ => rfl) b)
  exact hk _ _ m2 (z1.same (z1.1.of hm2) (fun c p _ q2 => f2 c p q2))
theorem ww_probe {S : Sh} {m0 : Mm} {K : Int → Int → Mm → Prop} {K1 : Int → Mm → Prop} {n u1 : Int} (hS : Shp S) (hz : RZ S m0 n) (l1 : -2147483648 ≤ u1) (h1 : u1 ≤ 2147483647) (hK : ∀ (r : Int) (M : Mm), wp_X12_probe S M 336 u1 (fun r2 M2 => K r r2 M2) → K1 r M) (hk : ∀ (r r2 : Int) (M1 : Mm), RZ S M1 n → K r r2 M1) : wp_X11_probe S m0 0 u1 K1 := by
  have a : wp_X11_probe S m0 0 u1 (fun _ m => Inv (sf m0) S m) := z_X11_probe hS hz.inv l1 h1 (fun _ _ h _ _ => h)
  refine fq1_X11_probe hz.inv (fun r m1 f1 hm1 => ?_) (fun _ _ _ => rfl) a
  have z1 : RZ S m1 n := hz.same (hz.1.of hm1) (fun c p q1 _ => f1 c p q1)
  have b : wp_X12_probe S m1 336 u1 (fun _ m => Inv (sf m1) S m) := z_X12_probe hS z1.inv l1 h1 (fun _ _ h _ _ => h)
  refine hK _ _ (fq2_X12_probe z1.inv (fun r2 m2 f2 hm2 => ?_) (fun _ _ _ => rfl) b)
  exact hk _ _ m2 (z1.same (z1.1.of hm2) (fun c p _ q2 => f2 c p q2))
theorem zz_hand {S : Sh} {m0 : Mm} {K : Int → Int → Mm → Prop} {K1 : Int → Mm → Prop} {n h w : Int} (hS : Shp S) (hz : RZ S m0 n) (hK : ∀ (r : Int) (M : Mm), wp_X12_hand S M 336 h w (fun r2 M2 => K r r2 M2) → K1 r M) (hk : ∀ (r : Int) (M1 : Mm), RZ S M1 n → K r r M1) : wp_X11_hand S m0 0 h w K1 := by
  have hm := hz.inv
  have ct := hz.ct
  have db := hz.db
  have c4 : m0 4 4 = m0 346 4 := ct.2.2.2.2.1
  have ref : ∀ r : Int, ((0 ≤ h ∧ h < m0 346 4) → (0 ≤ w ∧ w ≤ 5) → (w < 3 → r = m0 346 (10 + 5 * h + w)) ∧ (w = 3 → r = hbR m0 h) ∧ (3 < w → r = m0 346 (10 + 5 * h + (w - 1)))) → (¬ ((0 ≤ h ∧ h < m0 346 4) ∧ (0 ≤ w ∧ w ≤ 5)) → r = -1) → wp_X12_hand S m0 336 h w (fun r2 M2 => K r r2 M2) := by
    intro r e1 e2
    refine u_X12_hand ?_
    refine ⟨hS.k336, ?_⟩
    refine zs_isHand12 hS hm (fun c1 => g_ifF (by decide) ?_) (fun c1 => g_ifT rfl (g_C (by rw [e2 (fun z => c1 z.1)]; exact hk _ m0 hz)))
    refine g_C ?_
    refine g_C ?_
    refine g_C ?_
    refine zs_in (fun c2 => g_ifT (by decide) ?_) (fun c2 => g_ifF (by decide) (g_C (by rw [e2 (fun z => c2 z.2)]; exact hk _ m0 hz)))
    obtain ⟨x1, x2, x3⟩ := e1 c1 c2
    refine g_C ?_
    refine g_if (fun w1 => ?_) (fun w1 => ?_)
    · refine g_C ?_
      refine g_if (fun w2 => ?_) (fun w2 => ?_)
      · refine g_C ?_
        refine g_S (by omega) (by omega) ?_
        refine ⟨hS.k336, ?_⟩
        refine zt_handOf hS hm c1.1 (by omega) (by omega) (by omega) ?_
        rw [x3 (by omega)]
        exact hk _ m0 hz
      · refine ⟨hS.k336, ?_⟩
        refine zt_held hS hm ?_
        rw [x2 (by omega)]
        exact hk _ m0 hz
    · refine ⟨hS.k336, ?_⟩
      refine zt_handOf hS hm c1.1 (by omega) (by omega) (by omega) ?_
      rw [x1 (by omega)]
      exact hk _ m0 hz
  refine u_X11_hand ?_
  refine ⟨hS.k0, ?_⟩
  refine zs_isHand11 hS hm (fun c1 => g_ifT (by decide) ?_) (fun c1 => g_ifF (by decide) (g_C (hK _ _ (ref _ (fun z => absurd z (by omega)) (fun _ => rfl)))))
  have zh := hz.hd c1.1 (by omega)
  have zs := hz.sp c1.1 (by omega)
  refine g_if (fun w1 => ?_) (fun w1 => ?_)
  · refine g_getr 1 3 rfl hS.k0 hm.f_0_1 (by decide) ?_
    refine g_getr 1 16 rfl hS.k3 hm.f_3_1 (by decide) ?_
    refine g_getr 2 17 rfl hS.k16 hm.f_16_2 (by decide) ?_
    refine g_ldu hS.k17 hS.l17 (by omega) (by omega) (fun v ev => ?_)
    refine hK _ _ (ref _ (fun _ _ => ⟨fun _ => ?_, fun q => absurd q (by omega), fun q => absurd q (by omega)⟩) (fun z => absurd ⟨⟨c1.1, by omega⟩, by omega, by omega⟩ z))
    rw [ev, zh.1, w1, Int.add_zero]
  refine g_if (fun w2 => ?_) (fun w2 => ?_)
  · refine g_getr 1 3 rfl hS.k0 hm.f_0_1 (by decide) ?_
    refine g_getr 1 16 rfl hS.k3 hm.f_3_1 (by decide) ?_
    refine g_getr 3 18 rfl hS.k16 hm.f_16_3 (by decide) ?_
    refine g_ldu hS.k18 hS.l18 (by omega) (by omega) (fun v ev => ?_)
    refine hK _ _ (ref _ (fun _ _ => ⟨fun _ => ?_, fun q => absurd q (by omega), fun q => absurd q (by omega)⟩) (fun z => absurd ⟨⟨c1.1, by omega⟩, by omega, by omega⟩ z))
    rw [ev, zh.2.1, w2]
  refine g_if (fun w3 => ?_) (fun w3 => ?_)
  · refine g_getr 1 3 rfl hS.k0 hm.f_0_1 (by decide) ?_
    refine g_getr 1 16 rfl hS.k3 hm.f_3_1 (by decide) ?_
    refine g_getr 4 19 rfl hS.k16 hm.f_16_4 (by decide) ?_
    refine g_ldu hS.k19 hS.l19 (by omega) (by omega) (fun v ev => ?_)
    refine hK _ _ (ref _ (fun _ _ => ⟨fun _ => ?_, fun q => absurd q (by omega), fun q => absurd q (by omega)⟩) (fun z => absurd ⟨⟨c1.1, by omega⟩, by omega, by omega⟩ z))
    rw [ev, zh.2.2, w3]
  refine g_if (fun w4 => ?_) (fun w4 => ?_)
  · refine g_getr 1 3 rfl hS.k0 hm.f_0_1 (by decide) ?_
    refine g_getr 1 16 rfl hS.k3 hm.f_3_1 (by decide) ?_
    refine ⟨hS.k16, ?_⟩
    refine zt_heldBits hS hm (by decide) ?_
    refine hK _ _ (ref _ (fun _ _ => ⟨fun q => absurd q (by omega), fun _ => hz.hb c1.1, fun q => absurd q (by omega)⟩) (fun z => absurd ⟨⟨c1.1, by omega⟩, by omega, by omega⟩ z))
  refine g_if (fun w5 => ?_) (fun w5 => ?_)
  · refine g_getr 1 3 rfl hS.k0 hm.f_0_1 (by decide) ?_
    refine g_getr 0 4 rfl hS.k3 hm.f_3_0 (by decide) ?_
    refine g_getr 10 7 rfl hS.k4 hm.f_4_10 (by decide) ?_
    refine g_ldu hS.k7 hS.l7 (by omega) (by omega) (fun v ev => ?_)
    refine hK _ _ (ref _ (fun _ _ => ⟨fun q => absurd q (by omega), fun q => absurd q (by omega), fun _ => ?_⟩) (fun z => absurd ⟨⟨c1.1, by omega⟩, by omega, by omega⟩ z))
    rw [ev, zs.1, w5]
    rfl
  refine g_if (fun w6 => ?_) (fun w6 => ?_)
  · refine g_getr 1 3 rfl hS.k0 hm.f_0_1 (by decide) ?_
    refine g_getr 0 4 rfl hS.k3 hm.f_3_0 (by decide) ?_
    refine g_getr 11 8 rfl hS.k4 hm.f_4_11 (by decide) ?_
    refine g_ldu hS.k8 hS.l8 (by omega) (by omega) (fun v ev => ?_)
    refine hK _ _ (ref _ (fun _ _ => ⟨fun q => absurd q (by omega), fun q => absurd q (by omega), fun _ => ?_⟩) (fun z => absurd ⟨⟨c1.1, by omega⟩, by omega, by omega⟩ z))
    rw [ev, zs.2, w6]
    rfl
  refine g_C ?_
  exact hK _ _ (ref _ (fun _ q => absurd q (by omega)) (fun _ => rfl))
theorem zz_jug {S : Sh} {m0 : Mm} {K : Int → Int → Mm → Prop} {K1 : Int → Mm → Prop} {n j w : Int} (hS : Shp S) (hz : RZ S m0 n) (hK : ∀ (r : Int) (M : Mm), wp_X12_jug S M 336 j w (fun r2 M2 => K r r2 M2) → K1 r M) (hk : ∀ (r : Int) (M1 : Mm), RZ S M1 n → K r r M1) : wp_X11_jug S m0 0 j w K1 := by
  have hm := hz.inv
  have ct := hz.ct
  have db := hz.db
  have c5 : m0 4 5 = m0 346 5 := ct.2.2.2.2.2.1
  have c2 : m0 4 2 = m0 346 2 := ct.2.2.1
  have ref : ∀ r : Int, ((0 ≤ j ∧ j < m0 346 5) → (w = 0 → (StR m0 j → r = m0 346 (35 + 4 * j + 0)) ∧ (¬ StR m0 j → r = -1)) ∧ (w = 1 → r = m0 346 (35 + 4 * j + 1)) ∧ (w = 2 → r = m0 346 (35 + 4 * j + 2)) ∧ (w = 3 → (m0 346 (35 + 4 * j + 2) < m0 346 2 → r = 0) ∧ (¬ m0 346 (35 + 4 * j + 2) < m0 346 2 → r = 1)) ∧ (w = 4 → r = m0 346 (35 + 4 * j + 3))) → (¬ ((0 ≤ j ∧ j < m0 346 5) ∧ (0 ≤ w ∧ w ≤ 4)) → r = -2) → wp_X12_jug S m0 336 j w (fun r2 M2 => K r r2 M2) := by
    intro r e1 e2
    refine u_X12_jug ?_
    refine ⟨hS.k336, ?_⟩
    refine zs_isJug12 hS hm (fun c1 => g_ifT (by decide) ?_) (fun c1 => g_ifF (by decide) (g_C (by rw [e2 (fun z => c1 z.1)]; exact hk _ m0 hz)))
    obtain ⟨x0, x1, x2, x3, x4⟩ := e1 c1
    refine g_if (fun w1 => ?_) (fun w1 => ?_)
    · refine ⟨hS.k336, ?_⟩
      refine zt_stands hS hm c1.1 (by omega) (fun s => g_ifF (by decide) ?_) (fun s => g_ifT rfl (g_C (by rw [(x0 w1).2 s]; exact hk _ m0 hz)))
      refine g_C ?_
      refine ⟨hS.k336, ?_⟩
      refine zt_jugOf hS hm c1.1 (by omega) (by omega) (by omega) ?_
      rw [(x0 w1).1 s]
      exact hk _ m0 hz
    refine g_if (fun w2 => ?_) (fun w2 => ?_)
    · refine ⟨hS.k336, ?_⟩
      refine zt_jugOf hS hm c1.1 (by omega) (by omega) (by omega) ?_
      rw [x1 w2, w2]
      exact hk _ m0 hz
    refine g_if (fun w3 => ?_) (fun w3 => ?_)
    · refine ⟨hS.k336, ?_⟩
      refine zt_jugOf hS hm c1.1 (by omega) (by omega) (by omega) ?_
      rw [x2 w3, w3]
      exact hk _ m0 hz
    refine g_if (fun w4 => ?_) (fun w4 => ?_)
    · refine g_C ?_
      refine ⟨hS.k336, ?_⟩
      refine zt_jugOf hS hm c1.1 (by omega) (by omega) (by omega) ?_
      refine g_getr 20 346 rfl hS.k336 hm.f_336_20 (by decide) ?_
      refine g_C ?_
      refine g_ldu hS.k346 hS.l346 (by decide) (by decide) (fun v ev => ?_)
      subst ev
      exact g_if (fun q => g_C (by rw [(x3 w4).1 q]; exact hk _ m0 hz)) (fun q => g_C (by rw [(x3 w4).2 q]; exact hk _ m0 hz))
    refine g_if (fun w5 => ?_) (fun w5 => ?_)
    · refine g_C ?_
      refine ⟨hS.k336, ?_⟩
      refine zt_jugOf hS hm c1.1 (by omega) (by omega) (by omega) ?_
      rw [x4 w5]
      exact hk _ m0 hz
    · refine g_C ?_
      rw [e2 (fun z => by omega)]
      exact hk _ m0 hz
  have no : ∀ r : Int, r = -2 → ¬ ((0 ≤ j ∧ j < m0 346 5) ∧ (0 ≤ w ∧ w ≤ 4)) → wp_X12_jug S m0 336 j w (fun r2 M2 => K r r2 M2) := fun r e q => ref r (fun z => ⟨fun y => absurd ⟨z, by omega, by omega⟩ q, fun y => absurd ⟨z, by omega, by omega⟩ q, fun y => absurd ⟨z, by omega, by omega⟩ q, fun y => absurd ⟨z, by omega, by omega⟩ q, fun y => absurd ⟨z, by omega, by omega⟩ q⟩) (fun _ => e)
  refine u_X11_jug ?_
  refine ⟨hS.k0, ?_⟩
  refine zs_isJug11 hS hm (fun c1 => g_ifT (by decide) ?_) (fun c1 => g_ifF (by decide) (g_C (hK _ _ (no _ rfl (fun z => c1 (by omega))))))
  have c1' : 0 ≤ j ∧ j < m0 346 5 := by omega
  have zj := hz.jg c1'.1 c1'.2
  have yes : ∀ r : Int, (0 ≤ w ∧ w ≤ 4) → ((w = 0 → (StR m0 j → r = m0 346 (35 + 4 * j + 0)) ∧ (¬ StR m0 j → r = -1)) ∧ (w = 1 → r = m0 346 (35 + 4 * j + 1)) ∧ (w = 2 → r = m0 346 (35 + 4 * j + 2)) ∧ (w = 3 → (m0 346 (35 + 4 * j + 2) < m0 346 2 → r = 0) ∧ (¬ m0 346 (35 + 4 * j + 2) < m0 346 2 → r = 1)) ∧ (w = 4 → r = m0 346 (35 + 4 * j + 3))) → wp_X12_jug S m0 336 j w (fun r2 M2 => K r r2 M2) := fun r wb q => ref r (fun _ => q) (fun z => absurd ⟨c1', wb⟩ z)
  refine g_if (fun w1 => ?_) (fun w1 => ?_)
  · refine g_getr 1 3 rfl hS.k0 hm.f_0_1 (by decide) ?_
    refine g_getr 1 16 rfl hS.k3 hm.f_3_1 (by decide) ?_
    refine g_getr 5 20 rfl hS.k16 hm.f_16_5 (by decide) ?_
    refine g_ldu hS.k20 hS.l20 (by omega) (by omega) (fun v ev => ?_)
    refine hK _ _ (yes _ (by omega) ⟨fun _ => ⟨fun s => ?_, fun s => ?_⟩, fun q => absurd q (by omega), fun q => absurd q (by omega), fun q => absurd q (by omega), fun q => absurd q (by omega)⟩)
    · have s1 := s.1
      have s2 := s.2
      rw [Int.add_zero]
      omega
    · have s3 : ¬ (m0 346 (35 + 4 * j + 1) < 0 ∧ m0 346 (35 + 4 * j + 3) = 0) := s
      omega
  refine g_if (fun w2 => ?_) (fun w2 => ?_)
  · refine g_getr 1 3 rfl hS.k0 hm.f_0_1 (by decide) ?_
    refine g_getr 1 16 rfl hS.k3 hm.f_3_1 (by decide) ?_
    refine g_getr 6 21 rfl hS.k16 hm.f_16_6 (by decide) ?_
    refine g_ldu hS.k21 hS.l21 (by omega) (by omega) (fun v ev => ?_)
    refine hK _ _ (yes _ (by omega) ⟨fun q => absurd q (by omega), fun _ => by omega, fun q => absurd q (by omega), fun q => absurd q (by omega), fun q => absurd q (by omega)⟩)
  refine g_if (fun w3 => ?_) (fun w3 => ?_)
  · refine g_getr 1 3 rfl hS.k0 hm.f_0_1 (by decide) ?_
    refine g_getr 1 16 rfl hS.k3 hm.f_3_1 (by decide) ?_
    refine g_getr 7 22 rfl hS.k16 hm.f_16_7 (by decide) ?_
    refine g_ldu hS.k22 hS.l22 (by omega) (by omega) (fun v ev => ?_)
    refine hK _ _ (yes _ (by omega) ⟨fun q => absurd q (by omega), fun q => absurd q (by omega), fun _ => by omega, fun q => absurd q (by omega), fun q => absurd q (by omega)⟩)
  refine g_if (fun w4 => ?_) (fun w4 => ?_)
  · refine g_getr 1 3 rfl hS.k0 hm.f_0_1 (by decide) ?_
    refine g_getr 1 16 rfl hS.k3 hm.f_3_1 (by decide) ?_
    refine g_getr 7 22 rfl hS.k16 hm.f_16_7 (by decide) ?_
    refine g_ldu hS.k22 hS.l22 (by omega) (by omega) (fun v ev => ?_)
    refine g_getr 1 3 rfl hS.k0 hm.f_0_1 (by decide) ?_
    refine g_getr 0 4 rfl hS.k3 hm.f_3_0 (by decide) ?_
    refine g_getu 2 rfl hS.k4 (fun s es => ?_)
    refine g_if (fun q => g_C (hK _ _ (yes _ (by omega) ⟨fun q => absurd q (by omega), fun q => absurd q (by omega), fun q => absurd q (by omega), fun _ => ⟨fun _ => rfl, fun y => absurd (by omega) y⟩, fun q => absurd q (by omega)⟩))) (fun q => g_C (hK _ _ (yes _ (by omega) ⟨fun q => absurd q (by omega), fun q => absurd q (by omega), fun q => absurd q (by omega), fun _ => ⟨fun y => absurd y (by omega), fun _ => rfl⟩, fun q => absurd q (by omega)⟩)))
  refine g_if (fun w5 => ?_) (fun w5 => ?_)
  · refine g_getr 1 3 rfl hS.k0 hm.f_0_1 (by decide) ?_
    refine g_getr 1 16 rfl hS.k3 hm.f_3_1 (by decide) ?_
    refine ⟨hS.k16, ?_⟩
    refine zh_gone hS hm (by decide) c1.1 (by omega) (fun s1 s2 => g_ifF (by decide) (g_C (hK _ _ (yes _ (by omega) ⟨fun q => absurd q (by omega), fun q => absurd q (by omega), fun q => absurd q (by omega), fun q => absurd q (by omega), fun _ => ?_⟩)))) (fun s => g_ifT rfl (g_C (hK _ _ (yes _ (by omega) ⟨fun q => absurd q (by omega), fun q => absurd q (by omega), fun q => absurd q (by omega), fun q => absurd q (by omega), fun _ => ?_⟩))))
    · have s1 : m0 20 j = -1 := s1
      have s2 : m0 21 j = -1 := s2
      omega
    · have s : ¬ (m0 20 j = -1 ∧ m0 21 j = -1) := s
      omega
  refine g_C ?_
  exact hK _ _ (no _ rfl (by omega))
theorem zz_want {S : Sh} {m0 : Mm} {K : Int → Int → Mm → Prop} {K1 : Int → Mm → Prop} {n w x : Int} (hS : Shp S) (hz : RZ S m0 n) (hK : ∀ (r : Int) (M : Mm), wp_X12_want S M 336 w x (fun r2 M2 => K r r2 M2) → K1 r M) (hk : ∀ (r : Int) (M1 : Mm), RZ S M1 n → K r r M1) : wp_X11_want S m0 0 w x K1 := by
  have hm := hz.inv
  have ct := hz.ct
  have db := hz.db
  have c7 : m0 4 7 = m0 346 6 := ct.2.2.2.2.2.2.2
  have c5 : m0 4 5 = m0 346 5 := ct.2.2.2.2.2.1
  have ref : ∀ r : Int, ((0 ≤ w ∧ w < m0 346 6) → (0 ≤ x ∧ x ≤ 5) → (x < 4 → r = m0 346 (93 + 4 * w + x)) ∧ (x = 4 → r = m0 346 (51 + w)) ∧ (x = 5 → ((m0 346 (51 + w) < 0 → ∀ j : Int, 0 ≤ j → j < m0 346 5 → ¬ rSu m0 w j) → r = 0) ∧ (∀ j : Int, m0 346 (51 + w) < 0 → 0 ≤ j → j < m0 346 5 → rSu m0 w j → r = 1))) → (¬ ((0 ≤ w ∧ w < m0 346 6) ∧ (0 ≤ x ∧ x ≤ 5)) → r = -2) → wp_X12_want S m0 336 w x (fun r2 M2 => K r r2 M2) := by
    intro r e1 e2
    refine u_X12_want ?_
    refine ⟨hS.k336, ?_⟩
    refine zs_isWant12 hS hm (fun c1 => g_ifF (by decide) ?_) (fun c1 => g_ifT rfl (g_C (by rw [e2 (fun z => c1 z.1)]; exact hk _ m0 hz)))
    refine g_C ?_
    refine g_C ?_
    refine g_C ?_
    refine zs_in (fun c2 => g_ifT (by decide) ?_) (fun c2 => g_ifF (by decide) (g_C (by rw [e2 (fun z => c2 z.2)]; exact hk _ m0 hz)))
    obtain ⟨x1, x2, x3⟩ := e1 c1 c2
    refine g_C ?_
    refine g_if (fun w1 => ?_) (fun w1 => ?_)
    · refine g_C ?_
      refine g_if (fun w2 => ?_) (fun w2 => ?_)
      · refine ⟨hS.k336, ?_⟩
        have x3 := x3 (by omega)
        refine zs_firstFor hS hm c1.1 (by omega) (fun q => ?_) (fun j a0 a1 a2 a3 _ => ?_)
        · refine g_ifT (by decide) (g_C ?_)
          rw [x3.1 q]
          exact hk _ m0 hz
        · refine g_ifF (by omega) (g_C ?_)
          rw [x3.2 j a0 a1 a2 a3]
          exact hk _ m0 hz
      · refine g_getr 20 346 rfl hS.k336 hm.f_336_20 (by decide) ?_
        refine g_C ?_
        refine g_A (by omega) (by omega) ?_
        refine g_ldu hS.k346 hS.l346 (by omega) (by omega) (fun v ev => ?_)
        rw [ev, x2 (by omega)]
        exact hk _ m0 hz
    · refine ⟨hS.k336, ?_⟩
      refine zt_wantOf hS hm c1.1 (by omega) (by omega) (by omega) ?_
      rw [x1 (by omega)]
      exact hk _ m0 hz
  refine u_X11_want ?_
  refine ⟨hS.k0, ?_⟩
  refine zs_isWant11 hS hm (fun c1 => g_ifT (by decide) ?_) (fun c1 => g_ifF (by decide) (g_C (hK _ _ (ref _ (fun z => absurd z (by omega)) (fun _ => rfl)))))
  have c1' : 0 ≤ w ∧ w < m0 346 6 := by omega
  have zw := hz.wd c1'.1 c1'.2
  have zm := hz.wt c1'.1 c1'.2
  have bm : -1 ≤ m0 23 w ∧ m0 23 w ≤ 999 := hm.aB_5_7 (c := 16) (by decide) c1'.1 (by omega)
  have yes : ∀ r : Int, (0 ≤ x ∧ x ≤ 5) → ((x < 4 → r = m0 346 (93 + 4 * w + x)) ∧ (x = 4 → r = m0 346 (51 + w)) ∧ (x = 5 → ((m0 346 (51 + w) < 0 → ∀ j : Int, 0 ≤ j → j < m0 346 5 → ¬ rSu m0 w j) → r = 0) ∧ (∀ j : Int, m0 346 (51 + w) < 0 → 0 ≤ j → j < m0 346 5 → rSu m0 w j → r = 1))) → wp_X12_want S m0 336 w x (fun r2 M2 => K r r2 M2) := fun r xb q => ref r (fun _ _ => q) (fun z => absurd ⟨c1', xb⟩ z)
  refine g_if (fun w1 => ?_) (fun w1 => ?_)
  · refine g_getr 1 3 rfl hS.k0 hm.f_0_1 (by decide) ?_
    refine g_getr 0 4 rfl hS.k3 hm.f_3_0 (by decide) ?_
    refine g_getr 15 12 rfl hS.k4 hm.f_4_15 (by decide) ?_
    refine g_ldu hS.k12 hS.l12 (by omega) (by omega) (fun v ev => ?_)
    refine hK _ _ (yes _ (by omega) ⟨fun _ => ?_, fun q => absurd q (by omega), fun q => absurd q (by omega)⟩)
    rw [ev, zw.1, w1, Int.add_zero]
  refine g_if (fun w2 => ?_) (fun w2 => ?_)
  · refine g_getr 1 3 rfl hS.k0 hm.f_0_1 (by decide) ?_
    refine g_getr 0 4 rfl hS.k3 hm.f_3_0 (by decide) ?_
    refine g_getr 16 13 rfl hS.k4 hm.f_4_16 (by decide) ?_
    refine g_ldu hS.k13 hS.l13 (by omega) (by omega) (fun v ev => ?_)
    refine hK _ _ (yes _ (by omega) ⟨fun _ => ?_, fun q => absurd q (by omega), fun q => absurd q (by omega)⟩)
    rw [ev, zw.2.1, w2]
  refine g_if (fun w3 => ?_) (fun w3 => ?_)
  · refine g_getr 1 3 rfl hS.k0 hm.f_0_1 (by decide) ?_
    refine g_getr 0 4 rfl hS.k3 hm.f_3_0 (by decide) ?_
    refine g_getr 17 14 rfl hS.k4 hm.f_4_17 (by decide) ?_
    refine g_ldu hS.k14 hS.l14 (by omega) (by omega) (fun v ev => ?_)
    refine hK _ _ (yes _ (by omega) ⟨fun _ => ?_, fun q => absurd q (by omega), fun q => absurd q (by omega)⟩)
    rw [ev, zw.2.2.1, w3]
  refine g_if (fun w4 => ?_) (fun w4 => ?_)
  · refine g_getr 1 3 rfl hS.k0 hm.f_0_1 (by decide) ?_
    refine g_getr 0 4 rfl hS.k3 hm.f_3_0 (by decide) ?_
    refine g_getr 18 15 rfl hS.k4 hm.f_4_18 (by decide) ?_
    refine g_ldu hS.k15 hS.l15 (by omega) (by omega) (fun v ev => ?_)
    refine hK _ _ (yes _ (by omega) ⟨fun _ => ?_, fun q => absurd q (by omega), fun q => absurd q (by omega)⟩)
    rw [ev, zw.2.2.2, w4]
  refine g_if (fun w5 => ?_) (fun w5 => ?_)
  · refine g_getr 1 3 rfl hS.k0 hm.f_0_1 (by decide) ?_
    refine g_getr 1 16 rfl hS.k3 hm.f_3_1 (by decide) ?_
    refine g_getr 8 23 rfl hS.k16 hm.f_16_8 (by decide) ?_
    refine g_ldu hS.k23 hS.l23 (by omega) (by omega) (fun v ev => ?_)
    refine hK _ _ (yes _ (by omega) ⟨fun q => absurd q (by omega), fun _ => ?_, fun q => absurd q (by omega)⟩)
    rw [ev, zm]
  refine g_if (fun w6 => ?_) (fun w6 => ?_)
  · refine ⟨hS.k0, ?_⟩
    refine zs_jugFor hS hm c1.1 (by omega) (fun q => ?_) (fun j a0 a1 a2 a3 _ => ?_)
    · refine g_C ?_
      refine g_ifF (fun z => z rfl) (g_C ?_)
      refine hK _ _ (yes _ (by omega) ⟨fun y => absurd y (by omega), fun y => absurd y (by omega), fun _ => ⟨fun _ => rfl, fun j b0 b1 b2 b3 => ?_⟩⟩)
      exact absurd ((su_iff hz c1' ⟨b1, b2⟩).2 b3) (q (by omega) j b1 (by omega))
    · refine g_C ?_
      refine g_ifT (by omega) (g_C ?_)
      refine hK _ _ (yes _ (by omega) ⟨fun y => absurd y (by omega), fun y => absurd y (by omega), fun _ => ⟨fun y => ?_, fun _ _ _ _ _ => rfl⟩⟩)
      exact absurd ((su_iff hz c1' ⟨a1, by omega⟩).1 a3) (y (by omega) j a1 (by omega))
  refine g_C ?_
  exact hK _ _ (ref _ (fun _ q => absurd q (by omega)) (fun _ => rfl))
theorem zz_count {S : Sh} {m0 : Mm} {K : Int → Int → Mm → Prop} {K1 : Int → Mm → Prop} {n w : Int} (hS : Shp S) (hz : RZ S m0 n) (hK : ∀ (r : Int) (M : Mm), wp_X12_count S M 336 w (fun r2 M2 => K r r2 M2) → K1 r M) (hk : ∀ (r : Int) (M1 : Mm), RZ S M1 n → K r r M1) : wp_X11_count S m0 0 w K1 := by
  have hm := hz.inv
  obtain ⟨t0, t1, t2, t3, t4, t5, t6, t7⟩ := hz.ct
  have i0 := hz.2.2.2.2.2.2.2.2
  have h7 : m0 16 0 = m0 346 7 := hz.sr.1.1
  have h8 : m0 16 1 = m0 346 8 := hz.sr.1.2
  have h157 : m0 3 4 = m0 346 157 := hz.tt.1
  have eu : m0 0 5 = m0 336 25 := hz.2.1.2.2.1
  have ex : m0 3 3 = m0 336 22 := hz.1.2.1.1
  have ef : m0 3 2 = m0 336 21 := hz.1.2.2.2.1
  have et : m0 1 1 = m0 336 1 := hz.1.2.2.1.1
  have er : m0 0 7 = m0 336 2 := hz.1.2.2.1.2.2
  have he : ht8 m0 (m0 16 0) = heR m0 (m0 346 7) := by
    unfold heR
    rw [if_pos i0.2, h7]
    exact ht_eq hz.tl
  have ref : ∀ r : Int, (0 ≤ w → w ≤ 6 → r = m0 346 w) → (w = 7 → r = m0 336 2) → (w = 8 → r = m0 336 21) → (w = 9 → r = m0 346 7) → (w = 10 → r = heR m0 (m0 346 7)) → (w = 11 → r = m0 346 8) → (w = 12 → r = m0 346 157) → (w = 13 → r = m0 336 25) → (w = 14 → r = m0 336 22) → (w = 15 → r = m0 336 1) → (¬ (0 ≤ w ∧ w ≤ 15) → r = -1) → wp_X12_count S m0 336 w (fun r2 M2 => K r r2 M2) := by
    intro r e0 e7 e8 e9 e10 e11 e12 e13 e14 e15 eN
    have fin : ∀ v : Int, v = r → K r v m0 := fun v e => by rw [e]; exact hk _ m0 hz
    have low : (0 ≤ w ∧ w ≤ 6) → wGetR S m0 336 12 20 fun v1 => wLd S m0 v1 14 w fun v3 => K r v3 m0 := fun q => by
      refine g_getr 20 346 rfl hS.k336 hm.f_336_20 (by decide) ?_
      refine g_ldu hS.k346 hS.l346 (by omega) (by omega) (fun v ev => fin v (ev.trans (e0 q.1 q.2).symm))
    refine u_X12_count ?_
    refine g_if (fun q => low (by omega)) (fun q0 => ?_)
    refine g_if (fun q => low (by omega)) (fun q1 => ?_)
    refine g_if (fun q => low (by omega)) (fun q2 => ?_)
    refine g_if (fun q => low (by omega)) (fun q3 => ?_)
    refine g_if (fun q => low (by omega)) (fun q4 => ?_)
    refine g_if (fun q => low (by omega)) (fun q5 => ?_)
    refine g_if (fun q => low (by omega)) (fun q6 => ?_)
    refine g_if (fun q => g_getu 2 rfl hS.k336 (fun v ev => fin v (ev.trans (e7 q).symm))) (fun q7 => ?_)
    refine g_if (fun q => g_getu 21 rfl hS.k336 (fun v ev => fin v (ev.trans (e8 q).symm))) (fun q8 => ?_)
    refine g_if (fun q => ?_) (fun q9 => ?_)
    · refine g_getr 20 346 rfl hS.k336 hm.f_336_20 (by decide) ?_
      refine g_C ?_
      exact g_ldu hS.k346 hS.l346 (by decide) (by decide) (fun v ev => fin v (ev.trans (e9 q).symm))
    refine g_if (fun q => ?_) (fun q10 => ?_)
    · refine g_getr 20 346 rfl hS.k336 hm.f_336_20 (by decide) ?_
      refine g_C ?_
      refine g_ldu hS.k346 hS.l346 (by decide) (by decide) (fun v ev => ?_)
      refine ⟨hS.k336, ?_⟩
      subst ev
      exact zh_heat12 hS hm (fun _ _ => fin _ (e10 q).symm)
    refine g_if (fun q => ?_) (fun q11 => ?_)
    · refine g_getr 20 346 rfl hS.k336 hm.f_336_20 (by decide) ?_
      refine g_C ?_
      exact g_ldu hS.k346 hS.l346 (by decide) (by decide) (fun v ev => fin v (ev.trans (e11 q).symm))
    refine g_if (fun q => ?_) (fun q12 => ?_)
    · refine g_getr 20 346 rfl hS.k336 hm.f_336_20 (by decide) ?_
      refine g_C ?_
      exact g_ldu hS.k346 hS.l346 (by decide) (by decide) (fun v ev => fin v (ev.trans (e12 q).symm))
    refine g_if (fun q => g_getu 25 rfl hS.k336 (fun v ev => fin v (ev.trans (e13 q).symm))) (fun q13 => ?_)
    refine g_if (fun q => g_getu 22 rfl hS.k336 (fun v ev => fin v (ev.trans (e14 q).symm))) (fun q14 => ?_)
    refine g_if (fun q => g_getu 1 rfl hS.k336 (fun v ev => fin v (ev.trans (e15 q).symm))) (fun q15 => ?_)
    exact g_C (fin _ (eN (by omega)).symm)
  have nl : ∀ {P : Prop}, w = 7 ∨ w = 8 ∨ w = 9 ∨ w = 10 ∨ w = 11 ∨ w = 12 ∨ w = 13 ∨ w = 14 ∨ w = 15 ∨ ¬ (0 ≤ w ∧ w ≤ 15) → 0 ≤ w → w ≤ 6 → P := fun q a b => by exfalso; omega
  have ab : ∀ {P : Prop} {a b : Int}, w = a → ¬ a = b → w = b → P := fun e q e2 => absurd (e.symm.trans e2) q
  have hi : ¬ (0 ≤ w ∧ w ≤ 6) → wp_X11_count_22 S K1 0 w m0 := by
    intro nw
    refine u_X11_count_22 ?_
    refine g_if (fun q => ?_) (fun q7 => ?_)
    · exact g_getu 7 rfl hS.k0 (fun v ev => hK _ _ (ref _ (fun a b => absurd ⟨a, b⟩ nw) (fun _ => ev.trans er) (ab q (by decide)) (ab q (by decide)) (ab q (by decide)) (ab q (by decide)) (ab q (by decide)) (ab q (by decide)) (ab q (by decide)) (ab q (by decide)) (fun z => absurd (by omega) z)))
    refine g_if (fun q => ?_) (fun q8 => ?_)
    · refine g_getr 1 3 rfl hS.k0 hm.f_0_1 (by decide) ?_
      exact g_getu 2 rfl hS.k3 (fun v ev => hK _ _ (ref _ (fun a b => absurd ⟨a, b⟩ nw) (ab q (by decide)) (fun _ => ev.trans ef) (ab q (by decide)) (ab q (by decide)) (ab q (by decide)) (ab q (by decide)) (ab q (by decide)) (ab q (by decide)) (ab q (by decide)) (fun z => absurd (by omega) z)))
    refine g_if (fun q => ?_) (fun q9 => ?_)
    · refine g_getr 1 3 rfl hS.k0 hm.f_0_1 (by decide) ?_
      refine g_getr 1 16 rfl hS.k3 hm.f_3_1 (by decide) ?_
      exact g_getu 0 rfl hS.k16 (fun v ev => hK _ _ (ref _ (fun a b => absurd ⟨a, b⟩ nw) (ab q (by decide)) (ab q (by decide)) (fun _ => ev.trans h7) (ab q (by decide)) (ab q (by decide)) (ab q (by decide)) (ab q (by decide)) (ab q (by decide)) (ab q (by decide)) (fun z => absurd (by omega) z)))
    refine g_if (fun q => ?_) (fun q10 => ?_)
    · refine g_getr 1 3 rfl hS.k0 hm.f_0_1 (by decide) ?_
      refine g_getr 0 4 rfl hS.k3 hm.f_3_0 (by decide) ?_
      refine g_getr 1 3 rfl hS.k0 hm.f_0_1 (by decide) ?_
      refine g_getr 1 16 rfl hS.k3 hm.f_3_1 (by decide) ?_
      refine g_getu 0 rfl hS.k16 (fun v ev => ?_)
      refine ⟨hS.k4, ?_⟩
      subst ev
      exact zh_heat8 hS hm (fun _ _ => hK _ _ (ref _ (fun a b => absurd ⟨a, b⟩ nw) (ab q (by decide)) (ab q (by decide)) (ab q (by decide)) (fun _ => he) (ab q (by decide)) (ab q (by decide)) (ab q (by decide)) (ab q (by decide)) (ab q (by decide)) (fun z => absurd (by omega) z)))
    refine g_if (fun q => ?_) (fun q11 => ?_)
    · refine g_getr 1 3 rfl hS.k0 hm.f_0_1 (by decide) ?_
      refine g_getr 1 16 rfl hS.k3 hm.f_3_1 (by decide) ?_
      exact g_getu 1 rfl hS.k16 (fun v ev => hK _ _ (ref _ (fun a b => absurd ⟨a, b⟩ nw) (ab q (by decide)) (ab q (by decide)) (ab q (by decide)) (ab q (by decide)) (fun _ => ev.trans h8) (ab q (by decide)) (ab q (by decide)) (ab q (by decide)) (ab q (by decide)) (fun z => absurd (by omega) z)))
    refine g_if (fun q => ?_) (fun q12 => ?_)
    · refine g_getr 1 3 rfl hS.k0 hm.f_0_1 (by decide) ?_
      exact g_getu 4 rfl hS.k3 (fun v ev => hK _ _ (ref _ (fun a b => absurd ⟨a, b⟩ nw) (ab q (by decide)) (ab q (by decide)) (ab q (by decide)) (ab q (by decide)) (ab q (by decide)) (fun _ => ev.trans h157) (ab q (by decide)) (ab q (by decide)) (ab q (by decide)) (fun z => absurd (by omega) z)))
    refine g_if (fun q => ?_) (fun q13 => ?_)
    · exact g_getu 5 rfl hS.k0 (fun v ev => hK _ _ (ref _ (fun a b => absurd ⟨a, b⟩ nw) (ab q (by decide)) (ab q (by decide)) (ab q (by decide)) (ab q (by decide)) (ab q (by decide)) (ab q (by decide)) (fun _ => ev.trans eu) (ab q (by decide)) (ab q (by decide)) (fun z => absurd (by omega) z)))
    refine g_if (fun q => ?_) (fun q14 => ?_)
    · refine g_getr 1 3 rfl hS.k0 hm.f_0_1 (by decide) ?_
      exact g_getu 3 rfl hS.k3 (fun v ev => hK _ _ (ref _ (fun a b => absurd ⟨a, b⟩ nw) (ab q (by decide)) (ab q (by decide)) (ab q (by decide)) (ab q (by decide)) (ab q (by decide)) (ab q (by decide)) (ab q (by decide)) (fun _ => ev.trans ex) (ab q (by decide)) (fun z => absurd (by omega) z)))
    refine g_if (fun q => ?_) (fun q15 => ?_)
    · refine g_getr 0 1 rfl hS.k0 hm.f_0_0 (by decide) ?_
      exact g_getu 1 rfl hS.k1 (fun v ev => hK _ _ (ref _ (fun a b => absurd ⟨a, b⟩ nw) (ab q (by decide)) (ab q (by decide)) (ab q (by decide)) (ab q (by decide)) (ab q (by decide)) (ab q (by decide)) (ab q (by decide)) (ab q (by decide)) (fun _ => ev.trans et) (fun z => absurd (by omega) z)))
    exact g_C (hK _ _ (ref _ (fun a b => absurd ⟨a, b⟩ nw) (fun z => absurd z q7) (fun z => absurd z q8) (fun z => absurd z q9) (fun z => absurd z q10) (fun z => absurd z q11) (fun z => absurd z q12) (fun z => absurd z q13) (fun z => absurd z q14) (fun z => absurd z q15) (fun _ => rfl)))
  refine u_X11_count ?_
  refine g_if (fun q => hi (by omega)) (fun q => ?_)
  refine g_C ?_
  refine g_if (fun q2 => hi (by omega)) (fun q2 => ?_)
  refine g_getr 1 3 rfl hS.k0 hm.f_0_1 (by decide) ?_
  refine g_getr 0 4 rfl hS.k3 hm.f_3_0 (by decide) ?_
  refine ⟨hS.k4, ?_⟩
  have lo : ∀ v : Int, v = m0 346 w → K1 v m0 := fun v ev => hK _ _ (ref _ (fun _ _ => ev) (fun z => absurd z (by omega)) (fun z => absurd z (by omega)) (fun z => absurd z (by omega)) (fun z => absurd z (by omega)) (fun z => absurd z (by omega)) (fun z => absurd z (by omega)) (fun z => absurd z (by omega)) (fun z => absurd z (by omega)) (fun z => absurd z (by omega)) (fun z => absurd (by omega) z))
  refine u_X8_howMany ?_
  refine g_if (fun y => g_getu 0 rfl hS.k4 (fun v ev => lo v (by rw [ev, t0, y]))) (fun y0 => ?_)
  refine g_if (fun y => g_getu 1 rfl hS.k4 (fun v ev => lo v (by rw [ev, t1, y]))) (fun y1 => ?_)
  refine g_if (fun y => g_getu 2 rfl hS.k4 (fun v ev => lo v (by rw [ev, t2, y]))) (fun y2 => ?_)
  refine g_if (fun y => g_getu 3 rfl hS.k4 (fun v ev => lo v (by rw [ev, t3, y]))) (fun y3 => ?_)
  refine g_if (fun y => g_getu 4 rfl hS.k4 (fun v ev => lo v (by rw [ev, t4, y]))) (fun y4 => ?_)
  refine g_if (fun y => g_getu 5 rfl hS.k4 (fun v ev => lo v (by rw [ev, t5, y]))) (fun y5 => ?_)
  exact g_getu 7 rfl hS.k4 (fun v ev => lo v (by rw [ev, t7, show w = 6 by omega]))
end
section
/-! HOURS that go on: ahead, ice -/
def hrn (o : Option (List Cz)) (i : Int) (D : Int → Int) : Nat → Int → Int
  | 0 => D
  | k + 1 => hrow o i (hrn o i D k)
abbrev mv (p : Int) : Prop := p = 7 ∨ (10 ≤ p ∧ p < 35 ∧ ((p - 10) % 5 = 1 ∨ (p - 10) % 5 = 2)) ∨ (35 ≤ p ∧ p < 51 ∧ (p - 35) % 4 = 2)
theorem hrn_e {o : Option (List Cz)} {i : Int} {D : Int → Int} (b4 : D 4 ≤ 5) (b5 : D 5 ≤ 4) : ∀ (k : Nat) (p : Int), ¬ mv p → hrn o i D k p = D p := by
  intro k
  induction k with
  | zero => intro p _; rfl
  | succ k ih =>
    intro p q
    show hrow o i (hrn o i D k) p = D p
    have e4 := ih 4 (by unfold mv; omega)
    have e5 := ih 5 (by unfold mv; omega)
    rw [hrow_e (by unfold mv at q; omega)]
    exact ih p q
theorem hrn_7 {o : Option (List Cz)} {i : Int} {D : Int → Int} : ∀ k : Nat, hrn o i D k 7 = D 7 + k := by
  intro k
  induction k with
  | zero => show D 7 = D 7 + ((0 : Nat) : Int); omega
  | succ k ih =>
    show hrow o i (hrn o i D k) 7 = _
    rw [hrow_7, ih]
    omega
theorem DB.hrn {o : Option (List Cz)} {i : Int} {D : Int → Int} (db : DB D) (k : Nat) : DB (hrn o i D k) := db.move (fun p q => hrn_e db.1.2 db.2.1.2 k p (by unfold mv; omega))
theorem TL.hrn {o : Option (List Cz)} {i u : Int} {D : Int → Int} {m M : Mm} (tl : TL u D m) (db : DB D) (b3 : D 3 ≤ 8) (k : Nat) (h0 : ∀ p : Int, 0 ≤ p → p < 8 → M u p = m u p) (hh : ∀ c p : Int, inT c p → M (u + c) p = m (u + c) p) : TL u (hrn o i D k) M := tl.move db b3 h0 hh (fun p q => hrn_e db.1.2 db.2.1.2 k p (by unfold mv; unfold tp at q; omega))
/-- the class: n HOURS over the supposed STATE -/
theorem zn_passSeveral {X : Mm} {S : Sh} {m : Mm} {K : Mm → Prop} {o : Option (List Cz)} {D : Int → Int} {i n : Int} (hS : Shp S) (hm : Inv X S m) (rc : RC S m o) (db : DB D) (b3 : D 3 ≤ 8) (sr : SR m 68 D) (tl : TL 4 D m) (ic : m 55 2 = 0 ↔ i = 0) (n0 : 0 ≤ n) (n1 : n ≤ 200) (h7 : D 7 + n ≤ 998) (hk : ∀ M1 : Mm, Inv X S M1 → (∀ c p : Int, ¬ c = 56 → ¬ (c = 55 ∧ 4 ≤ p) → ¬ (68 ≤ c ∧ c ≤ 75) → M1 c p = m c p) → SR M1 68 (hrn o i D n.toNat) → K M1) : wp_X1_passSeveral S m 57 68 n K := by
  have hb : isSt 68 := by decide
  have L : ∀ (w : Nat) (k : Nat) (M : Mm), (k : Int) ≤ n → Inv X S M → (∀ c p : Int, ¬ c = 56 → ¬ (c = 55 ∧ 4 ≤ p) → ¬ (68 ≤ c ∧ c ≤ 75) → M c p = m c p) → SR M 68 (hrn o i D k) → n + 1 - k ≤ (w : Int) → wp_X1_passSeveral_2 S K w 57 68 n k M := by
    intro w
    induction w with
    | zero => intro k M k1 _ _ _ hw; exfalso; omega
    | succ w ih =>
      intro k M k1 hM F R hw
      refine u_X1_passSeveral_2 ?_
      refine g_if (fun q => ?_) (fun q => ?_)
      · have e : n.toNat = k := by omega
        rw [← e] at R
        exact hk M hM F R
      · refine ⟨hS.k57, ?_⟩
        have h68 : M 68 0 = D 7 + k := by rw [R.1.1, hrn_7]
        refine zh_pass hS hM (rc.keep (fun c p q => F c p (by omega) (by omega) (by omega))) hb (Or.inr rfl) (fun M1 hM1 ph => ?_)
        have R1 := (SR_hour (o := o) (i := i) hM hb (Or.inr rfl) (db.hrn k) R (tl.hrn db b3 k (fun p _ _ => F _ p (by omega) (by omega) (by omega)) (fun c p q => F _ p (by unfold inT at q; omega) (by unfold inT at q; omega) (by unfold inT at q; omega))) (by rw [F 55 2 (by first | decide | exact fun z => absurd z.1 (by decide) | exact ⟨fun z => absurd z.1 (by decide), fun z => absurd z.1 (by decide)⟩ | omega) (by first | decide | exact fun z => absurd z.1 (by decide) | exact ⟨fun z => absurd z.1 (by decide), fun z => absurd z.1 (by decide)⟩ | omega) (by first | decide | exact fun z => absurd z.1 (by decide) | exact ⟨fun z => absurd z.1 (by decide), fun z => absurd z.1 (by decide)⟩ | omega)]; exact ic) (by omega) ph).1
        refine g_A (by omega) (by omega) ?_
        refine ih (k + 1) M1 (by omega) hM1 (fun c p q1 q2 q3 => ?_) R1 (by omega)
        rw [ph.1 c p q1 q2 (by omega) (by omega) (by omega), F c p q1 q2 q3]
  refine u_X1_passSeveral ?_
  refine g_C ?_
  exact ⟨(n + 1).toNat, L (n + 1).toNat 0 m (by omega) hm (fun _ _ _ _ _ => rfl) sr (by omega)⟩
/-- the reference: an HOUR of its row -/
abbrev jB (m : Mm) : Prop := ∀ j : Int, 0 ≤ j → j < m 346 5 → 0 ≤ m 346 (35 + 4 * j + 2) ∧ m 346 (35 + 4 * j + 2) ≤ 999
theorem zn_passes {X : Mm} {S : Sh} {m : Mm} {K : Int → Mm → Prop} {o : Option (List Cz)} (hS : Shp S) (hm : Inv X S m) (rr : RR m o) (b7 : 0 ≤ m 346 7 ∧ m 346 7 ≤ 9999) (bj : jB m) (hk : ∀ (r : Int) (M1 : Mm), Inv X S M1 → (∀ c p : Int, ¬ c = 344 → ¬ c = 345 → ¬ (c = 336 ∧ p = 18) → ¬ c = 346 → M1 c p = m c p) → M1 346 = hrow o (m 336 23) (m 346) → jB M1 → K r M1) : wp_X12_passes S m 336 K := by
  have b4 := hm.f_346_4
  have b5 := hm.f_346_5
  refine zh_passes hS hm rr b7 bj (fun M1 hM1 pr => ?_)
  refine hk _ M1 hM1 (fun c p q1 q2 q3 q4 => pr.1 c p q1 q2 q3 (fun z => q4 z.1)) (pr.row b4.2) (fun j j0 j1 => ?_)
  have e5 : M1 346 5 = m 346 5 := pr.1 346 5 (by omega) (by omega) (by omega) (by omega)
  rw [e5] at j1
  have bt := tnR_b (o := o) hm j0 (by omega)
  have bb := bj j j0 j1
  rw [pr.2.1 j j0 j1]
  unfold nuR
  split <;> omega
theorem zn_sup {X : Mm} {S : Sh} {m0 : Mm} {K : Mm → Prop} {D : Int → Int} (hS : Shp S) (hm : Inv X S m0) (db : DB D) (sr : SR m0 16 D) (hk : ∀ M1 : Mm, Inv X S M1 → (∀ c p : Int, ¬ (68 ≤ c ∧ c ≤ 75) → M1 c p = m0 c p) → SR M1 68 D → K M1) : wp_X5_become S m0 68 16 K := by
  refine zb_state hS hm (by decide) (by decide) (by decide) (fun m1 hm1 f1 v0 v1 q1 q2 q3 q4 q5 q6 q7 => ?_)
  refine hk m1 hm1 (fun c p q => f1 c p (by first | exact fun y => absurd (y.1 ▸ z) (by decide) | exact fun y => absurd (y.1 ▸ q) (by decide) | exact z | exact q | exact z.1 | exact q.1 | exact z.2 | exact q.2 | omega)) (sr.move db (fun p p0 p1 => ?_) (fun c p q => ?_) (fun _ _ _ => rfl))
  · rcases (show p = 0 ∨ p = 1 by omega) with z | z <;> subst z
    · exact v0
    · exact v1
  · obtain ⟨p0, q⟩ := q
    rcases (show c = 1 ∨ c = 2 ∨ c = 3 ∨ c = 4 ∨ c = 5 ∨ c = 6 ∨ c = 7 by omega) with z | z | z | z | z | z | z <;> subst z
    · exact q1 p p0 (by omega)
    · exact q2 p p0 (by omega)
    · exact q3 p p0 (by omega)
    · exact q4 p p0 (by omega)
    · exact q5 p p0 (by omega)
    · exact q6 p p0 (by omega)
    · exact q7 p p0 (by omega)
/-- the row goes on and is laid back -/
theorem RZ.laid {S : Sh} {m0 m1 m2 : Mm} {n : Int} (z : RZ S m1 n) (hm2 : Inv (sf m1) S m2) (F : ∀ c p : Int, ¬ c = 344 → ¬ c = 345 → ¬ c = 348 → ¬ (c = 336 ∧ (p = 18 ∨ p = 33)) → m2 c p = m1 c p) : RZ S m2 n := z.keep (z.1.of hm2) (fun c p q => F c p (by unfold KZ at q; omega) (by unfold KZ at q; omega) (by unfold KZ at q; omega) (by unfold KZ at q; omega))
theorem zz_ahead {S : Sh} {m0 : Mm} {K : Int → Int → Mm → Prop} {K1 : Int → Mm → Prop} {n x w y : Int} (hS : Shp S) (hz : RZ S m0 n) (hn : n ≤ 700) (hK : ∀ (r : Int) (M : Mm), wp_X12_ahead S M 336 x w y (fun r2 M2 => K r r2 M2) → K1 r M) (hk : ∀ (r : Int) (M1 : Mm), RZ S M1 n → K r r M1) : wp_X11_ahead S m0 0 x w y K1 := by
  have hm := hz.inv
  have ct := hz.ct
  have db := hz.db
  have c4 : m0 4 4 = m0 346 4 := ct.2.2.2.2.1
  have c5 : m0 4 5 = m0 346 5 := ct.2.2.2.2.2.1
  obtain ⟨o, rc, rr⟩ := hz.rule
  have h7 : m0 16 0 = m0 346 7 := hz.sr.1.1
  have b16 := hm.f_16_0
  have hb16 : m0 16 0 ≤ n := hz.2.2.2.1.1
  have i0 := hz.2.2.2.2.2.2.2.2
  obtain ⟨D, eD⟩ : ∃ D : Int → Int, D = m0 346 := ⟨_, rfl⟩
  -- the reference
  have ref : ∀ (r : Int) (m1 : Mm), RZ S m1 n → m1 346 = m0 346 → RR m1 o → m1 336 23 = 0 → ((0 ≤ w ∧ w ≤ 100) → (0 ≤ y ∧ y ≤ 1) → (y = 0 → (0 ≤ x ∧ x < m0 346 5) → (D (35 + 4 * x + 3) = 1 → r = -1) ∧ (¬ D (35 + 4 * x + 3) = 1 → r = hrn o 0 D w.toNat (35 + 4 * x + 2))) ∧ (y = 1 → (0 ≤ x ∧ x < m0 346 4) → r = hrn o 0 D w.toNat (10 + 5 * x + 2))) → (¬ ((0 ≤ w ∧ w ≤ 100) ∧ (0 ≤ y ∧ y ≤ 1) ∧ (y = 0 → (0 ≤ x ∧ x < m0 346 5)) ∧ (y = 1 → (0 ≤ x ∧ x < m0 346 4))) → r = -2) → wp_X12_ahead S m1 336 x w y (fun r2 M2 => K r r2 M2) := by
    intro r m1 z1 e46 rr1 x23 e1 e2
    have hm1 := z1.inv
    have go : (0 ≤ w ∧ w ≤ 100) → (0 ≤ y ∧ y ≤ 1) → (y = 0 → (0 ≤ x ∧ x < m0 346 5)) → (y = 1 → (0 ≤ x ∧ x < m0 346 4)) → wp_X12_ahead_48 S (fun r2 M2 => K r r2 M2) 336 x w y m1 := by
      intro wb yb xj xh
      obtain ⟨r0, r1⟩ := e1 wb yb
      refine u_X12_ahead_48 ?_
      refine ⟨hS.k336, ?_⟩
      refine zx_keeps hS hm1 (fun m2 hm2 f2 g2 => ?_)
      refine g_C ?_
      have e46' : m2 346 = D := by rw [eD, ← e46]; exact funext (fun p => f2 346 p (by first | decide | exact fun z => absurd z.1 (by decide) | exact ⟨fun z => absurd z.1 (by decide), fun z => absurd z.1 (by decide)⟩ | omega))
      have L : ∀ (l k : Nat) (M : Mm), (k : Int) ≤ w → Inv (up (sf m1) (-1) 0 1) S M → (∀ c p : Int, ¬ c = 344 → ¬ c = 345 → ¬ (c = 336 ∧ p = 18) → ¬ c = 346 → M c p = m2 c p) → M 346 = hrn o 0 D k → jB M → w + 1 - k ≤ (l : Int) → wp_X12_ahead_55 S (fun r2 M2 => K r r2 M2) l 336 x w y k M := by
        intro l
        induction l with
        | zero => intro k M k1 _ _ _ _ hl; exfalso; omega
        | succ l ih =>
          intro k M k1 hM F eM bj hl
          refine u_X12_ahead_55 ?_
          refine g_if (fun q => ?_) (fun q => ?_)
          · have ek : w.toNat = k := by omega
            have ee : ∀ p : Int, ¬ mv p → M 346 p = D p := fun p q => by rw [eM]; exact hrn_e (by rw [eD]; omega) (by rw [eD]; omega) k p q
            have fin : ∀ v : Int, v = r → wp_X12_ahead_106 S (fun r2 M2 => K r r2 M2) 336 v M := by
              intro v ev
              refine u_X12_ahead_106 ?_
              refine ⟨hS.k336, ?_⟩
              refine zx_laysBack hS hM (up_at _ _ _ _) (fun m3 hm3 f3 g3 => ?_)
              rw [ev]
              refine hk _ m3 (RZ.laid (m0 := m0) z1 hm3.unflag (fun c p q1 q2 q3 q4 => ?_))
              by_cases z : c = 346
              · subst z
                by_cases z2 : 0 ≤ p ∧ p < 57
                · rw [g3 p z2, F 348 p (by first | decide | exact fun z => absurd z.1 (by decide) | exact ⟨fun z => absurd z.1 (by decide), fun z => absurd z.1 (by decide)⟩ | omega) (by first | decide | exact fun z => absurd z.1 (by decide) | exact ⟨fun z => absurd z.1 (by decide), fun z => absurd z.1 (by decide)⟩ | omega) (by first | decide | exact fun z => absurd z.1 (by decide) | exact ⟨fun z => absurd z.1 (by decide), fun z => absurd z.1 (by decide)⟩ | omega) (by first | decide | exact fun z => absurd z.1 (by decide) | exact ⟨fun z => absurd z.1 (by decide), fun z => absurd z.1 (by decide)⟩ | omega), g2 p z2]
                · rw [f3 346 p (by first | decide | exact fun z => absurd z.1 (by decide) | exact ⟨fun z => absurd z.1 (by decide), fun z => absurd z.1 (by decide)⟩ | omega), ee p (by unfold mv; omega), eD, e46]
              · rw [f3 c p (by first | exact fun y => absurd (y.1 ▸ z) (by decide) | exact fun y => absurd (y.1 ▸ q) (by decide) | exact z | exact q | exact z.1 | exact q.1 | exact z.2 | exact q.2 | omega), F c p q1 q2 (by omega) z, f2 c p q3]
            refine g_C ?_
            refine g_if (fun q2 => ?_) (fun q2 => ?_)
            · have y0 : y = 0 := by omega
              have xb := xj y0
              obtain ⟨t1, t2⟩ := r0 y0 xb
              refine g_C ?_
              refine ⟨hS.k336, ?_⟩
              refine zt_jugOf hS hM xb.1 (by omega) (by omega) (by omega) ?_
              rw [ee (35 + 4 * x + 3) (by unfold mv; omega)]
              refine g_C ?_
              refine g_if (fun q3 => ?_) (fun q3 => ?_)
              · refine g_C ?_
                refine ⟨hS.k336, ?_⟩
                refine zt_jugOf hS hM xb.1 (by omega) (by omega) (by omega) ?_
                exact fin _ (by rw [t2 q3, eM, ek])
              · refine g_C ?_
                exact fin _ (t1 (by omega)).symm
            · have y1 : y = 1 := by omega
              have xb := xh y1
              refine g_C ?_
              refine ⟨hS.k336, ?_⟩
              refine zt_handOf hS hM xb.1 (by omega) (by omega) (by omega) ?_
              exact fin _ (by rw [r1 y1 xb, eM, ek])
          · refine ⟨hS.k336, ?_⟩
            refine zn_passes (o := o) hS hM (rr1.keep (fun c p q => by rw [F c p (by omega) (by omega) (by omega) (by omega), f2 c p (by first | exact fun y => absurd (y.1 ▸ z) (by decide) | exact fun y => absurd (y.1 ▸ q) (by decide) | exact z | exact q | exact z.1 | exact q.1 | exact z.2 | exact q.2 | omega)])) (by rw [eM, hrn_7, eD]; omega) bj (fun r9 m3 hm3 f3 e3 b3 => ?_)
            refine g_A (by omega) (by omega) ?_
            refine ih (k + 1) m3 (by omega) hm3 (fun c p q1 q2 q3 q4 => by rw [f3 c p q1 q2 q3 q4, F c p q1 q2 q3 q4]) ?_ b3 (by omega)
            rw [e3, F 336 23 (by first | decide | exact fun z => absurd z.1 (by decide) | exact ⟨fun z => absurd z.1 (by decide), fun z => absurd z.1 (by decide)⟩ | omega) (by first | decide | exact fun z => absurd z.1 (by decide) | exact ⟨fun z => absurd z.1 (by decide), fun z => absurd z.1 (by decide)⟩ | omega) (by first | decide | exact fun z => absurd z.1 (by decide) | exact ⟨fun z => absurd z.1 (by decide), fun z => absurd z.1 (by decide)⟩ | omega) (by first | decide | exact fun z => absurd z.1 (by decide) | exact ⟨fun z => absurd z.1 (by decide), fun z => absurd z.1 (by decide)⟩ | omega), f2 336 23 (by first | decide | exact fun z => absurd z.1 (by decide) | exact ⟨fun z => absurd z.1 (by decide), fun z => absurd z.1 (by decide)⟩ | omega), x23, eM]
            rfl
      refine ⟨(w + 1).toNat, L (w + 1).toNat 0 m2 (by omega) hm2 (fun _ _ _ _ _ _ => rfl) e46' (fun j j0 j1 => ?_) (by omega)⟩
      rw [e46', eD] at j1 ⊢
      rw [← (hz.jg j0 j1).2.1]
      exact hm.aB_5_6 (c := 16) (by decide) j0 (by omega)
    refine u_X12_ahead ?_
    refine g_C ?_
    refine g_C ?_
    refine g_C ?_
    refine zs_in (fun wb => g_ifF (by decide) ?_) (fun wb => g_ifT rfl (g_C (by rw [e2 (fun z => wb z.1)]; exact hk _ m1 z1)))
    refine g_C ?_
    refine g_C ?_
    refine g_C ?_
    refine zs_in (fun yb => g_ifF (by decide) ?_) (fun yb => g_ifT rfl (g_C (by rw [e2 (fun z => yb z.2.1)]; exact hk _ m1 z1)))
    refine g_if (fun q => ?_) (fun q => ?_)
    · refine ⟨hS.k336, ?_⟩
      refine zs_isHand12 hS hm1 (fun c1 => g_ifT (by decide) ?_) (fun c1 => g_ifF (by decide) (g_C ?_))
      · rw [e46] at c1
        exact go wb yb (fun z => absurd z q) (fun _ => c1)
      · rw [e46] at c1
        rw [e2 (fun z => c1 (z.2.2.2 (by omega)))]
        exact hk _ m1 z1
    · refine ⟨hS.k336, ?_⟩
      refine zs_isJug12 hS hm1 (fun c1 => g_ifT (by decide) ?_) (fun c1 => g_ifF (by decide) (g_C ?_))
      · rw [e46] at c1
        exact go wb yb (fun _ => c1) (fun z => absurd z (by omega))
      · rw [e46] at c1
        rw [e2 (fun z => c1 (z.2.2.1 (by omega)))]
        exact hk _ m1 z1
  -- the class
  have no : ¬ ((0 ≤ w ∧ w ≤ 100) ∧ (0 ≤ y ∧ y ≤ 1) ∧ (y = 0 → (0 ≤ x ∧ x < m0 346 5)) ∧ (y = 1 → (0 ≤ x ∧ x < m0 346 4))) → wp_X12_ahead S m0 336 x w y (fun r2 M2 => K (-2) r2 M2) := fun q => ref _ m0 hz rfl rr i0.2 (fun wb yb => ⟨fun y0 xb => absurd ⟨wb, yb, fun _ => xb, fun y1 => absurd y1 (by omega)⟩ q, fun y1 xb => absurd ⟨wb, yb, fun y0 => absurd y0 (by omega), fun _ => xb⟩ q⟩) (fun _ => rfl)
  have run : (0 ≤ w ∧ w ≤ 100) → (0 ≤ y ∧ y ≤ 1) → (y = 0 → (0 ≤ x ∧ x < m0 346 5) ∧ ¬ D (35 + 4 * x + 3) = 1) → (y = 1 → (0 ≤ x ∧ x < m0 346 4)) → wp_X11_ahead_70 S K1 0 x w y m0 := by
    intro wb yb xj xh
    refine u_X11_ahead_70 ?_
    refine g_getr 15 68 rfl hS.k0 hm.f_0_15 (by decide) ?_
    refine g_getr 1 3 rfl hS.k0 hm.f_0_1 (by decide) ?_
    refine g_getr 1 16 rfl hS.k3 hm.f_3_1 (by decide) ?_
    refine ⟨hS.k68, ?_⟩
    refine zn_sup (D := D) hS hm (by rw [eD]; exact hz.rd.1.1) (by rw [eD]; exact hz.sr) (fun m1 hm1 f1 s1 => ?_)
    refine g_getr 11 57 rfl hS.k0 hm1.f_0_11 (by decide) ?_
    refine g_getr 15 68 rfl hS.k0 hm1.f_0_15 (by decide) ?_
    refine ⟨hS.k57, ?_⟩
    have tl1 : TL 4 D m1 := by rw [eD]; exact hz.tl.move hz.rd.1.1 hz.rd.1.2 (fun p _ _ => f1 _ p (by omega)) (fun c p q => f1 _ p (by unfold inT at q; omega)) (fun p _ => rfl)
    refine zn_passSeveral (o := o) (D := D) (i := 0) hS hm1 (rc.keep (fun c p q => f1 c p (by first | exact fun y => absurd (y.1 ▸ z) (by decide) | exact fun y => absurd (y.1 ▸ q) (by decide) | exact z | exact q | exact z.1 | exact q.1 | exact z.2 | exact q.2 | omega))) (by rw [eD]; exact hz.rd.1.1) (by rw [eD]; exact hz.rd.1.2) s1 tl1 (by rw [f1 55 2 (by first | decide | exact fun z => absurd z.1 (by decide) | exact ⟨fun z => absurd z.1 (by decide), fun z => absurd z.1 (by decide)⟩ | omega), i0.1]) wb.1 (by omega) (by rw [eD]; omega) (fun m2 hm2 f2 s2 => ?_)
    have F : ∀ c p : Int, ¬ c = 56 → ¬ (c = 55 ∧ 4 ≤ p) → ¬ (68 ≤ c ∧ c ≤ 75) → m2 c p = m0 c p := fun c p q1 q2 q3 => by rw [f2 c p q1 q2 q3, f1 c p q3]
    have z2 : RZ S m2 n := hz.keep (hz.1.of hm2) (fun c p q => F c p (by unfold KZ at q; omega) (by unfold KZ at q; omega) (by unfold KZ at q; omega))
    have e46 : m2 346 = m0 346 := funext (fun p => F 346 p (by first | decide | exact fun z => absurd z.1 (by decide) | exact ⟨fun z => absurd z.1 (by decide), fun z => absurd z.1 (by decide)⟩ | omega) (by first | decide | exact fun z => absurd z.1 (by decide) | exact ⟨fun z => absurd z.1 (by decide), fun z => absurd z.1 (by decide)⟩ | omega) (by first | decide | exact fun z => absurd z.1 (by decide) | exact ⟨fun z => absurd z.1 (by decide), fun z => absurd z.1 (by decide)⟩ | omega))
    have rr2 : RR m2 o := rr.keep (fun c p q => F c p (by omega) (by omega) (by omega))
    have x23 : m2 336 23 = 0 := by rw [F 336 23 (by first | decide | exact fun z => absurd z.1 (by decide) | exact ⟨fun z => absurd z.1 (by decide), fun z => absurd z.1 (by decide)⟩ | omega) (by first | decide | exact fun z => absurd z.1 (by decide) | exact ⟨fun z => absurd z.1 (by decide), fun z => absurd z.1 (by decide)⟩ | omega) (by first | decide | exact fun z => absurd z.1 (by decide) | exact ⟨fun z => absurd z.1 (by decide), fun z => absurd z.1 (by decide)⟩ | omega)]; exact i0.2
    refine g_if (fun q => ?_) (fun q => ?_)
    · have y1 : y = 1 := by omega
      have xb := xh y1
      refine g_getr 15 68 rfl hS.k0 hm2.f_0_15 (by decide) ?_
      refine g_getr 4 71 rfl hS.k68 hm2.f_68_4 (by decide) ?_
      refine g_ldu hS.k71 hS.l71 (by omega) (by omega) (fun v ev => ?_)
      refine hK _ _ (ref _ m2 z2 e46 rr2 x23 (fun _ _ => ⟨fun y0 => absurd y0 (by omega), fun _ _ => ?_⟩) (fun z => absurd ⟨wb, yb, fun y0 => absurd y0 (by omega), fun _ => xb⟩ z))
      rw [ev]
      exact (s2.2.1 x xb.1 (by rw [hrn_e (by rw [eD]; omega) (by rw [eD]; omega) _ 4 (by unfold mv; omega), eD]; exact xb.2)).2.2
    · have y0 : y = 0 := by omega
      obtain ⟨xb, xg⟩ := xj y0
      refine g_getr 15 68 rfl hS.k0 hm2.f_0_15 (by decide) ?_
      refine g_getr 7 74 rfl hS.k68 hm2.f_68_7 (by decide) ?_
      refine g_ldu hS.k74 hS.l74 (by omega) (by omega) (fun v ev => ?_)
      refine hK _ _ (ref _ m2 z2 e46 rr2 x23 (fun _ _ => ⟨fun _ _ => ⟨fun z => absurd z xg, fun _ => ?_⟩, fun y1 => absurd y1 (by omega)⟩) (fun z => absurd ⟨wb, yb, fun _ => xb, fun y1 => absurd y1 (by omega)⟩ z))
      rw [ev]
      exact (s2.2.2.1 x xb.1 (by rw [hrn_e (by rw [eD]; omega) (by rw [eD]; omega) _ 5 (by unfold mv; omega), eD]; exact xb.2)).2.1
  have mid : ∀ t : Int, (t = 0 ∨ t = 1) → (t = 1 → (0 ≤ y ∧ y ≤ 1) ∧ (y = 0 → (0 ≤ x ∧ x < m0 346 5)) ∧ (y = 1 → (0 ≤ x ∧ x < m0 346 4))) → (t = 0 → ¬ ((0 ≤ y ∧ y ≤ 1) ∧ (y = 0 → (0 ≤ x ∧ x < m0 346 5)) ∧ (y = 1 → (0 ≤ x ∧ x < m0 346 4)))) → wp_X11_ahead_30 S K1 0 x w y t m0 := by
    intro t tb t1 t0
    refine u_X11_ahead_30 ?_
    refine g_if (fun q => g_C (hK _ _ (no (fun z => t0 q z.2)))) (fun q => ?_)
    obtain ⟨yb, xj, xh⟩ := t1 (by omega)
    refine g_if (fun q1 => g_C (hK _ _ (no (fun z => absurd z.1.1 (by omega))))) (fun q1 => ?_)
    refine g_C ?_
    refine g_if (fun q2 => ?_) (fun q2 => g_C (hK _ _ (no (fun z => absurd z.1.2 (by omega)))))
    refine g_if (fun q3 => run ⟨by omega, q2⟩ yb (fun z => absurd z q3) xh) (fun q3 => ?_)
    have y0 : y = 0 := by omega
    have xb := xj y0
    have zj := hz.jg xb.1 xb.2
    refine g_getr 1 3 rfl hS.k0 hm.f_0_1 (by decide) ?_
    refine g_getr 1 16 rfl hS.k3 hm.f_3_1 (by decide) ?_
    refine ⟨hS.k16, ?_⟩
    refine zh_gone hS hm (by decide) xb.1 (by omega) (fun s1 s2 => g_ifF (by decide) (g_C ?_)) (fun s => g_ifT rfl ?_)
    · have s1 : m0 20 x = -1 := s1
      have s2 : m0 21 x = -1 := s2
      refine hK _ _ (ref _ m0 hz rfl rr i0.2 (fun _ _ => ⟨fun _ _ => ⟨fun _ => rfl, fun z => absurd (by rw [eD]; omega) z⟩, fun y1 => absurd y1 (by omega)⟩) (fun z => absurd ⟨⟨by omega, q2⟩, yb, xj, xh⟩ z))
    · have s : ¬ (m0 20 x = -1 ∧ m0 21 x = -1) := s
      exact run ⟨by omega, q2⟩ yb (fun _ => ⟨xb, by rw [eD]; omega⟩) xh
  refine u_X11_ahead ?_
  refine g_if (fun q => ?_) (fun q => ?_)
  · refine g_C ?_
    refine g_if (fun q1 => ?_) (fun q1 => ?_)
    · refine u_X11_ahead_29 ?_
      refine g_C ?_
      exact mid 0 (Or.inl rfl) (fun z => absurd z (by decide)) (fun _ z => by have := z.1; omega)
    · refine ⟨hS.k0, ?_⟩
      refine zs_isHand11 hS hm (fun c1 => g_ifF (by decide) (g_C ?_)) (fun c1 => g_ifT rfl ?_)
      · exact mid 1 (Or.inr rfl) (fun _ => ⟨by omega, fun z => absurd z q, fun _ => by omega⟩) (fun z => absurd z (by decide))
      · refine u_X11_ahead_29 ?_
        refine g_C ?_
        exact mid 0 (Or.inl rfl) (fun z => absurd z (by decide)) (fun _ z => c1 (by have := z.2.2 (by omega); omega))
  · refine ⟨hS.k0, ?_⟩
    refine zs_isJug11 hS hm (fun c1 => ?_) (fun c1 => ?_)
    · exact mid 1 (Or.inr rfl) (fun _ => ⟨by omega, fun _ => by omega, fun z => absurd z (by omega)⟩) (fun z => absurd z (by decide))
    · exact mid 0 (Or.inl rfl) (fun z => absurd z (by decide)) (fun _ z => c1 (by have := z.2.1 (by omega); omega))
end
