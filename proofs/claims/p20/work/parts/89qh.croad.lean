theorem zn_readDairy {X : Mm} {S : Sh} {m0 : Mm} {K : Int → Mm → Prop} {b : Int → Int} {n k : Int} {T : Int → Dd → Prop} {D : Dd} (hS : Shp S) (hm0 : Inv X S m0) (ht : TC X b n) (h14 : m0 1 4 = 0) (hp : m0 1 2 ≤ n) (lc : LC D m0) (l : Ld b n T 1 0 0 (m0 1 2) k D) (z3 : D 3 = 0) (z4 : D 4 = 0) (z5 : D 5 = 0) (z9 : D 9 = 0) (z6 : D 6 = 0) (hf : ∀ M1 : Mm, Inv X S M1 → (∀ c p : Int, 336 ≤ c → M1 c p = m0 c p) → ¬ M1 1 4 = 0 → T (M1 1 4) dz → K 0 M1) (hk : ∀ (M1 : Mm) (D' : Dd), Inv X S M1 → (∀ c p : Int, 336 ≤ c → M1 c p = m0 c p) → LC D' M1 → 2 ≤ D' 0 → M1 1 4 = 0 → M1 1 2 ≤ n → Ld b n T 2 0 0 (M1 1 2) k D' → K 1 M1) : wp_X0_readDairy S m0 31 K := by
  obtain ⟨⟨q0, q1, q2, q3, q4, q5, q6, q7⟩, lr, lh, lj, lt, lw, ls⟩ := lc
  refine u_X0_readDairy ?_
  refine g_getr 0 1 rfl hS.k31 hm0.f_31_0 (by decide) ?_
  refine g_C ?_
  refine g_C ?_
  refine ⟨hS.k1, ?_⟩
  refine zn_num 0 0 hS hm0 ht h14 hp l (lo := 2) (hi := 6) rfl rfl (fun m8 hm8 f8 n8 t8 => ?_) (fun q1x v1 m1 hm1 f1 lo1 hi1 g1 x1 xq1 n1 y1 ln1 _ _ => ?_)
  · refine g_C ?_
    refine g_ifF (by omega) ?_
    refine g_C ?_
    refine u_X0_readDairy_30 ?_
    refine g_C ?_
    refine g_ifF (by omega) ?_
    refine g_C ?_
    refine u_X0_readDairy_51 ?_
    refine g_C ?_
    refine g_ifF (by omega) ?_
    refine g_C ?_
    exact ⟨by decide, hf m8 hm8 (fun c p z => by rw [f8 c p (by omega)]) n8 t8⟩
  have l1 : Ld b n T 1 0 1 (m1 1 2) k (ud D 200 v1) := ln1 (fun z => absurd z.1 (by decide)) (by decide)
  refine g_C ?_
  refine g_ifT (by omega) ?_
  refine g_getr 0 1 rfl hS.k31 hm1.f_31_0 (by decide) ?_
  refine g_C ?_
  refine g_C ?_
  refine ⟨hS.k1, ?_⟩
  refine zn_num 0 1 hS hm1 ht y1 n1 l1 (lo := 0) (hi := 9) rfl rfl (fun m8 hm8 f8 n8 t8 => ?_) (fun q2x v2 m2 hm2 f2 lo2 hi2 g2 x2 xq2 n2 y2 ln2 _ _ => ?_)
  · refine u_X0_readDairy_30 ?_
    refine g_C ?_
    refine g_ifF (by omega) ?_
    refine g_C ?_
    refine u_X0_readDairy_51 ?_
    refine g_C ?_
    refine g_ifF (by omega) ?_
    refine g_C ?_
    exact ⟨by decide, hf m8 hm8 (fun c p z => by rw [f8 c p (by omega), f1 c p (by omega)]) n8 t8⟩
  have l2 : Ld b n T 1 0 2 (m2 1 2) k (ud (ud D 200 v1) 1 v2) := ln2 (fun z => absurd z.1 (by decide)) (by decide)
  refine u_X0_readDairy_30 ?_
  refine g_C ?_
  refine g_ifT (by omega) ?_
  refine g_getr 0 1 rfl hS.k31 hm2.f_31_0 (by decide) ?_
  refine g_C ?_
  refine g_C ?_
  refine ⟨hS.k1, ?_⟩
  refine zn_num 0 2 hS hm2 ht y2 n2 l2 (lo := 10) (hi := 99) rfl rfl (fun m8 hm8 f8 n8 t8 => ?_) (fun q3x v3 m3 hm3 f3 lo3 hi3 g3 x3 xq3 n3 y3 _ le3 _ => ?_)
  · refine u_X0_readDairy_51 ?_
    refine g_C ?_
    refine g_ifF (by omega) ?_
    refine g_C ?_
    exact ⟨by decide, hf m8 hm8 (fun c p z => by rw [f8 c p (by omega), f2 c p (by omega), f1 c p (by omega)]) n8 t8⟩
  have l3 : Ld b n T 2 0 0 (m3 1 2) k (dFin (ud (ud (ud D 200 v1) 1 v2) 2 v3) 0) := le3 (fun z => absurd z.1 (by decide)) rfl
  have e200 : ud (ud (ud D 200 v1) 1 v2) 2 v3 200 = v1 := by rw [ud_ne (by omega), ud_ne (by omega), ud_at]
  obtain ⟨Dz, eDz⟩ : ∃ z : Dd, z = dFin (ud (ud (ud D 200 v1) 1 v2) 2 v3) 0 := ⟨_, rfl⟩
  rw [← eDz] at l3
  have eF : Dz = ud (ud (ud (ud D 200 v1) 1 v2) 2 v3) 0 (ud (ud (ud D 200 v1) 1 v2) 2 v3 200) := eDz
  rw [e200] at eF
  have G : ∀ p : Int, ¬ p = 0 → ¬ p = 1 → ¬ p = 2 → ¬ p = 200 → Dz p = D p := fun p a1 a2 a3 a4 => by rw [eF, ud_ne (by omega), ud_ne (by omega), ud_ne (by omega), ud_ne (by omega)]
  have G0 : Dz 0 = v1 := by rw [eF]; exact ud_at _ _ _
  have G1 : Dz 1 = v2 := by rw [eF, ud_ne (by omega), ud_ne (by omega)]; exact ud_at _ _ _
  have G2 : Dz 2 = v3 := by rw [eF, ud_ne (by omega)]; exact ud_at _ _ _
  refine u_X0_readDairy_51 ?_
  refine g_C ?_
  refine g_ifT (by omega) ?_
  refine g_getr 1 32 rfl hS.k31 hm3.f_31_1 (by decide) ?_
  refine g_put 0 rfl hS.k32 (hm3.w_32_0 (by omega) (by omega)) (fun m4 e4 hm4 => ?_)
  refine g_getr 1 32 rfl hS.k31 hm4.f_31_1 (by decide) ?_
  refine g_put 1 rfl hS.k32 (hm4.w_32_1 (by omega) (by omega)) (fun m5 e5 hm5 => ?_)
  refine g_getr 1 32 rfl hS.k31 hm5.f_31_1 (by decide) ?_
  refine g_put 2 rfl hS.k32 (hm5.w_32_2 (by omega) (by omega)) (fun m6 e6 hm6 => ?_)
  have f4 : ∀ c p : Int, ¬ (c = 32 ∧ p = 0) → m4 c p = m3 c p := fun c p q => (congrFun (congrFun e4 _) _).trans (up_ne q)
  have s4 : m4 32 0 = v1 := (congrFun (congrFun e4 _) _).trans (up_at _ _ _ _)
  have f5 : ∀ c p : Int, ¬ (c = 32 ∧ p = 1) → m5 c p = m4 c p := fun c p q => (congrFun (congrFun e5 _) _).trans (up_ne q)
  have s5 : m5 32 1 = v2 := (congrFun (congrFun e5 _) _).trans (up_at _ _ _ _)
  have f6 : ∀ c p : Int, ¬ (c = 32 ∧ p = 2) → m6 c p = m5 c p := fun c p q => (congrFun (congrFun e6 _) _).trans (up_ne q)
  have s6 : m6 32 2 = v3 := (congrFun (congrFun e6 _) _).trans (up_at _ _ _ _)
  have F : ∀ c p : Int, ¬ (c = 1 ∧ 2 ≤ p ∧ p ≤ 3) → ¬ (c = 32 ∧ (p = 0 ∨ p = 1 ∨ p = 2)) → m6 c p = m0 c p := fun c p a1 a2 => by rw [f6 c p (by omega), f5 c p (by omega), f4 c p (by omega), f3 c p (by omega), f2 c p (by omega), f1 c p (by omega)]
  have e12 : m6 1 2 = m3 1 2 := by rw [f6 1 2 (by omega), f5 1 2 (by omega), f4 1 2 (by omega)]
  have e14 : m6 1 4 = 0 := by rw [f6 1 4 (by omega), f5 1 4 (by omega), f4 1 4 (by omega)]; exact y3
  rw [← e12] at l3
  refine g_C ⟨by decide, hk m6 Dz hm6 (fun c p z => F c p (by omega) (by omega)) ⟨?_, ?_, ?_, ?_, ?_, ?_, ?_⟩ (by rw [G0]; exact lo1) e14 (by omega) l3⟩
  · refine ⟨?_, ?_, ?_, ?_, ?_, ?_, ?_, ?_⟩
    · rw [f6 32 0 (by omega), f5 32 0 (by omega), s4, G0]
    · rw [f6 32 1 (by omega), s5, G1]
    · rw [s6, G2]
    · rw [F 32 3 (by omega) (by omega), G 3 (by omega) (by omega) (by omega) (by omega)]; exact q3
    · rw [F 32 4 (by omega) (by omega), G 4 (by omega) (by omega) (by omega) (by omega)]; exact q4
    · rw [F 32 5 (by omega) (by omega), G 5 (by omega) (by omega) (by omega) (by omega)]; exact q5
    · rw [F 32 6 (by omega) (by omega), G 9 (by omega) (by omega) (by omega) (by omega)]; exact q6
    · rw [F 32 7 (by omega) (by omega), G 6 (by omega) (by omega) (by omega) (by omega)]; exact q7
  · exact lr.keep (by omega) (fun p => F 33 p (by omega) (by omega)) (fun p z => G p (by omega) (by omega) (by omega) (by omega))
  · exact lh.keep (by omega) (fun c p z => F c p (by omega) (by omega)) (fun p z => G p (by omega) (by omega) (by omega) (by omega))
  · exact lj.keep (by omega) (fun c p z => F c p (by omega) (by omega)) (fun p z => G p (by omega) (by omega) (by omega) (by omega))
  · exact lt.keep (by omega) (fun c p z => F c p (by omega) (by omega)) (fun p z => G p (by omega) (by omega) (by omega) (by omega))
  · exact lw.keep (by omega) (fun c p z => F c p (by omega) (by omega)) (fun p z => G p (by omega) (by omega) (by omega) (by omega))
  · exact ls.keep (fun c p z => F c p (by omega) (by omega)) (fun i i0 i1 => F 48 i (by omega) (by omega)) (by rw [G 5 (by omega) (by omega) (by omega) (by omega)]; exact Int.le_refl _)
theorem zn_readRoad {X : Mm} {S : Sh} {m0 : Mm} {K : Int → Mm → Prop} {b : Int → Int} {n k : Int} {T : Int → Dd → Prop} {D : Dd} (hS : Shp S) (hm0 : Inv X S m0) (ht : TC X b n) (h14 : m0 1 4 = 0) (hp : m0 1 2 ≤ n) (lc : LC D m0) (l : Ld b n T 1 1 0 (m0 1 2) k D) (d0 : 2 ≤ D 0) (nf : D 3 < 8) (hf : ∀ M1 : Mm, Inv X S M1 → (∀ c p : Int, 336 ≤ c → M1 c p = m0 c p) → ¬ M1 1 4 = 0 → T (M1 1 4) dz → K 0 M1) (hk : ∀ (M1 : Mm) (D' : Dd), Inv X S M1 → (∀ c p : Int, 336 ≤ c → M1 c p = m0 c p) → LC D' M1 → 2 ≤ D' 0 → M1 1 4 = 0 → M1 1 2 ≤ n → Ld b n T 2 0 0 (M1 1 2) k D' → K 1 M1) : wp_X0_readRoad S m0 31 K := by
  obtain ⟨⟨q0, q1, q2, q3, q4, q5, q6, q7⟩, lr, lh, lj, lt, lw, ls⟩ := lc
  have c0 := hm0.f_32_0
  have c3 := hm0.f_32_3
  have c4 := hm0.f_32_4
  have c5 := hm0.f_32_5
  have c6 := hm0.f_32_6
  have c7 := hm0.f_32_7
  refine u_X0_readRoad ?_
  refine ⟨hS.k31, ?_⟩
  refine zn_place 1 0 hS hm0 ht h14 hp l q0 rfl rfl (fun m8 hm8 f8 n8 t8 => ?_) (fun q1x v1 m1 hm1 f1 u1 g1 x1 xq1 n1 y1 ln1 _ => ?_)
  · refine g_C ?_
    refine g_ifF (by omega) ?_
    refine g_C ?_
    refine u_X0_readRoad_18 ?_
    refine g_C ?_
    refine g_ifF (by omega) ?_
    refine g_C ?_
    exact ⟨by decide, hf m8 hm8 (fun c p z => by rw [f8 c p (by omega)]) n8 t8⟩
  have ec1 : dCl D 1 0 = 57 + 3 * D 3 := by
    show 57 + 3 * D 3 + ((0 : Nat) : Int) = _
    omega
  have l1 := ln1 (fun z => absurd z.2.1 (by decide)) (by decide)
  rw [ec1] at l1
  obtain ⟨D1, eD1⟩ : ∃ z : Dd, z = ud D (57 + 3 * D 3) v1 := ⟨_, rfl⟩
  rw [← eD1] at l1
  have gD1 : ∀ p : Int, ¬ p = 57 + 3 * D 3 → D1 p = D p := fun p z => by rw [eD1]; exact ud_ne z
  have xD1 : D1 (57 + 3 * D 3) = v1 := by rw [eD1]; exact ud_at _ _ _
  have dn1 : D1 3 = D 3 := gD1 3 (by omega)
  have d01 : D1 0 = D 0 := gD1 0 (by omega)
  refine g_C ?_
  refine g_ifT (by omega) ?_
  refine ⟨hS.k31, ?_⟩
  refine zn_place 1 1 hS hm1 ht y1 n1 l1 (by rw [f1 32 0 (by omega), d01]; exact q0) rfl rfl (fun m8 hm8 f8 n8 t8 => ?_) (fun q2x v2 m2 hm2 f2 u2 g2 x2 xq2 n2 y2 ln2 bd2 => ?_)
  · refine u_X0_readRoad_18 ?_
    refine g_C ?_
    refine g_ifF (by omega) ?_
    refine g_C ?_
    exact ⟨by decide, hf m8 hm8 (fun c p z => by rw [f8 c p (by omega), f1 c p (by omega)]) n8 t8⟩
  have b1 : v1 = v2 → dBad D1 1 1 v2 := fun z => ⟨rfl, rfl, Or.inl (by rw [dn1, xD1]; exact z)⟩
  have rk : Rt D1 v1 v2 ↔ Rt D v1 v2 := by rw [eD1]; exact Rt_ud (by omega) (by omega)
  have b2 : Rt D v1 v2 → dBad D1 1 1 v2 := fun z => ⟨rfl, rfl, Or.inr (by rw [dn1, xD1]; exact rk.mpr z)⟩
  have b3 : ¬ v1 = v2 → ¬ Rt D v1 v2 → ¬ dBad D1 1 1 v2 := fun z1 z2 z => by
    rcases z.2.2 with y | y
    · rw [dn1, xD1] at y; exact z1 y
    · rw [dn1, xD1] at y; exact z2 (rk.mp y)
  have bad : dBad D1 1 1 v2 → wp_X0_readRoad_43 S K 31 m2 := by
    intro z
    refine u_X0_readRoad_43 ?_
    refine g_getr 0 1 rfl hS.k31 hm2.f_31_0 (by decide) ?_
    refine g_C ?_
    refine ⟨hS.k1, ?_⟩
    refine ze_refuse hS hm2 (by decide) (by decide) (fun m9 hm9 f9 y9 => ?_)
    have e9 : m9 1 4 = 2 + 8 * q2x := by omega
    refine ⟨by decide, hf m9 hm9 (fun c p z => by rw [f9 c p (by omega), f2 c p (by omega), f1 c p (by omega)]) (by omega) ?_⟩
    rw [e9]
    exact bd2 z
  refine u_X0_readRoad_18 ?_
  refine g_C ?_
  refine g_ifT (by omega) ?_
  refine g_if (fun w => bad (b1 (by omega))) (fun w => ?_)
  have hr := lr v1 v2 g1 (by omega) g2 (by omega)
  have e33 : ∀ p : Int, m2 33 p = m0 33 p := fun p => (f2 33 p (by omega)).trans (f1 33 p (by omega))
  refine g_getr 1 32 rfl hS.k31 hm2.f_31_1 (by decide) ?_
  refine ⟨hS.k32, ?_⟩
  refine u_X8_roadHours ?_
  refine g_getr 8 33 rfl hS.k32 hm2.f_32_8 (by decide) ?_
  refine u_X8_pair ?_
  refine g_C ?_
  refine g_M (by omega) (by omega) ?_
  refine g_A (by omega) (by omega) ?_
  refine g_ldu hS.k33 hS.l33 (by omega) (by omega) (fun v ev => ?_)
  rw [e33, show v1 * 6 + v2 = 6 * v1 + v2 by omega] at ev
  refine g_if (fun w2 => ?_) (fun w2 => bad (b2 ?_))
  rotate_left
  · rcases hr with ⟨a1, a2⟩ | ⟨a1, a2⟩
    · exfalso; omega
    · obtain ⟨kk, k0, k1, k2, k3⟩ := a2
      exact ⟨kk, k0, k1, k2⟩
  have nr : ¬ Rt D v1 v2 := by
    rcases hr with ⟨a1, a2⟩ | ⟨a1, a2⟩
    · exact a2
    · exfalso; omega
  have ec2 : dCl D1 1 1 = 57 + 3 * D 3 + 1 := by
    show 57 + 3 * D1 3 + ((1 : Nat) : Int) = _
    omega
  have l2 := ln2 (b3 (by omega) nr) (by decide)
  rw [ec2] at l2
  obtain ⟨D2, eD2⟩ : ∃ z : Dd, z = ud D1 (57 + 3 * D 3 + 1) v2 := ⟨_, rfl⟩
  rw [← eD2] at l2
  have gD2 : ∀ p : Int, ¬ p = 57 + 3 * D 3 + 1 → D2 p = D1 p := fun p z => by rw [eD2]; exact ud_ne z
  have xD2 : D2 (57 + 3 * D 3 + 1) = v2 := by rw [eD2]; exact ud_at _ _ _
  have dn2 : D2 3 = D 3 := (gD2 3 (by omega)).trans dn1
  refine g_getr 0 1 rfl hS.k31 hm2.f_31_0 (by decide) ?_
  refine g_C ?_
  refine g_C ?_
  refine ⟨hS.k1, ?_⟩
  refine zn_num 1 2 hS hm2 ht y2 n2 l2 (lo := 1) (hi := 5) rfl rfl (fun m8 hm8 f8 n8 t8 => ?_) (fun q3x v3 m3 hm3 f3 lo3 hi3 g3 x3 xq3 n3 y3 _ le3 _ => ?_)
  · refine g_C ?_
    refine g_ifF (by omega) ?_
    refine g_C ?_
    exact ⟨by decide, hf m8 hm8 (fun c p z => by rw [f8 c p (by omega), f2 c p (by omega), f1 c p (by omega)]) n8 t8⟩
  have ec3 : dCl D2 1 2 = 57 + 3 * D 3 + 2 := by
    show 57 + 3 * D2 3 + ((2 : Nat) : Int) = _
    omega
  have l3 := le3 (fun z => absurd z.2.1 (by decide)) rfl
  rw [ec3] at l3
  obtain ⟨D3, eD3⟩ : ∃ z : Dd, z = ud D2 (57 + 3 * D 3 + 2) v3 := ⟨_, rfl⟩
  rw [← eD3] at l3
  have gD3 : ∀ p : Int, ¬ p = 57 + 3 * D 3 + 2 → D3 p = D2 p := fun p z => by rw [eD3]; exact ud_ne z
  have xD3 : D3 (57 + 3 * D 3 + 2) = v3 := by rw [eD3]; exact ud_at _ _ _
  have dn3 : D3 3 = D 3 := (gD3 3 (by omega)).trans dn2
  obtain ⟨Dz, eDz⟩ : ∃ z : Dd, z = dFin D3 1 := ⟨_, rfl⟩
  rw [← eDz] at l3
  have eF : Dz = ud D3 3 (D3 3 + 1) := eDz
  rw [dn3] at eF
  have gz : ∀ p : Int, ¬ p = 3 → Dz p = D3 p := fun p z => by rw [eF, ud_ne z]
  have xz : Dz 3 = D 3 + 1 := by rw [eF]; exact ud_at _ _ _
  have xa : Dz (57 + 3 * D 3) = v1 := by rw [gz _ (by omega), gD3 _ (by omega), gD2 _ (by omega)]; exact xD1
  have xb : Dz (57 + 3 * D 3 + 1) = v2 := by rw [gz _ (by omega), gD3 _ (by omega)]; exact xD2
  have xc : Dz (57 + 3 * D 3 + 2) = v3 := by rw [gz _ (by omega)]; exact xD3
  have G : ∀ p : Int, ¬ p = 3 → ¬ (57 + 3 * D 3 ≤ p ∧ p ≤ 57 + 3 * D 3 + 2) → Dz p = D p := fun p a1 a2 => by rw [gz p a1, gD3 p (by omega), gD2 p (by omega), gD1 p (by omega)]
  refine g_C ?_
  refine g_ifT (by omega) ?_
  refine g_getr 1 32 rfl hS.k31 hm3.f_31_1 (by decide) ?_
  refine ⟨hS.k32, ?_⟩
  refine u_X8_addRoad ?_
  refine g_getr 8 33 rfl hS.k32 hm3.f_32_8 (by decide) ?_
  refine u_X8_pair ?_
  refine g_C ?_
  refine g_M (by omega) (by omega) ?_
  refine g_A (by omega) (by omega) ?_
  refine g_st hS.k33 hS.l33 (by omega) (by omega) (hm3.wa_33 (by omega) (by omega) (by omega) (by omega)) (fun m4 e4 hm4 => ?_)
  refine g_getr 8 33 rfl hS.k32 hm4.f_32_8 (by decide) ?_
  refine u_X8_pair ?_
  refine g_C ?_
  refine g_M (by omega) (by omega) ?_
  refine g_A (by omega) (by omega) ?_
  refine g_st hS.k33 hS.l33 (by omega) (by omega) (hm4.wa_33 (by omega) (by omega) (by omega) (by omega)) (fun m5 e5 hm5 => ?_)
  have f4 : ∀ c p : Int, ¬ (c = 33 ∧ p = v1 * 6 + v2) → m4 c p = m3 c p := fun c p q => (congrFun (congrFun e4 _) _).trans (up_ne q)
  have s4 : m4 33 (v1 * 6 + v2) = v3 := (congrFun (congrFun e4 _) _).trans (up_at _ _ _ _)
  have f5 : ∀ c p : Int, ¬ (c = 33 ∧ p = v2 * 6 + v1) → m5 c p = m4 c p := fun c p q => (congrFun (congrFun e5 _) _).trans (up_ne q)
  have s5 : m5 33 (v2 * 6 + v1) = v3 := (congrFun (congrFun e5 _) _).trans (up_at _ _ _ _)
  refine g_getu 3 rfl hS.k32 (fun i6 ei6 => ?_)
  rw [f5 32 3 (by omega), f4 32 3 (by omega), f3 32 3 (by omega), f2 32 3 (by omega), f1 32 3 (by omega), q3] at ei6
  refine g_C ?_
  refine g_A (by omega) (by omega) ?_
  refine g_put 3 rfl hS.k32 (hm5.w_32_3 (by omega) (by omega)) (fun m6 e6 hm6 => ?_)
  have f6 : ∀ c p : Int, ¬ (c = 32 ∧ p = 3) → m6 c p = m5 c p := fun c p q => (congrFun (congrFun e6 _) _).trans (up_ne q)
  have s6 : m6 32 3 = i6 + 1 := (congrFun (congrFun e6 _) _).trans (up_at _ _ _ _)
  have F : ∀ c p : Int, ¬ (c = 1 ∧ 2 ≤ p ∧ p ≤ 3) → ¬ (c = 32 ∧ p = 3) → ¬ c = 33 → m6 c p = m0 c p := fun c p a1 a2 a3 => by rw [f6 c p a2, f5 c p (by omega), f4 c p (by omega), f3 c p a1, f2 c p a1, f1 c p a1]
  have F33 : ∀ p : Int, ¬ p = v1 * 6 + v2 → ¬ p = v2 * 6 + v1 → m6 33 p = m0 33 p := fun p a1 a2 => by rw [f6 33 p (by omega), f5 33 p (by omega), f4 33 p (by omega), f3 33 p (by omega), e33]
  have t1 : m6 33 (6 * v1 + v2) = v3 := by
    rw [f6 33 _ (by omega), show 6 * v1 + v2 = v1 * 6 + v2 by omega, f5 33 _ (by omega)]
    exact s4
  have t2 : m6 33 (6 * v2 + v1) = v3 := by
    rw [f6 33 _ (by omega), show 6 * v2 + v1 = v2 * 6 + v1 by omega]
    exact s5
  have e12 : m6 1 2 = m3 1 2 := by rw [f6 1 2 (by omega), f5 1 2 (by omega), f4 1 2 (by omega)]
  have e14 : m6 1 4 = 0 := by rw [f6 1 4 (by omega), f5 1 4 (by omega), f4 1 4 (by omega)]; exact y3
  rw [← e12] at l3
  refine g_C ⟨by decide, hk m6 Dz hm6 (fun c p z => F c p (by omega) (by omega) (by omega)) ⟨?_, ?_, ?_, ?_, ?_, ?_, ?_⟩ (by rw [G 0 (by omega) (by omega)]; exact d0) e14 (by omega) l3⟩
  · refine ⟨?_, ?_, ?_, ?_, ?_, ?_, ?_, ?_⟩
    · rw [F 32 0 (by omega) (by omega) (by omega), G 0 (by omega) (by omega)]; exact q0
    · rw [F 32 1 (by omega) (by omega) (by omega), G 1 (by omega) (by omega)]; exact q1
    · rw [F 32 2 (by omega) (by omega) (by omega), G 2 (by omega) (by omega)]; exact q2
    · rw [s6, xz]; omega
    · rw [F 32 4 (by omega) (by omega) (by omega), G 4 (by omega) (by omega)]; exact q4
    · rw [F 32 5 (by omega) (by omega) (by omega), G 5 (by omega) (by omega)]; exact q5
    · rw [F 32 6 (by omega) (by omega) (by omega), G 9 (by omega) (by omega)]; exact q6
    · rw [F 32 7 (by omega) (by omega) (by omega), G 6 (by omega) (by omega)]; exact q7
  · intro a c a0 a1 c0' c1'
    by_cases ea : a = v1 ∧ c = v2
    · refine Or.inr ⟨by rw [ea.1, ea.2, t1]; omega, D 3, by omega, by omega, Or.inl ⟨by rw [xa]; exact ea.1.symm, by rw [xb]; exact ea.2.symm⟩, by rw [ea.1, ea.2, t1, xc]⟩
    · by_cases eb : a = v2 ∧ c = v1
      · refine Or.inr ⟨by rw [eb.1, eb.2, t2]; omega, D 3, by omega, by omega, Or.inr ⟨by rw [xa]; exact eb.2.symm, by rw [xb]; exact eb.1.symm⟩, by rw [eb.1, eb.2, t2, xc]⟩
      · rw [F33 _ (by omega) (by omega)]
        rcases lr a c a0 a1 c0' c1' with ⟨h1, h2⟩ | ⟨h1, kk, k0, k1, h2, h3⟩
        · refine Or.inl ⟨h1, fun z => h2 ?_⟩
          obtain ⟨kk, k0, k1, hz⟩ := z
          by_cases e : kk = D 3
          · rw [e, xa, xb] at hz
            exfalso; omega
          · rw [G _ (by omega) (by omega), G _ (by omega) (by omega)] at hz
            exact ⟨kk, k0, by omega, hz⟩
        · refine Or.inr ⟨h1, kk, k0, by omega, ?_, ?_⟩
          · rw [G _ (by omega) (by omega), G _ (by omega) (by omega)]; exact h2
          · rw [G _ (by omega) (by omega)]; exact h3
  · exact lh.keep (by omega) (fun c p z => F c p (by omega) (by omega) (by omega)) (fun p z => G p (by omega) (by omega))
  · exact lj.keep (by omega) (fun c p z => F c p (by omega) (by omega) (by omega)) (fun p z => G p (by omega) (by omega))
  · exact lt.keep (by omega) (fun c p z => F c p (by omega) (by omega) (by omega)) (fun p z => G p (by omega) (by omega))
  · exact lw.keep (by omega) (fun c p z => F c p (by omega) (by omega) (by omega)) (fun p z => G p (by omega) (by omega))
  · exact ls.keep (fun c p z => F c p (by omega) (by omega) (by omega)) (fun i i0 i1 => F 48 i (by omega) (by omega) (by omega)) (by rw [G 5 (by omega) (by omega)]; exact Int.le_refl _)
