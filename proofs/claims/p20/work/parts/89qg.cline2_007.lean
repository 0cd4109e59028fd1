theorem zn_readWant {X : Mm} {S : Sh} {m0 : Mm} {K : Int → Mm → Prop} {b : Int → Int} {n k : Int} {T : Int → Dd → Prop} {D : Dd} (hS : Shp S) (hm0 : Inv X S m0) (ht : TC X b n) (h14 : m0 1 4 = 0) (hp : m0 1 2 ≤ n) (lc : LC D m0) (l : Ld b n T 1 5 0 (m0 1 2) k D) (d0 : 2 ≤ D 0) (nf : D 6 < 6) (hf : ∀ M1 : Mm, Inv X S M1 → (∀ c p : Int, 336 ≤ c → M1 c p = m0 c p) → ¬ M1 1 4 = 0 → T (M1 1 4) dz → K 0 M1) (hk : ∀ (M1 : Mm) (D' : Dd), Inv X S M1 → (∀ c p : Int, 336 ≤ c → M1 c p = m0 c p) → LC D' M1 → 2 ≤ D' 0 → M1 1 4 = 0 → M1 1 2 ≤ n → Ld b n T 2 0 0 (M1 1 2) k D' → K 1 M1) : wp_X0_readWant S m0 31 K := by
  obtain ⟨⟨q0, q1, q2, q3, q4, q5, q6, q7⟩, lr, lh, lj, lt, lw, ls⟩ := id lc
  have c0 := hm0.f_32_0
  have c3 := hm0.f_32_3
  have c4 := hm0.f_32_4
  have c5 := hm0.f_32_5
  have c6 := hm0.f_32_6
  have c7 := hm0.f_32_7
  refine u_X0_readWant ?_
  refine ⟨hS.k31, ?_⟩
  refine zn_place 5 0 hS hm0 ht h14 hp l q0 rfl rfl (fun m8 hm8 f8 n8 t8 => ?_) (fun q1x v1 m1 hm1 f1 u1 g1 x1 xq1 n1 y1 ln1 _ => ?_)
  · refine g_C ?_
    refine g_ifF (by omega) ?_
    refine g_C ?_
    refine u_X0_readWant_24 ?_
    refine g_C ?_
    refine g_ifF (by omega) ?_
    refine g_C ?_
    refine u_X0_readWant_44 ?_
    refine g_C ?_
    refine g_ifF (by omega) ?_
    refine g_C ?_
    refine u_X0_readWant_64 ?_
    refine g_C ?_
    refine g_ifF (by omega) ?_
    refine g_C ?_
    exact ⟨by decide, hf m8 hm8 (fun c p z => by rw [f8 c p (by omega)]) n8 t8⟩
  obtain ⟨D1, eD1⟩ : ∃ z : Dd, z = ud D (dCl D 5 0) v1 := ⟨_, rfl⟩
  have ec1 : dCl D 5 0 = 93 + 4 * D 6 := by
    show 93 + 4 * D 6 + ((0 : Nat) : Int) = _
    omega
  rw [← eD1] at ln1
  rw [ec1] at eD1
  have gD1 : ∀ p : Int, ¬ p = 93 + 4 * D 6 → D1 p = D p := fun p z => by rw [eD1]; exact ud_ne z
  have xD1 : D1 (93 + 4 * D 6) = v1 := by rw [eD1]; exact ud_at _ _ _
  have dn1 : D1 6 = D 6 := gD1 6 (by omega)
  have l1 := ln1 (fun z => absurd z.1 (by decide)) (by decide)
  refine g_C ?_
  refine g_ifT (by omega) ?_
  refine g_getr 0 1 rfl hS.k31 hm1.f_31_0 (by decide) ?_
  refine g_C ?_
  refine g_C ?_
  refine ⟨hS.k1, ?_⟩
  refine zn_num 5 1 hS hm1 ht y1 n1 l1 (lo := 0) (hi := 99) rfl rfl (fun m8 hm8 f8 n8 t8 => ?_) (fun q2x v2 m2 hm2 f2 lo2 hi2 g2 x2 xq2 n2 y2 ln2 le2 _ => ?_)
  · refine u_X0_readWant_24 ?_
    refine g_C ?_
    refine g_ifF (by omega) ?_
    refine g_C ?_
    refine u_X0_readWant_44 ?_
    refine g_C ?_
    refine g_ifF (by omega) ?_
    refine g_C ?_
    refine u_X0_readWant_64 ?_
    refine g_C ?_
    refine g_ifF (by omega) ?_
    refine g_C ?_
    exact ⟨by decide, hf m8 hm8 (fun c p z => by rw [f8 c p (by omega), f1 c p (by omega)]) n8 t8⟩
  obtain ⟨D2, eD2⟩ : ∃ z : Dd, z = ud D1 (dCl D1 5 1) v2 := ⟨_, rfl⟩
  have ec2 : dCl D1 5 1 = 93 + 4 * D 6 + 1 := by
    show 93 + 4 * D1 6 + ((1 : Nat) : Int) = _
    omega
  rw [← eD2] at ln2 le2
  rw [ec2] at eD2
  have gD2 : ∀ p : Int, ¬ p = 93 + 4 * D 6 + 1 → D2 p = D1 p := fun p z => by rw [eD2]; exact ud_ne z
  have xD2 : D2 (93 + 4 * D 6 + 1) = v2 := by rw [eD2]; exact ud_at _ _ _
  have dn2 : D2 6 = D 6 := (gD2 6 (by omega)).trans dn1
  have xD1' : D2 (93 + 4 * D 6) = v1 := (gD2 _ (by omega)).trans xD1
  have l2 := ln2 (fun z => absurd z.1 (by decide)) (by decide)
  refine u_X0_readWant_24 ?_
  refine g_C ?_
  refine g_ifT (by omega) ?_
  refine g_getr 0 1 rfl hS.k31 hm2.f_31_0 (by decide) ?_
  refine g_C ?_
  refine ⟨hS.k1, ?_⟩
  refine zn_num 5 2 hS hm2 ht y2 n2 l2 (lo := v2) (hi := 99) (by show D2 (93 + 4 * D2 6 + 1) = _; rw [dn2]; exact xD2) rfl (fun m8 hm8 f8 n8 t8 => ?_) (fun q3x v3 m3 hm3 f3 lo3 hi3 g3 x3 xq3 n3 y3 ln3 le3 _ => ?_)
  · refine u_X0_readWant_44 ?_
    refine g_C ?_
    refine g_ifF (by omega) ?_
    refine g_C ?_
    refine u_X0_readWant_64 ?_
    refine g_C ?_
    refine g_ifF (by omega) ?_
    refine g_C ?_
    exact ⟨by decide, hf m8 hm8 (fun c p z => by rw [f8 c p (by omega), f2 c p (by omega), f1 c p (by omega)]) n8 t8⟩
  obtain ⟨D3, eD3⟩ : ∃ z : Dd, z = ud D2 (dCl D2 5 2) v3 := ⟨_, rfl⟩
  have ec3 : dCl D2 5 2 = 93 + 4 * D 6 + 2 := by
    show 93 + 4 * D2 6 + ((2 : Nat) : Int) = _
    omega
  rw [← eD3] at ln3 le3
  rw [ec3] at eD3
  have gD3 : ∀ p : Int, ¬ p = 93 + 4 * D 6 + 2 → D3 p = D2 p := fun p z => by rw [eD3]; exact ud_ne z
  have xD3 : D3 (93 + 4 * D 6 + 2) = v3 := by rw [eD3]; exact ud_at _ _ _
  have dn3 : D3 6 = D 6 := (gD3 6 (by omega)).trans dn2
  have xD1' : D3 (93 + 4 * D 6) = v1 := (gD3 _ (by omega)).trans xD1'
  have xD2' : D3 (93 + 4 * D 6 + 1) = v2 := (gD3 _ (by omega)).trans xD2
  have l3 := ln3 (fun z => absurd z.1 (by decide)) (by decide)
  refine u_X0_readWant_44 ?_
  refine g_C ?_
  refine g_ifT (by omega) ?_
  refine g_getr 0 1 rfl hS.k31 hm3.f_31_0 (by decide) ?_
  refine g_C ?_
  refine g_C ?_
  refine ⟨hS.k1, ?_⟩
  refine zn_num 5 3 hS hm3 ht y3 n3 l3 (lo := 1) (hi := 50) rfl rfl (fun m8 hm8 f8 n8 t8 => ?_) (fun q4x v4 m4 hm4 f4 lo4 hi4 g4 x4 xq4 n4 y4 ln4 le4 _ => ?_)
  · refine u_X0_readWant_64 ?_
    refine g_C ?_
    refine g_ifF (by omega) ?_
    refine g_C ?_
    exact ⟨by decide, hf m8 hm8 (fun c p z => by rw [f8 c p (by omega), f3 c p (by omega), f2 c p (by omega), f1 c p (by omega)]) n8 t8⟩
  obtain ⟨D4, eD4⟩ : ∃ z : Dd, z = ud D3 (dCl D3 5 3) v4 := ⟨_, rfl⟩
  have ec4 : dCl D3 5 3 = 93 + 4 * D 6 + 3 := by
    show 93 + 4 * D3 6 + ((3 : Nat) : Int) = _
    omega
  rw [← eD4] at ln4 le4
  rw [ec4] at eD4
  have gD4 : ∀ p : Int, ¬ p = 93 + 4 * D 6 + 3 → D4 p = D3 p := fun p z => by rw [eD4]; exact ud_ne z
  have xD4 : D4 (93 + 4 * D 6 + 3) = v4 := by rw [eD4]; exact ud_at _ _ _
  have dn4 : D4 6 = D 6 := (gD4 6 (by omega)).trans dn3
  have xD1' : D4 (93 + 4 * D 6) = v1 := (gD4 _ (by omega)).trans xD1'
  have xD2' : D4 (93 + 4 * D 6 + 1) = v2 := (gD4 _ (by omega)).trans xD2'
  have xD3' : D4 (93 + 4 * D 6 + 2) = v3 := (gD4 _ (by omega)).trans xD3
  have l4 := le4 (fun z => absurd z.1 (by decide)) rfl
  refine u_X0_readWant_64 ?_
  refine g_C ?_
  refine g_ifT (by omega) ?_
  refine g_getr 1 32 rfl hS.k31 hm4.f_31_1 (by decide) ?_
  refine g_getr 15 40 rfl hS.k32 hm4.f_32_15 (by decide) ?_
  refine g_getr 1 32 rfl hS.k31 hm4.f_31_1 (by decide) ?_
  refine g_getu 7 rfl hS.k32 (fun i5 ei5 => ?_)
  rw [f4 32 7 (by omega), f3 32 7 (by omega), f2 32 7 (by omega), f1 32 7 (by omega), q7] at ei5
  refine g_st hS.k40 hS.l40 (by omega) (by omega) (hm4.wa_40 (by omega) (by omega) (by omega) (by omega)) (fun m5 e5 hm5 => ?_)
  have f5 : ∀ c p : Int, ¬ (c = 40 ∧ p = i5) → m5 c p = m4 c p := fun c p q => (congrFun (congrFun e5 _) _).trans (up_ne q)
  have s5 : m5 40 i5 = v1 := (congrFun (congrFun e5 _) _).trans (up_at _ _ _ _)
  refine g_getr 1 32 rfl hS.k31 hm5.f_31_1 (by decide) ?_
  refine g_getr 16 41 rfl hS.k32 hm5.f_32_16 (by decide) ?_
  refine g_getr 1 32 rfl hS.k31 hm5.f_31_1 (by decide) ?_
  refine g_getu 7 rfl hS.k32 (fun i6 ei6 => ?_)
  rw [f5 32 7 (by omega), f4 32 7 (by omega), f3 32 7 (by omega), f2 32 7 (by omega), f1 32 7 (by omega), q7] at ei6
  refine g_st hS.k41 hS.l41 (by omega) (by omega) (hm5.wa_41 (by omega) (by omega) (by omega) (by omega)) (fun m6 e6 hm6 => ?_)
  have f6 : ∀ c p : Int, ¬ (c = 41 ∧ p = i6) → m6 c p = m5 c p := fun c p q => (congrFun (congrFun e6 _) _).trans (up_ne q)
  have s6 : m6 41 i6 = v2 := (congrFun (congrFun e6 _) _).trans (up_at _ _ _ _)
  refine g_getr 1 32 rfl hS.k31 hm6.f_31_1 (by decide) ?_
  refine g_getr 17 42 rfl hS.k32 hm6.f_32_17 (by decide) ?_
  refine g_getr 1 32 rfl hS.k31 hm6.f_31_1 (by decide) ?_
  refine g_getu 7 rfl hS.k32 (fun i7 ei7 => ?_)
  rw [f6 32 7 (by omega), f5 32 7 (by omega), f4 32 7 (by omega), f3 32 7 (by omega), f2 32 7 (by omega), f1 32 7 (by omega), q7] at ei7
  refine g_st hS.k42 hS.l42 (by omega) (by omega) (hm6.wa_42 (by omega) (by omega) (by omega) (by omega)) (fun m7 e7 hm7 => ?_)
  have f7 : ∀ c p : Int, ¬ (c = 42 ∧ p = i7) → m7 c p = m6 c p := fun c p q => (congrFun (congrFun e7 _) _).trans (up_ne q)
  have s7 : m7 42 i7 = v3 := (congrFun (congrFun e7 _) _).trans (up_at _ _ _ _)
  refine g_getr 1 32 rfl hS.k31 hm7.f_31_1 (by decide) ?_
  refine g_getr 18 43 rfl hS.k32 hm7.f_32_18 (by decide) ?_
  refine g_getr 1 32 rfl hS.k31 hm7.f_31_1 (by decide) ?_
  refine g_getu 7 rfl hS.k32 (fun i8 ei8 => ?_)
  rw [f7 32 7 (by omega), f6 32 7 (by omega), f5 32 7 (by omega), f4 32 7 (by omega), f3 32 7 (by omega), f2 32 7 (by omega), f1 32 7 (by omega), q7] at ei8
  refine g_st hS.k43 hS.l43 (by omega) (by omega) (hm7.wa_43 (by omega) (by omega) (by omega) (by omega)) (fun m8 e8 hm8 => ?_)
  have f8 : ∀ c p : Int, ¬ (c = 43 ∧ p = i8) → m8 c p = m7 c p := fun c p q => (congrFun (congrFun e8 _) _).trans (up_ne q)
  have s8 : m8 43 i8 = v4 := (congrFun (congrFun e8 _) _).trans (up_at _ _ _ _)
  refine g_getr 1 32 rfl hS.k31 hm8.f_31_1 (by decide) ?_
  refine g_getu 7 rfl hS.k32 (fun i9 ei9 => ?_)
  rw [f8 32 7 (by omega), f7 32 7 (by omega), f6 32 7 (by omega), f5 32 7 (by omega), f4 32 7 (by omega), f3 32 7 (by omega), f2 32 7 (by omega), f1 32 7 (by omega), q7] at ei9
  refine g_C ?_
  refine g_A (by omega) (by omega) ?_
  refine g_put 7 rfl hS.k32 (hm8.w_32_7 (by omega) (by omega)) (fun m9 e9 hm9 => ?_)
  have f9 : ∀ c p : Int, ¬ (c = 32 ∧ p = 7) → m9 c p = m8 c p := fun c p q => (congrFun (congrFun e9 _) _).trans (up_ne q)
  have s9 : m9 32 7 = i9 + 1 := (congrFun (congrFun e9 _) _).trans (up_at _ _ _ _)
  have F := fr_readWant f1 f2 f3 f4 f5 f6 f7 f8 f9 ei5 ei6 ei7 ei8
  obtain ⟨Dz, eDz⟩ : ∃ z : Dd, z = dFin D4 5 := ⟨_, rfl⟩
  rw [← eDz] at l4
  have eF : Dz = ud (ud D4 (51 + D4 6) (-1)) 6 (D4 6 + 1) := eDz
  rw [dn4] at eF
  have gz : ∀ p : Int, ¬ p = 6 → ¬ p = 51 + D 6 → Dz p = D4 p := fun p z0 z1 => by rw [eF, ud_ne z0, ud_ne z1]
  have xz : Dz 6 = D 6 + 1 := by rw [eF]; exact ud_at _ _ _
  have e12 : m9 1 2 = m4 1 2 := by rw [f9 1 2 (by omega), f8 1 2 (by omega), f7 1 2 (by omega), f6 1 2 (by omega), f5 1 2 (by omega)]
  have e14 : m9 1 4 = 0 := by rw [f9 1 4 (by omega), f8 1 4 (by omega), f7 1 4 (by omega), f6 1 4 (by omega), f5 1 4 (by omega)]; exact y4
  rw [← e12] at l4
  have S0 : m9 40 (D 6) = v1 := by rw [f9 40 _ (by omega), f8 40 _ (by omega), f7 40 _ (by omega), f6 40 _ (by omega), ← ei5]; exact s5
  have Z0 : Dz (93 + 4 * D 6) = v1 := by rw [gz _ (by omega) (by omega), gD4 _ (by omega), gD3 _ (by omega), gD2 _ (by omega)]; exact xD1
  have S1 : m9 41 (D 6) = v2 := by rw [f9 41 _ (by omega), f8 41 _ (by omega), f7 41 _ (by omega), ← ei6]; exact s6
  have Z1 : Dz (93 + 4 * D 6 + 1) = v2 := by rw [gz _ (by omega) (by omega), gD4 _ (by omega), gD3 _ (by omega)]; exact xD2
  have S2 : m9 42 (D 6) = v3 := by rw [f9 42 _ (by omega), f8 42 _ (by omega), ← ei7]; exact s7
  have Z2 : Dz (93 + 4 * D 6 + 2) = v3 := by rw [gz _ (by omega) (by omega), gD4 _ (by omega)]; exact xD3
  have S3 : m9 43 (D 6) = v4 := by rw [f9 43 _ (by omega), ← ei8]; exact s8
  have Z3 : Dz (93 + 4 * D 6 + 3) = v4 := by rw [gz _ (by omega) (by omega)]; exact xD4
  have G := gg_readWant gD1 gD2 gD3 gD4 gz
  have lz : LC Dz m9 := LC.readWant lc (by omega) (by omega) (by omega) (by omega) (by omega) nf F (by rw [s9]; omega) S0 S1 S2 S3 G xz Z0 Z1 Z2 Z3
  have dz0 : 2 ≤ Dz 0 := by rw [G 0 (by omega)]; exact d0
  have nz : m9 1 2 ≤ n := by omega
  exact g_C ⟨by decide, hk m9 Dz hm9 (fun c p z => F c p (by omega)) lz dz0 e14 nz l4⟩
