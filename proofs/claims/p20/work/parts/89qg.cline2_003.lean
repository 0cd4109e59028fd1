theorem zn_readHeat {X : Mm} {S : Sh} {m0 : Mm} {K : Int → Mm → Prop} {b : Int → Int} {n k : Int} {T : Int → Dd → Prop} {D : Dd} (hS : Shp S) (hm0 : Inv X S m0) (ht : TC X b n) (h14 : m0 1 4 = 0) (hp : m0 1 2 ≤ n) (lc : LC D m0) (l : Ld b n T 1 4 0 (m0 1 2) k D) (d0 : 2 ≤ D 0) (nf : D 9 < 4) (hf : ∀ M1 : Mm, Inv X S M1 → (∀ c p : Int, 336 ≤ c → M1 c p = m0 c p) → ¬ M1 1 4 = 0 → T (M1 1 4) dz → K 0 M1) (hk : ∀ (M1 : Mm) (D' : Dd), Inv X S M1 → (∀ c p : Int, 336 ≤ c → M1 c p = m0 c p) → LC D' M1 → 2 ≤ D' 0 → M1 1 4 = 0 → M1 1 2 ≤ n → Ld b n T 2 0 0 (M1 1 2) k D' → K 1 M1) : wp_X0_readHeat S m0 31 K := by
  obtain ⟨⟨q0, q1, q2, q3, q4, q5, q6, q7⟩, lr, lh, lj, lt, lw, ls⟩ := id lc
  have c0 := hm0.f_32_0
  have c3 := hm0.f_32_3
  have c4 := hm0.f_32_4
  have c5 := hm0.f_32_5
  have c6 := hm0.f_32_6
  have c7 := hm0.f_32_7
  refine u_X0_readHeat ?_
  refine g_getr 0 1 rfl hS.k31 hm0.f_31_0 (by decide) ?_
  refine g_C ?_
  refine g_C ?_
  refine ⟨hS.k1, ?_⟩
  refine zn_num 4 0 hS hm0 ht h14 hp l (lo := 0) (hi := 99) rfl rfl (fun m8 hm8 f8 n8 t8 => ?_) (fun q1x v1 m1 hm1 f1 lo1 hi1 g1 x1 xq1 n1 y1 ln1 le1 _ => ?_)
  · refine g_C ?_
    refine g_ifF (by omega) ?_
    refine g_C ?_
    refine u_X0_readHeat_30 ?_
    refine g_C ?_
    refine g_ifF (by omega) ?_
    refine g_C ?_
    refine u_X0_readHeat_49 ?_
    refine g_C ?_
    refine g_ifF (by omega) ?_
    refine g_C ?_
    exact ⟨by decide, hf m8 hm8 (fun c p z => by rw [f8 c p (by omega)]) n8 t8⟩
  obtain ⟨D1, eD1⟩ : ∃ z : Dd, z = ud D (dCl D 4 0) v1 := ⟨_, rfl⟩
  have ec1 : dCl D 4 0 = 81 + 3 * D 9 := by
    show 81 + 3 * D 9 + ((0 : Nat) : Int) = _
    omega
  rw [← eD1] at ln1 le1
  rw [ec1] at eD1
  have gD1 : ∀ p : Int, ¬ p = 81 + 3 * D 9 → D1 p = D p := fun p z => by rw [eD1]; exact ud_ne z
  have xD1 : D1 (81 + 3 * D 9) = v1 := by rw [eD1]; exact ud_at _ _ _
  have dn1 : D1 9 = D 9 := gD1 9 (by omega)
  have l1 := ln1 (fun z => absurd z.1 (by decide)) (by decide)
  refine g_C ?_
  refine g_ifT (by omega) ?_
  refine g_getr 0 1 rfl hS.k31 hm1.f_31_0 (by decide) ?_
  refine g_C ?_
  refine ⟨hS.k1, ?_⟩
  refine zn_num 4 1 hS hm1 ht y1 n1 l1 (lo := v1) (hi := 99) (by show D1 (81 + 3 * D1 9) = _; rw [dn1]; exact xD1) rfl (fun m8 hm8 f8 n8 t8 => ?_) (fun q2x v2 m2 hm2 f2 lo2 hi2 g2 x2 xq2 n2 y2 ln2 le2 _ => ?_)
  · refine u_X0_readHeat_30 ?_
    refine g_C ?_
    refine g_ifF (by omega) ?_
    refine g_C ?_
    refine u_X0_readHeat_49 ?_
    refine g_C ?_
    refine g_ifF (by omega) ?_
    refine g_C ?_
    exact ⟨by decide, hf m8 hm8 (fun c p z => by rw [f8 c p (by omega), f1 c p (by omega)]) n8 t8⟩
  obtain ⟨D2, eD2⟩ : ∃ z : Dd, z = ud D1 (dCl D1 4 1) v2 := ⟨_, rfl⟩
  have ec2 : dCl D1 4 1 = 81 + 3 * D 9 + 1 := by
    show 81 + 3 * D1 9 + ((1 : Nat) : Int) = _
    omega
  rw [← eD2] at ln2 le2
  rw [ec2] at eD2
  have gD2 : ∀ p : Int, ¬ p = 81 + 3 * D 9 + 1 → D2 p = D1 p := fun p z => by rw [eD2]; exact ud_ne z
  have xD2 : D2 (81 + 3 * D 9 + 1) = v2 := by rw [eD2]; exact ud_at _ _ _
  have dn2 : D2 9 = D 9 := (gD2 9 (by omega)).trans dn1
  have xD1' : D2 (81 + 3 * D 9) = v1 := (gD2 _ (by omega)).trans xD1
  have l2 := ln2 (fun z => absurd z.1 (by decide)) (by decide)
  refine u_X0_readHeat_30 ?_
  refine g_C ?_
  refine g_ifT (by omega) ?_
  refine g_getr 0 1 rfl hS.k31 hm2.f_31_0 (by decide) ?_
  refine g_C ?_
  refine g_C ?_
  refine ⟨hS.k1, ?_⟩
  refine zn_num 4 2 hS hm2 ht y2 n2 l2 (lo := 1) (hi := 5) rfl rfl (fun m8 hm8 f8 n8 t8 => ?_) (fun q3x v3 m3 hm3 f3 lo3 hi3 g3 x3 xq3 n3 y3 ln3 le3 _ => ?_)
  · refine u_X0_readHeat_49 ?_
    refine g_C ?_
    refine g_ifF (by omega) ?_
    refine g_C ?_
    exact ⟨by decide, hf m8 hm8 (fun c p z => by rw [f8 c p (by omega), f2 c p (by omega), f1 c p (by omega)]) n8 t8⟩
  obtain ⟨D3, eD3⟩ : ∃ z : Dd, z = ud D2 (dCl D2 4 2) v3 := ⟨_, rfl⟩
  have ec3 : dCl D2 4 2 = 81 + 3 * D 9 + 2 := by
    show 81 + 3 * D2 9 + ((2 : Nat) : Int) = _
    omega
  rw [← eD3] at ln3 le3
  rw [ec3] at eD3
  have gD3 : ∀ p : Int, ¬ p = 81 + 3 * D 9 + 2 → D3 p = D2 p := fun p z => by rw [eD3]; exact ud_ne z
  have xD3 : D3 (81 + 3 * D 9 + 2) = v3 := by rw [eD3]; exact ud_at _ _ _
  have dn3 : D3 9 = D 9 := (gD3 9 (by omega)).trans dn2
  have xD1' : D3 (81 + 3 * D 9) = v1 := (gD3 _ (by omega)).trans xD1'
  have xD2' : D3 (81 + 3 * D 9 + 1) = v2 := (gD3 _ (by omega)).trans xD2
  have l3 := le3 (fun z => absurd z.1 (by decide)) rfl
  refine u_X0_readHeat_49 ?_
  refine g_C ?_
  refine g_ifT (by omega) ?_
  refine g_getr 1 32 rfl hS.k31 hm3.f_31_1 (by decide) ?_
  refine g_getr 12 37 rfl hS.k32 hm3.f_32_12 (by decide) ?_
  refine g_getr 1 32 rfl hS.k31 hm3.f_31_1 (by decide) ?_
  refine g_getu 6 rfl hS.k32 (fun i4 ei4 => ?_)
  rw [f3 32 6 (by omega), f2 32 6 (by omega), f1 32 6 (by omega), q6] at ei4
  refine g_st hS.k37 hS.l37 (by omega) (by omega) (hm3.wa_37 (by omega) (by omega) (by omega) (by omega)) (fun m4 e4 hm4 => ?_)
  have f4 : ∀ c p : Int, ¬ (c = 37 ∧ p = i4) → m4 c p = m3 c p := fun c p q => (congrFun (congrFun e4 _) _).trans (up_ne q)
  have s4 : m4 37 i4 = v1 := (congrFun (congrFun e4 _) _).trans (up_at _ _ _ _)
  refine g_getr 1 32 rfl hS.k31 hm4.f_31_1 (by decide) ?_
  refine g_getr 13 38 rfl hS.k32 hm4.f_32_13 (by decide) ?_
  refine g_getr 1 32 rfl hS.k31 hm4.f_31_1 (by decide) ?_
  refine g_getu 6 rfl hS.k32 (fun i5 ei5 => ?_)
  rw [f4 32 6 (by omega), f3 32 6 (by omega), f2 32 6 (by omega), f1 32 6 (by omega), q6] at ei5
  refine g_st hS.k38 hS.l38 (by omega) (by omega) (hm4.wa_38 (by omega) (by omega) (by omega) (by omega)) (fun m5 e5 hm5 => ?_)
  have f5 : ∀ c p : Int, ¬ (c = 38 ∧ p = i5) → m5 c p = m4 c p := fun c p q => (congrFun (congrFun e5 _) _).trans (up_ne q)
  have s5 : m5 38 i5 = v2 := (congrFun (congrFun e5 _) _).trans (up_at _ _ _ _)
  refine g_getr 1 32 rfl hS.k31 hm5.f_31_1 (by decide) ?_
  refine g_getr 14 39 rfl hS.k32 hm5.f_32_14 (by decide) ?_
  refine g_getr 1 32 rfl hS.k31 hm5.f_31_1 (by decide) ?_
  refine g_getu 6 rfl hS.k32 (fun i6 ei6 => ?_)
  rw [f5 32 6 (by omega), f4 32 6 (by omega), f3 32 6 (by omega), f2 32 6 (by omega), f1 32 6 (by omega), q6] at ei6
  refine g_st hS.k39 hS.l39 (by omega) (by omega) (hm5.wa_39 (by omega) (by omega) (by omega) (by omega)) (fun m6 e6 hm6 => ?_)
  have f6 : ∀ c p : Int, ¬ (c = 39 ∧ p = i6) → m6 c p = m5 c p := fun c p q => (congrFun (congrFun e6 _) _).trans (up_ne q)
  have s6 : m6 39 i6 = v3 := (congrFun (congrFun e6 _) _).trans (up_at _ _ _ _)
  refine g_getr 1 32 rfl hS.k31 hm6.f_31_1 (by decide) ?_
  refine g_getu 6 rfl hS.k32 (fun i7 ei7 => ?_)
  rw [f6 32 6 (by omega), f5 32 6 (by omega), f4 32 6 (by omega), f3 32 6 (by omega), f2 32 6 (by omega), f1 32 6 (by omega), q6] at ei7
  refine g_C ?_
  refine g_A (by omega) (by omega) ?_
  refine g_put 6 rfl hS.k32 (hm6.w_32_6 (by omega) (by omega)) (fun m7 e7 hm7 => ?_)
  have f7 : ∀ c p : Int, ¬ (c = 32 ∧ p = 6) → m7 c p = m6 c p := fun c p q => (congrFun (congrFun e7 _) _).trans (up_ne q)
  have s7 : m7 32 6 = i7 + 1 := (congrFun (congrFun e7 _) _).trans (up_at _ _ _ _)
  have F := fr_readHeat f1 f2 f3 f4 f5 f6 f7 ei4 ei5 ei6
  obtain ⟨Dz, eDz⟩ : ∃ z : Dd, z = dFin D3 4 := ⟨_, rfl⟩
  rw [← eDz] at l3
  have eF : Dz = ud D3 9 (D3 9 + 1) := eDz
  rw [dn3] at eF
  have gz : ∀ p : Int, ¬ p = 9 → Dz p = D3 p := fun p z0 => by rw [eF, ud_ne z0]
  have xz : Dz 9 = D 9 + 1 := by rw [eF]; exact ud_at _ _ _
  have e12 : m7 1 2 = m3 1 2 := by rw [f7 1 2 (by omega), f6 1 2 (by omega), f5 1 2 (by omega), f4 1 2 (by omega)]
  have e14 : m7 1 4 = 0 := by rw [f7 1 4 (by omega), f6 1 4 (by omega), f5 1 4 (by omega), f4 1 4 (by omega)]; exact y3
  rw [← e12] at l3
  have S0 : m7 37 (D 9) = v1 := by rw [f7 37 _ (by omega), f6 37 _ (by omega), f5 37 _ (by omega), ← ei4]; exact s4
  have Z0 : Dz (81 + 3 * D 9) = v1 := by rw [gz _ (by omega), gD3 _ (by omega), gD2 _ (by omega)]; exact xD1
  have S1 : m7 38 (D 9) = v2 := by rw [f7 38 _ (by omega), f6 38 _ (by omega), ← ei5]; exact s5
  have Z1 : Dz (81 + 3 * D 9 + 1) = v2 := by rw [gz _ (by omega), gD3 _ (by omega)]; exact xD2
  have S2 : m7 39 (D 9) = v3 := by rw [f7 39 _ (by omega), ← ei6]; exact s6
  have Z2 : Dz (81 + 3 * D 9 + 2) = v3 := by rw [gz _ (by omega)]; exact xD3
  have G := gg_readHeat gD1 gD2 gD3 gz
  have lz : LC Dz m7 := LC.readHeat lc (by omega) (by omega) (by omega) (by omega) (by omega) nf F (by rw [s7]; omega) S0 S1 S2 G xz Z0 Z1 Z2
  have dz0 : 2 ≤ Dz 0 := by rw [G 0 (by omega)]; exact d0
  have nz : m7 1 2 ≤ n := by omega
  exact g_C ⟨by decide, hk m7 Dz hm7 (fun c p z => F c p (by omega)) lz dz0 e14 nz l3⟩
