theorem LC.readHeat {D Dz : Dd} {M M' : Mm} {v1 v2 v3 : Int} (lc : LC D M) (h3 : D 3 ≤ 8) (h4 : 0 ≤ D 4 ∧ D 4 ≤ 5) (h5 : 0 ≤ D 5 ∧ D 5 ≤ 4) (h9 : 0 ≤ D 9 ∧ D 9 ≤ 4) (h6 : 0 ≤ D 6 ∧ D 6 ≤ 6) (hc : D 9 < 4) (F : ∀ c p : Int, ¬ (c = 1 ∧ 2 ≤ p ∧ p ≤ 3) ∧ ¬ (c = 32 ∧ p = 6) ∧ ¬ (c = 37 ∧ p = D 9) ∧ ¬ (c = 38 ∧ p = D 9) ∧ ¬ (c = 39 ∧ p = D 9) → M' c p = M c p) (sc : M' 32 6 = D 9 + 1) (s0 : M' 37 (D 9) = v1) (s1 : M' 38 (D 9) = v2) (s2 : M' 39 (D 9) = v3) (G : ∀ p : Int, ¬ p = 9 ∧ ¬ (81 + 3 * D 9 ≤ p ∧ p < 81 + 3 * D 9 + 3) → Dz p = D p) (xc : Dz 9 = D 9 + 1) (x0 : Dz (81 + 3 * D 9) = v1) (x1 : Dz (81 + 3 * D 9 + 1) = v2) (x2 : Dz (81 + 3 * D 9 + 2) = v3) : LC Dz M' := by
  obtain ⟨⟨q0, q1, q2, q3, q4, q5, q6, q7⟩, lr, lh, lj, lt, lw, ls⟩ := lc
  refine ⟨⟨by rw [F 32 0 (by first | decide | exact fun z => absurd z.1 (by decide) | exact ⟨fun z => absurd z.1 (by decide), fun z => absurd z.1 (by decide)⟩ | omega), G 0 (by omega)]; exact q0, by rw [F 32 1 (by first | decide | exact fun z => absurd z.1 (by decide) | exact ⟨fun z => absurd z.1 (by decide), fun z => absurd z.1 (by decide)⟩ | omega), G 1 (by omega)]; exact q1, by rw [F 32 2 (by first | decide | exact fun z => absurd z.1 (by decide) | exact ⟨fun z => absurd z.1 (by decide), fun z => absurd z.1 (by decide)⟩ | omega), G 2 (by omega)]; exact q2, by rw [F 32 3 (by first | decide | exact fun z => absurd z.1 (by decide) | exact ⟨fun z => absurd z.1 (by decide), fun z => absurd z.1 (by decide)⟩ | omega), G 3 (by omega)]; exact q3, by rw [F 32 4 (by first | decide | exact fun z => absurd z.1 (by decide) | exact ⟨fun z => absurd z.1 (by decide), fun z => absurd z.1 (by decide)⟩ | omega), G 4 (by omega)]; exact q4, by rw [F 32 5 (by first | decide | exact fun z => absurd z.1 (by decide) | exact ⟨fun z => absurd z.1 (by decide), fun z => absurd z.1 (by decide)⟩ | omega), G 5 (by omega)]; exact q5, by rw [sc, xc], by rw [F 32 7 (by first | decide | exact fun z => absurd z.1 (by decide) | exact ⟨fun z => absurd z.1 (by decide), fun z => absurd z.1 (by decide)⟩ | omega), G 6 (by omega)]; exact q7⟩, ?_, ?_, ?_, ?_, ?_, ?_⟩
  · exact lr.keep h3 (fun p => F 33 p (by first | decide | exact fun z => absurd z.1 (by decide) | exact ⟨fun z => absurd z.1 (by decide), fun z => absurd z.1 (by decide)⟩ | omega)) (fun p z => G p (by omega))
  · exact lh.keep h4.2 (fun c p z => F c p (by omega)) (fun p z => G p (by omega))
  · exact lj.keep h5.2 (fun c p z => F c p (by omega)) (fun p z => G p (by omega))
  · intro i i0 i1
    rw [xc] at i1
    by_cases e : i = D 9
    · subst e
      exact ⟨s0.trans x0.symm, s1.trans x1.symm, s2.trans x2.symm⟩
    · have hh := lt i i0 (by omega)
      rw [F 37 i (by first | decide | exact fun z => absurd z.1 (by decide) | exact ⟨fun z => absurd z.1 (by decide), fun z => absurd z.1 (by decide)⟩ | omega), F 38 i (by first | decide | exact fun z => absurd z.1 (by decide) | exact ⟨fun z => absurd z.1 (by decide), fun z => absurd z.1 (by decide)⟩ | omega), F 39 i (by first | decide | exact fun z => absurd z.1 (by decide) | exact ⟨fun z => absurd z.1 (by decide), fun z => absurd z.1 (by decide)⟩ | omega)]
      rw [G (81 + 3 * i) (by omega), G (81 + 3 * i + 1) (by omega), G (81 + 3 * i + 2) (by omega)]
      exact hh
  · exact lw.keep h6.2 (fun c p z => F c p (by omega)) (fun p z => G p (by omega))
  · exact ls.keep (fun c p z => F c p (by omega)) (fun i i0 i1 => F 48 i (by first | decide | exact fun z => absurd z.1 (by decide) | exact ⟨fun z => absurd z.1 (by decide), fun z => absurd z.1 (by decide)⟩ | omega)) (by rw [G 5 (by omega)]; exact Int.le_refl _)
theorem fr_readHeat {m0 m1 m2 m3 m4 m5 m6 m7 : Mm} {i4 i5 i6 d : Int} (f1 : ∀ c p : Int, ¬ (c = 1 ∧ 2 ≤ p ∧ p ≤ 3) → m1 c p = m0 c p) (f2 : ∀ c p : Int, ¬ (c = 1 ∧ 2 ≤ p ∧ p ≤ 3) → m2 c p = m1 c p) (f3 : ∀ c p : Int, ¬ (c = 1 ∧ 2 ≤ p ∧ p ≤ 3) → m3 c p = m2 c p) (f4 : ∀ c p : Int, ¬ (c = 37 ∧ p = i4) → m4 c p = m3 c p) (f5 : ∀ c p : Int, ¬ (c = 38 ∧ p = i5) → m5 c p = m4 c p) (f6 : ∀ c p : Int, ¬ (c = 39 ∧ p = i6) → m6 c p = m5 c p) (f7 : ∀ c p : Int, ¬ (c = 32 ∧ p = 6) → m7 c p = m6 c p) (e4 : i4 = d) (e5 : i5 = d) (e6 : i6 = d) : ∀ c p : Int, ¬ (c = 1 ∧ 2 ≤ p ∧ p ≤ 3) ∧ ¬ (c = 32 ∧ p = 6) ∧ ¬ (c = 37 ∧ p = d) ∧ ¬ (c = 38 ∧ p = d) ∧ ¬ (c = 39 ∧ p = d) → m7 c p = m0 c p := fun c p z => by rw [f7 c p (by first | exact fun y => absurd (y.1 ▸ z) (by decide) | exact fun y => absurd (y.1 ▸ q) (by decide) | exact z | exact q | exact z.1 | exact q.1 | exact z.2 | exact q.2 | omega), f6 c p (by first | exact fun y => absurd (y.1 ▸ z) (by decide) | exact fun y => absurd (y.1 ▸ q) (by decide) | exact z | exact q | exact z.1 | exact q.1 | exact z.2 | exact q.2 | omega), f5 c p (by first | exact fun y => absurd (y.1 ▸ z) (by decide) | exact fun y => absurd (y.1 ▸ q) (by decide) | exact z | exact q | exact z.1 | exact q.1 | exact z.2 | exact q.2 | omega), f4 c p (by first | exact fun y => absurd (y.1 ▸ z) (by decide) | exact fun y => absurd (y.1 ▸ q) (by decide) | exact z | exact q | exact z.1 | exact q.1 | exact z.2 | exact q.2 | omega), f3 c p (by first | exact fun y => absurd (y.1 ▸ z) (by decide) | exact fun y => absurd (y.1 ▸ q) (by decide) | exact z | exact q | exact z.1 | exact q.1 | exact z.2 | exact q.2 | omega), f2 c p (by first | exact fun y => absurd (y.1 ▸ z) (by decide) | exact fun y => absurd (y.1 ▸ q) (by decide) | exact z | exact q | exact z.1 | exact q.1 | exact z.2 | exact q.2 | omega), f1 c p (by first | exact fun y => absurd (y.1 ▸ z) (by decide) | exact fun y => absurd (y.1 ▸ q) (by decide) | exact z | exact q | exact z.1 | exact q.1 | exact z.2 | exact q.2 | omega)]
theorem gg_readHeat {D D1 D2 D3 Dz : Dd} (gD1 : ∀ p : Int, ¬ p = 81 + 3 * D 9 → D1 p = D p) (gD2 : ∀ p : Int, ¬ p = 81 + 3 * D 9 + 1 → D2 p = D1 p) (gD3 : ∀ p : Int, ¬ p = 81 + 3 * D 9 + 2 → D3 p = D2 p) (gz : ∀ p : Int, ¬ p = 9 → Dz p = D3 p) : ∀ p : Int, ¬ p = 9 ∧ ¬ (81 + 3 * D 9 ≤ p ∧ p < 81 + 3 * D 9 + 3) → Dz p = D p := fun p z => by rw [gz p (by omega), gD3 p (by omega), gD2 p (by omega), gD1 p (by omega)]
theorem zn_readHeat {X : Mm} {S : Sh} {m0 : Mm} {K : Int → Mm → Prop} {b : Int → Int} {n k : Int} {T : Int → Dd → Prop} {D : Dd} (hS : Shp S) (hm0 : Inv X S m0) (ht : TC X b n) (h14 : m0 1 4 = 0) (hp : m0 1 2 ≤ n) (lc : LC D m0) (l : Ld b n T 1 4 0 (m0 1 2) k D) (d0 : 2 ≤ D 0) (nf : D 9 < 4) (hf : ∀ M1 : Mm, Inv X S M1 → (∀ c p : Int, 336 ≤ c → M1 c p = m0 c p) → ¬ M1 1 4 = 0 → T (M1 1 4) dz → K 0 M1) (hk : ∀ (M1 : Mm) (D' : Dd), Inv X S M1 → (∀ c p : Int, 336 ≤ c → M1 c p = m0 c p) → LC D' M1 → 2 ≤ D' 0 → M1 1 4 = 0 → M1 1 2 ≤ n → Ld b n T 2 0 0 (M1 1 2) k D' → K 1 M1) : wp_X0_readHeat S m0 31 K := by
  obtain ⟨⟨q0, q1, q2, q3, q4, q5, q6, q7⟩, lr, lh, lj, lt, lw, ls⟩ := id lc
  have c0 := hm0.f_32_0
  have c3 := hm0.f_32_3
  have c4 := hm0.f_32_4
  have c5 := hm0.f_32_5
  have c6 := hm0.f_32_6
  have c7 := hm0.f_32_7
  refine u_X0_readHeat ?_
  refine g_getr 0 1 rfl hS.k31 hm0.f_31_0 (by decide) ?_
  refine g_C ?_
  refine g_C ?_
  refine ⟨hS.k1, ?_⟩
  refine zn_num 4 0 hS hm0 ht h14 hp l (lo := 0) (hi := 99) rfl rfl (fun m8 hm8 f8 n8 t8 => ?_) (fun q1x v1 m1 hm1 f1 lo1 hi1 g1 x1 xq1 n1 y1 ln1 le1 _ => ?_)
  · refine g_C ?_
    refine g_ifF (by first | decide | omega) ?_
    refine g_C ?_
    refine u_X0_readHeat_30 ?_
    refine g_C ?_
    refine g_ifF (by first | decide | omega) ?_
    refine g_C ?_
    refine u_X0_readHeat_49 ?_
    refine g_C ?_
    refine g_ifF (by first | decide | omega) ?_
    refine g_C ?_
    exact ⟨by decide, hf m8 hm8 (fun c p z => by rw [f8 c p (by first | exact fun y => absurd (y.1 ▸ z) (by decide) | exact fun y => absurd (y.1 ▸ q) (by decide) | exact z | exact q | exact z.1 | exact q.1 | exact z.2 | exact q.2 | omega)]) n8 t8⟩
  obtain ⟨D1, eD1⟩ : ∃ z : Dd, z = ud D (dCl D 4 0) v1 := ⟨_, rfl⟩
  have ec1 : dCl D 4 0 = 81 + 3 * D 9 := by
    show 81 + 3 * D 9 + ((0 : Nat) : Int) = _
    omega
  rw [← eD1] at ln1 le1
  rw [ec1] at eD1
  have gD1 : ∀ p : Int, ¬ p = 81 + 3 * D 9 → D1 p = D p := fun p z => by rw [eD1]; exact ud_ne z
  have xD1 : D1 (81 + 3 * D 9) = v1 := by rw [eD1]; exact ud_at _ _ _
  have dn1 : D1 9 = D 9 := gD1 9 (by omega)
  have l1 := ln1 (fun z => absurd z.1 (by decide)) (by decide)
  refine g_C ?_
  refine g_ifT (by first | decide | omega) ?_
  refine g_getr 0 1 rfl hS.k31 hm1.f_31_0 (by decide) ?_
  refine g_C ?_
  refine ⟨hS.k1, ?_⟩
  refine zn_num 4 1 hS hm1 ht y1 n1 l1 (lo := v1) (hi := 99) (by show D1 (81 + 3 * D1 9) = _; rw [dn1]; exact xD1) rfl (fun m8 hm8 f8 n8 t8 => ?_) (fun q2x v2 m2 hm2 f2 lo2 hi2 g2 x2 xq2 n2 y2 ln2 le2 _ => ?_)
  · refine u_X0_readHeat_30 ?_
    refine g_C ?_
    refine g_ifF (by first | decide | omega) ?_
    refine g_C ?_
    refine u_X0_readHeat_49 ?_
    refine g_C ?_
    refine g_ifF (by first | decide | omega) ?_
    refine g_C ?_
    exact ⟨by decide, hf m8 hm8 (fun c p z => by rw [f8 c p (by first | exact fun y => absurd (y.1 ▸ z) (by decide) | exact fun y => absurd (y.1 ▸ q) (by decide) | exact z | exact q | exact z.1 | exact q.1 | exact z.2 | exact q.2 | omega), f1 c p (by first | exact fun y => absurd (y.1 ▸ z) (by decide) | exact fun y => absurd (y.1 ▸ q) (by decide) | exact z | exact q | exact z.1 | exact q.1 | exact z.2 | exact q.2 | omega)]) n8 t8⟩
  obtain ⟨D2, eD2⟩ : ∃ z : Dd, z = ud D1 (dCl D1 4 1) v2 := ⟨_, rfl⟩
  have ec2 : dCl D1 4 1 = 81 + 3 * D 9 + 1 := by
    show 81 + 3 * D1 9 + ((1 : Nat) : Int) = _
    omega
  rw [← eD2] at ln2 le2
  rw [ec2] at eD2
  have gD2 : ∀ p : Int, ¬ p = 81 + 3 * D 9 + 1 → D2 p = D1 p := fun p z => by rw [eD2]; exact ud_ne z
  have xD2 : D2 (81 + 3 * D 9 + 1) = v2 := by rw [eD2]; exact ud_at _ _ _
  have dn2 : D2 9 = D 9 := (gD2 9 (by omega)).trans dn1
  have xD1' : D2 (81 + 3 * D 9) = v1 := (gD2 _ (by omega)).trans xD1
  have l2 := ln2 (fun z => absurd z.1 (by decide)) (by decide)
  refine u_X0_readHeat_30 ?_
  refine g_C ?_
  refine g_ifT (by first | decide | omega) ?_
  refine g_getr 0 1 rfl hS.k31 hm2.f_31_0 (by decide) ?_
  refine g_C ?_
  refine g_C ?_
  refine ⟨hS.k1, ?_⟩
  refine zn_num 4 2 hS hm2 ht y2 n2 l2 (lo := 1) (hi := 5) rfl rfl (fun m8 hm8 f8 n8 t8 => ?_) (fun q3x v3 m3 hm3 f3 lo3 hi3 g3 x3 xq3 n3 y3 ln3 le3 _ => ?_)
  · refine u_X0_readHeat_49 ?_
    refine g_C ?_
    refine g_ifF (by first | decide | omega) ?_
    refine g_C ?_
    exact ⟨by decide, hf m8 hm8 (fun c p z => by rw [f8 c p (by first | exact fun y => absurd (y.1 ▸ z) (by decide) | exact fun y => absurd (y.1 ▸ q) (by decide) | exact z | exact q | exact z.1 | exact q.1 | exact z.2 | exact q.2 | omega), f2 c p (by first | exact fun y => absurd (y.1 ▸ z) (by decide) | exact fun y => absurd (y.1 ▸ q) (by decide) | exact z | exact q | exact z.1 | exact q.1 | exact z.2 | exact q.2 | omega), f1 c p (by first | exact fun y => absurd (y.1 ▸ z) (by decide) | exact fun y => absurd (y.1 ▸ q) (by decide) | exact z | exact q | exact z.1 | exact q.1 | exact z.2 | exact q.2 | omega)]) n8 t8⟩
  obtain ⟨D3, eD3⟩ : ∃ z : Dd, z = ud D2 (dCl D2 4 2) v3 := ⟨_, rfl⟩
  have ec3 : dCl D2 4 2 = 81 + 3 * D 9 + 2 := by
    show 81 + 3 * D2 9 + ((2 : Nat) : Int) = _
    omega
  rw [← eD3] at ln3 le3
  rw [ec3] at eD3
  have gD3 : ∀ p : Int, ¬ p = 81 + 3 * D 9 + 2 → D3 p = D2 p := fun p z => by rw [eD3]; exact ud_ne z
  have xD3 : D3 (81 + 3 * D 9 + 2) = v3 := by rw [eD3]; exact ud_at _ _ _
  have dn3 : D3 9 = D 9 := (gD3 9 (by omega)).trans dn2
  have xD1' : D3 (81 + 3 * D 9) = v1 := (gD3 _ (by omega)).trans xD1'
  have xD2' : D3 (81 + 3 * D 9 + 1) = v2 := (gD3 _ (by omega)).trans xD2
  have l3 := le3 (fun z => absurd z.1 (by decide)) rfl
  refine u_X0_readHeat_49 ?_
  refine g_C ?_
  refine g_ifT (by first | decide | omega) ?_
  refine g_getr 1 32 rfl hS.k31 hm3.f_31_1 (by decide) ?_
  refine g_getr 12 37 rfl hS.k32 hm3.f_32_12 (by decide) ?_
  refine g_getr 1 32 rfl hS.k31 hm3.f_31_1 (by decide) ?_
  refine g_getu 6 rfl hS.k32 (fun i4 ei4 => ?_)
  rw [f3 32 6 (by first | decide | exact fun z => absurd z.1 (by decide) | exact ⟨fun z => absurd z.1 (by decide), fun z => absurd z.1 (by decide)⟩ | omega), f2 32 6 (by first | decide | exact fun z => absurd z.1 (by decide) | exact ⟨fun z => absurd z.1 (by decide), fun z => absurd z.1 (by decide)⟩ | omega), f1 32 6 (by first | decide | exact fun z => absurd z.1 (by decide) | exact ⟨fun z => absurd z.1 (by decide), fun z => absurd z.1 (by decide)⟩ | omega), q6] at ei4
  refine g_st hS.k37 hS.l37 (by omega) (by omega) (hm3.wa_37 (by omega) (by omega) (by omega) (by omega)) (fun m4 e4 hm4 => ?_)
  have f4 : ∀ c p : Int, ¬ (c = 37 ∧ p = i4) → m4 c p = m3 c p := fun c p q => (congrFun (congrFun e4 _) _).trans (up_ne q)
  have s4 : m4 37 i4 = v1 := (congrFun (congrFun e4 _) _).trans (up_at _ _ _ _)
  refine g_getr 1 32 rfl hS.k31 hm4.f_31_1 (by decide) ?_
  refine g_getr 13 38 rfl hS.k32 hm4.f_32_13 (by decide) ?_
  refine g_getr 1 32 rfl hS.k31 hm4.f_31_1 (by decide) ?_
  refine g_getu 6 rfl hS.k32 (fun i5 ei5 => ?_)
  rw [f4 32 6 (by first | decide | exact fun z => absurd z.1 (by decide) | exact ⟨fun z => absurd z.1 (by decide), fun z => absurd z.1 (by decide)⟩ | omega), f3 32 6 (by first | decide | exact fun z => absurd z.1 (by decide) | exact ⟨fun z => absurd z.1 (by decide), fun z => absurd z.1 (by decide)⟩ | omega), f2 32 6 (by first | decide | exact fun z => absurd z.1 (by decide) | exact ⟨fun z => absurd z.1 (by decide), fun z => absurd z.1 (by decide)⟩ | omega), f1 32 6 (by first | decide | exact fun z => absurd z.1 (by decide) | exact ⟨fun z => absurd z.1 (by decide), fun z => absurd z.1 (by decide)⟩ | omega), q6] at ei5
  refine g_st hS.k38 hS.l38 (by omega) (by omega) (hm4.wa_38 (by omega) (by omega) (by omega) (by omega)) (fun m5 e5 hm5 => ?_)
  have f5 : ∀ c p : Int, ¬ (c = 38 ∧ p = i5) → m5 c p = m4 c p := fun c p q => (congrFun (congrFun e5 _) _).trans (up_ne q)
  have s5 : m5 38 i5 = v2 := (congrFun (congrFun e5 _) _).trans (up_at _ _ _ _)
  refine g_getr 1 32 rfl hS.k31 hm5.f_31_1 (by decide) ?_
  refine g_getr 14 39 rfl hS.k32 hm5.f_32_14 (by decide) ?_
  refine g_getr 1 32 rfl hS.k31 hm5.f_31_1 (by decide) ?_
  refine g_getu 6 rfl hS.k32 (fun i6 ei6 => ?_)
  rw [f5 32 6 (by first | decide | exact fun z => absurd z.1 (by decide) | exact ⟨fun z => absurd z.1 (by decide), fun z => absurd z.1 (by decide)⟩ | omega), f4 32 6 (by first | decide | exact fun z => absurd z.1 (by decide) | exact ⟨fun z => absurd z.1 (by decide), fun z => absurd z.1 (by decide)⟩ | omega), f3 32 6 (by first | decide | exact fun z => absurd z.1 (by decide) | exact ⟨fun z => absurd z.1 (by decide), fun z => absurd z.1 (by decide)⟩ | omega), f2 32 6 (by first | decide | exact fun z => absurd z.1 (by decide) | exact ⟨fun z => absurd z.1 (by decide), fun z => absurd z.1 (by decide)⟩ | omega), f1 32 6 (by first | decide | exact fun z => absurd z.1 (by decide) | exact ⟨fun z => absurd z.1 (by decide), fun z => absurd z.1 (by decide)⟩ | omega), q6] at ei6
  refine g_st hS.k39 hS.l39 (by omega) (by omega) (hm5.wa_39 (by omega) (by omega) (by omega) (by omega)) (fun m6 e6 hm6 => ?_)
  have f6 : ∀ c p : Int, ¬ (c = 39 ∧ p = i6) → m6 c p = m5 c p := fun c p q => (congrFun (congrFun e6 _) _).trans (up_ne q)
  have s6 : m6 39 i6 = v3 := (congrFun (congrFun e6 _) _).trans (up_at _ _ _ _)
  refine g_getr 1 32 rfl hS.k31 hm6.f_31_1 (by decide) ?_
  refine g_getu 6 rfl hS.k32 (fun i7 ei7 => ?_)
  rw [f6 32 6 (by first | decide | exact fun z => absurd z.1 (by decide) | exact ⟨fun z => absurd z.1 (by decide), fun z => absurd z.1 (by decide)⟩ | omega), f5 32 6 (by first | decide | exact fun z => absurd z.1 (by decide) | exact ⟨fun z => absurd z.1 (by decide), fun z => absurd z.1 (by decide)⟩ | omega), f4 32 6 (by first | decide | exact fun z => absurd z.1 (by decide) | exact ⟨fun z => absurd z.1 (by decide), fun z => absurd z.1 (by decide)⟩ | omega), f3 32 6 (by first | decide | exact fun z => absurd z.1 (by decide) | exact ⟨fun z => absurd z.1 (by decide), fun z => absurd z.1 (by decide)⟩ | omega), f2 32 6 (by first | decide | exact fun z => absurd z.1 (by decide) | exact ⟨fun z => absurd z.1 (by decide), fun z => absurd z.1 (by decide)⟩ | omega), f1 32 6 (by first | decide | exact fun z => absurd z.1 (by decide) | exact ⟨fun z => absurd z.1 (by decide), fun z => absurd z.1 (by decide)⟩ | omega), q6] at ei7
  refine g_C ?_
  refine g_A (by omega) (by omega) ?_
  refine g_put 6 rfl hS.k32 (hm6.w_32_6 (by omega) (by omega)) (fun m7 e7 hm7 => ?_)
  have f7 : ∀ c p : Int, ¬ (c = 32 ∧ p = 6) → m7 c p = m6 c p := fun c p q => (congrFun (congrFun e7 _) _).trans (up_ne q)
  have s7 : m7 32 6 = i7 + 1 := (congrFun (congrFun e7 _) _).trans (up_at _ _ _ _)
  have F := fr_readHeat f1 f2 f3 f4 f5 f6 f7 ei4 ei5 ei6
  obtain ⟨Dz, eDz⟩ : ∃ z : Dd, z = dFin D3 4 := ⟨_, rfl⟩
  rw [← eDz] at l3
  have eF : Dz = ud D3 9 (D3 9 + 1) := eDz
  rw [dn3] at eF
  have gz : ∀ p : Int, ¬ p = 9 → Dz p = D3 p := fun p z0 => by rw [eF, ud_ne z0]
  have xz : Dz 9 = D 9 + 1 := by rw [eF]; exact ud_at _ _ _
  have e12 : m7 1 2 = m3 1 2 := by rw [f7 1 2 (by first | decide | exact fun z => absurd z.1 (by decide) | exact ⟨fun z => absurd z.1 (by decide), fun z => absurd z.1 (by decide)⟩ | omega), f6 1 2 (by first | decide | exact fun z => absurd z.1 (by decide) | exact ⟨fun z => absurd z.1 (by decide), fun z => absurd z.1 (by decide)⟩ | omega), f5 1 2 (by first | decide | exact fun z => absurd z.1 (by decide) | exact ⟨fun z => absurd z.1 (by decide), fun z => absurd z.1 (by decide)⟩ | omega), f4 1 2 (by first | decide | exact fun z => absurd z.1 (by decide) | exact ⟨fun z => absurd z.1 (by decide), fun z => absurd z.1 (by decide)⟩ | omega)]
  have e14 : m7 1 4 = 0 := by rw [f7 1 4 (by first | decide | exact fun z => absurd z.1 (by decide) | exact ⟨fun z => absurd z.1 (by decide), fun z => absurd z.1 (by decide)⟩ | omega), f6 1 4 (by first | decide | exact fun z => absurd z.1 (by decide) | exact ⟨fun z => absurd z.1 (by decide), fun z => absurd z.1 (by decide)⟩ | omega), f5 1 4 (by first | decide | exact fun z => absurd z.1 (by decide) | exact ⟨fun z => absurd z.1 (by decide), fun z => absurd z.1 (by decide)⟩ | omega), f4 1 4 (by first | decide | exact fun z => absurd z.1 (by decide) | exact ⟨fun z => absurd z.1 (by decide), fun z => absurd z.1 (by decide)⟩ | omega)]; exact y3
  rw [← e12] at l3
  have S0 : m7 37 (D 9) = v1 := by rw [f7 37 _ (by first | decide | exact fun z => absurd z.1 (by decide) | exact ⟨fun z => absurd z.1 (by decide), fun z => absurd z.1 (by decide)⟩ | omega), f6 37 _ (by first | decide | exact fun z => absurd z.1 (by decide) | exact ⟨fun z => absurd z.1 (by decide), fun z => absurd z.1 (by decide)⟩ | omega), f5 37 _ (by first | decide | exact fun z => absurd z.1 (by decide) | exact ⟨fun z => absurd z.1 (by decide), fun z => absurd z.1 (by decide)⟩ | omega), ← ei4]; exact s4
  have Z0 : Dz (81 + 3 * D 9) = v1 := by rw [gz _ (by omega), gD3 _ (by omega), gD2 _ (by omega)]; exact xD1
  have S1 : m7 38 (D 9) = v2 := by rw [f7 38 _ (by first | decide | exact fun z => absurd z.1 (by decide) | exact ⟨fun z => absurd z.1 (by decide), fun z => absurd z.1 (by decide)⟩ | omega), f6 38 _ (by first | decide | exact fun z => absurd z.1 (by decide) | exact ⟨fun z => absurd z.1 (by decide), fun z => absurd z.1 (by decide)⟩ | omega), ← ei5]; exact s5
  have Z1 : Dz (81 + 3 * D 9 + 1) = v2 := by rw [gz _ (by omega), gD3 _ (by omega)]; exact xD2
  have S2 : m7 39 (D 9) = v3 := by rw [f7 39 _ (by first | decide | exact fun z => absurd z.1 (by decide) | exact ⟨fun z => absurd z.1 (by decide), fun z => absurd z.1 (by decide)⟩ | omega), ← ei6]; exact s6
  have Z2 : Dz (81 + 3 * D 9 + 2) = v3 := by rw [gz _ (by omega)]; exact xD3
  have G := gg_readHeat gD1 gD2 gD3 gz
  have lz : LC Dz m7 := LC.readHeat lc (by omega) (by omega) (by omega) (by omega) (by omega) nf F (by rw [s7]; omega) S0 S1 S2 G xz Z0 Z1 Z2
  have dz0 : 2 ≤ Dz 0 := by rw [G 0 (by omega)]; exact d0
  have nz : m7 1 2 ≤ n := by omega
  exact g_C ⟨by decide, hk m7 Dz hm7 (fun c p z => F c p (by omega)) lz dz0 e14 nz l3⟩
theorem LC.readWant {D Dz : Dd} {M M' : Mm} {v1 v2 v3 v4 : Int} (lc : LC D M) (h3 : D 3 ≤ 8) (h4 : 0 ≤ D 4 ∧ D 4 ≤ 5) (h5 : 0 ≤ D 5 ∧ D 5 ≤ 4) (h9 : 0 ≤ D 9 ∧ D 9 ≤ 4) (h6 : 0 ≤ D 6 ∧ D 6 ≤ 6) (hc : D 6 < 6) (F : ∀ c p : Int, ¬ (c = 1 ∧ 2 ≤ p ∧ p ≤ 3) ∧ ¬ (c = 32 ∧ p = 7) ∧ ¬ (c = 40 ∧ p = D 6) ∧ ¬ (c = 41 ∧ p = D 6) ∧ ¬ (c = 42 ∧ p = D 6) ∧ ¬ (c = 43 ∧ p = D 6) → M' c p = M c p) (sc : M' 32 7 = D 6 + 1) (s0 : M' 40 (D 6) = v1) (s1 : M' 41 (D 6) = v2) (s2 : M' 42 (D 6) = v3) (s3 : M' 43 (D 6) = v4) (G : ∀ p : Int, ¬ p = 6 ∧ ¬ (93 + 4 * D 6 ≤ p ∧ p < 93 + 4 * D 6 + 4) ∧ ¬ p = 51 + D 6 → Dz p = D p) (xc : Dz 6 = D 6 + 1) (x0 : Dz (93 + 4 * D 6) = v1) (x1 : Dz (93 + 4 * D 6 + 1) = v2) (x2 : Dz (93 + 4 * D 6 + 2) = v3) (x3 : Dz (93 + 4 * D 6 + 3) = v4) : LC Dz M' := by
  obtain ⟨⟨q0, q1, q2, q3, q4, q5, q6, q7⟩, lr, lh, lj, lt, lw, ls⟩ := lc
  refine ⟨⟨by rw [F 32 0 (by first | decide | exact fun z => absurd z.1 (by decide) | exact ⟨fun z => absurd z.1 (by decide), fun z => absurd z.1 (by decide)⟩ | omega), G 0 (by omega)]; exact q0, by rw [F 32 1 (by first | decide | exact fun z => absurd z.1 (by decide) | exact ⟨fun z => absurd z.1 (by decide), fun z => absurd z.1 (by decide)⟩ | omega), G 1 (by omega)]; exact q1, by rw [F 32 2 (by first | decide | exact fun z => absurd z.1 (by decide) | exact ⟨fun z => absurd z.1 (by decide), fun z => absurd z.1 (by decide)⟩ | omega), G 2 (by omega)]; exact q2, by rw [F 32 3 (by first | decide | exact fun z => absurd z.1 (by decide) | exact ⟨fun z => absurd z.1 (by decide), fun z => absurd z.1 (by decide)⟩ | omega), G 3 (by omega)]; exact q3, by rw [F 32 4 (by first | decide | exact fun z => absurd z.1 (by decide) | exact ⟨fun z => absurd z.1 (by decide), fun z => absurd z.1 (by decide)⟩ | omega), G 4 (by omega)]; exact q4, by rw [F 32 5 (by first | decide | exact fun z => absurd z.1 (by decide) | exact ⟨fun z => absurd z.1 (by decide), fun z => absurd z.1 (by decide)⟩ | omega), G 5 (by omega)]; exact q5, by rw [F 32 6 (by first | decide | exact fun z => absurd z.1 (by decide) | exact ⟨fun z => absurd z.1 (by decide), fun z => absurd z.1 (by decide)⟩ | omega), G 9 (by omega)]; exact q6, by rw [sc, xc]⟩, ?_, ?_, ?_, ?_, ?_, ?_⟩
  · exact lr.keep h3 (fun p => F 33 p (by first | decide | exact fun z => absurd z.1 (by decide) | exact ⟨fun z => absurd z.1 (by decide), fun z => absurd z.1 (by decide)⟩ | omega)) (fun p z => G p (by omega))
  · exact lh.keep h4.2 (fun c p z => F c p (by omega)) (fun p z => G p (by omega))
  · exact lj.keep h5.2 (fun c p z => F c p (by omega)) (fun p z => G p (by omega))
  · exact lt.keep h9.2 (fun c p z => F c p (by omega)) (fun p z => G p (by omega))
  · intro i i0 i1
    rw [xc] at i1
    by_cases e : i = D 6
    · subst e
      exact ⟨s0.trans x0.symm, s1.trans x1.symm, s2.trans x2.symm, s3.trans x3.symm⟩
    · have hh := lw i i0 (by omega)
      rw [F 40 i (by first | decide | exact fun z => absurd z.1 (by decide) | exact ⟨fun z => absurd z.1 (by decide), fun z => absurd z.1 (by decide)⟩ | omega), F 41 i (by first | decide | exact fun z => absurd z.1 (by decide) | exact ⟨fun z => absurd z.1 (by decide), fun z => absurd z.1 (by decide)⟩ | omega), F 42 i (by first | decide | exact fun z => absurd z.1 (by decide) | exact ⟨fun z => absurd z.1 (by decide), fun z => absurd z.1 (by decide)⟩ | omega), F 43 i (by first | decide | exact fun z => absurd z.1 (by decide) | exact ⟨fun z => absurd z.1 (by decide), fun z => absurd z.1 (by decide)⟩ | omega)]
      rw [G (93 + 4 * i) (by omega), G (93 + 4 * i + 1) (by omega), G (93 + 4 * i + 2) (by omega), G (93 + 4 * i + 3) (by omega)]
      exact hh
  · exact ls.keep (fun c p z => F c p (by omega)) (fun i i0 i1 => F 48 i (by first | decide | exact fun z => absurd z.1 (by decide) | exact ⟨fun z => absurd z.1 (by decide), fun z => absurd z.1 (by decide)⟩ | omega)) (by rw [G 5 (by omega)]; exact Int.le_refl _)
theorem fr_readWant {m0 m1 m2 m3 m4 m5 m6 m7 m8 m9 : Mm} {i5 i6 i7 i8 d : Int} (f1 : ∀ c p : Int, ¬ (c = 1 ∧ 2 ≤ p ∧ p ≤ 3) → m1 c p = m0 c p) (f2 : ∀ c p : Int, ¬ (c = 1 ∧ 2 ≤ p ∧ p ≤ 3) → m2 c p = m1 c p) (f3 : ∀ c p : Int, ¬ (c = 1 ∧ 2 ≤ p ∧ p ≤ 3) → m3 c p = m2 c p) (f4 : ∀ c p : Int, ¬ (c = 1 ∧ 2 ≤ p ∧ p ≤ 3) → m4 c p = m3 c p) (f5 : ∀ c p : Int, ¬ (c = 40 ∧ p = i5) → m5 c p = m4 c p) (f6 : ∀ c p : Int, ¬ (c = 41 ∧ p = i6) → m6 c p = m5 c p) (f7 : ∀ c p : Int, ¬ (c = 42 ∧ p = i7) → m7 c p = m6 c p) (f8 : ∀ c p : Int, ¬ (c = 43 ∧ p = i8) → m8 c p = m7 c p) (f9 : ∀ c p : Int, ¬ (c = 32 ∧ p = 7) → m9 c p = m8 c p) (e5 : i5 = d) (e6 : i6 = d) (e7 : i7 = d) (e8 : i8 = d) : ∀ c p : Int, ¬ (c = 1 ∧ 2 ≤ p ∧ p ≤ 3) ∧ ¬ (c = 32 ∧ p = 7) ∧ ¬ (c = 40 ∧ p = d) ∧ ¬ (c = 41 ∧ p = d) ∧ ¬ (c = 42 ∧ p = d) ∧ ¬ (c = 43 ∧ p = d) → m9 c p = m0 c p := fun c p z => by rw [f9 c p z.2.1, f8 c p (by rw [e8]; exact z.2.2.2.2.2), f7 c p (by rw [e7]; exact z.2.2.2.2.1), f6 c p (by rw [e6]; exact z.2.2.2.1), f5 c p (by rw [e5]; exact z.2.2.1), f4 c p z.1, f3 c p z.1, f2 c p z.1, f1 c p z.1]
theorem gg_readWant {D D1 D2 D3 D4 Dz : Dd} (gD1 : ∀ p : Int, ¬ p = 93 + 4 * D 6 → D1 p = D p) (gD2 : ∀ p : Int, ¬ p = 93 + 4 * D 6 + 1 → D2 p = D1 p) (gD3 : ∀ p : Int, ¬ p = 93 + 4 * D 6 + 2 → D3 p = D2 p) (gD4 : ∀ p : Int, ¬ p = 93 + 4 * D 6 + 3 → D4 p = D3 p) (gz : ∀ p : Int, ¬ p = 6 → ¬ p = 51 + D 6 → Dz p = D4 p) : ∀ p : Int, ¬ p = 6 ∧ ¬ (93 + 4 * D 6 ≤ p ∧ p < 93 + 4 * D 6 + 4) ∧ ¬ p = 51 + D 6 → Dz p = D p := fun p z => by rw [gz p (by omega) (by omega), gD4 p (by omega), gD3 p (by omega), gD2 p (by omega), gD1 p (by omega)]
theorem zn_readWant {X : Mm} {S : Sh} {m0 : Mm} {K : Int → Mm → Prop} {b : Int → Int} {n k : Int} {T : Int → Dd → Prop} {D : Dd} (hS : Shp S) (hm0 : Inv X S m0) (ht : TC X b n) (h14 : m0 1 4 = 0) (hp : m0 1 2 ≤ n) (lc : LC D m0) (l : Ld b n T 1 5 0 (m0 1 2) k D) (d0 : 2 ≤ D 0) (nf : D 6 < 6) (hf : ∀ M1 : Mm, Inv X S M1 → (∀ c p : Int, 336 ≤ c → M1 c p = m0 c p) → ¬ M1 1 4 = 0 → T (M1 1 4) dz → K 0 M1) (hk : ∀ (M1 : Mm) (D' : Dd), Inv X S M1 → (∀ c p : Int, 336 ≤ c → M1 c p = m0 c p) → LC D' M1 → 2 ≤ D' 0 → M1 1 4 = 0 → M1 1 2 ≤ n → Ld b n T 2 0 0 (M1 1 2) k D' → K 1 M1) : wp_X0_readWant S m0 31 K := by
  obtain ⟨⟨q0, q1, q2, q3, q4, q5, q6, q7⟩, lr, lh, lj, lt, lw, ls⟩ := id lc
  have c0 := hm0.f_32_0
  have c3 := hm0.f_32_3
  have c4 := hm0.f_32_4
  have c5 := hm0.f_32_5
  have c6 := hm0.f_32_6
  have c7 := hm0.f_32_7
  refine u_X0_readWant ?_
  refine ⟨hS.k31, ?_⟩
  refine zn_place 5 0 hS hm0 ht h14 hp l q0 rfl rfl (fun m8 hm8 f8 n8 t8 => ?_) (fun q1x v1 m1 hm1 f1 u1 g1 x1 xq1 n1 y1 ln1 _ => ?_)
  · refine g_C ?_
    refine g_ifF (by first | decide | omega) ?_
    refine g_C ?_
    refine u_X0_readWant_24 ?_
    refine g_C ?_
    refine g_ifF (by first | decide | omega) ?_
    refine g_C ?_
    refine u_X0_readWant_44 ?_
    refine g_C ?_
    refine g_ifF (by first | decide | omega) ?_
    refine g_C ?_
    refine u_X0_readWant_64 ?_
    refine g_C ?_
    refine g_ifF (by first | decide | omega) ?_
    refine g_C ?_
    exact ⟨by decide, hf m8 hm8 (fun c p z => by rw [f8 c p (by first | exact fun y => absurd (y.1 ▸ z) (by decide) | exact fun y => absurd (y.1 ▸ q) (by decide) | exact z | exact q | exact z.1 | exact q.1 | exact z.2 | exact q.2 | omega)]) n8 t8⟩
  obtain ⟨D1, eD1⟩ : ∃ z : Dd, z = ud D (dCl D 5 0) v1 := ⟨_, rfl⟩
  have ec1 : dCl D 5 0 = 93 + 4 * D 6 := by
    show 93 + 4 * D 6 + ((0 : Nat) : Int) = _
    omega
  rw [← eD1] at ln1
  rw [ec1] at eD1
  have gD1 : ∀ p : Int, ¬ p = 93 + 4 * D 6 → D1 p = D p := fun p z => by rw [eD1]; exact ud_ne z
  have xD1 : D1 (93 + 4 * D 6) = v1 := by rw [eD1]; exact ud_at _ _ _
  have dn1 : D1 6 = D 6 := gD1 6 (by omega)
  have l1 := ln1 (fun z => absurd z.1 (by decide)) (by decide)
  refine g_C ?_
  refine g_ifT (by first | decide | omega) ?_
  refine g_getr 0 1 rfl hS.k31 hm1.f_31_0 (by decide) ?_
  refine g_C ?_
  refine g_C ?_
  refine ⟨hS.k1, ?_⟩
  refine zn_num 5 1 hS hm1 ht y1 n1 l1 (lo := 0) (hi := 99) rfl rfl (fun m8 hm8 f8 n8 t8 => ?_) (fun q2x v2 m2 hm2 f2 lo2 hi2 g2 x2 xq2 n2 y2 ln2 le2 _ => ?_)
  · refine u_X0_readWant_24 ?_
    refine g_C ?_
    refine g_ifF (by first | decide | omega) ?_
    refine g_C ?_
    refine u_X0_readWant_44 ?_
    refine g_C ?_
    refine g_ifF (by first | decide | omega) ?_
    refine g_C ?_
    refine u_X0_readWant_64 ?_
    refine g_C ?_
    refine g_ifF (by first | decide | omega) ?_
    refine g_C ?_
    exact ⟨by decide, hf m8 hm8 (fun c p z => by rw [f8 c p (by first | exact fun y => absurd (y.1 ▸ z) (by decide) | exact fun y => absurd (y.1 ▸ q) (by decide) | exact z | exact q | exact z.1 | exact q.1 | exact z.2 | exact q.2 | omega), f1 c p (by first | exact fun y => absurd (y.1 ▸ z) (by decide) | exact fun y => absurd (y.1 ▸ q) (by decide) | exact z | exact q | exact z.1 | exact q.1 | exact z.2 | exact q.2 | omega)]) n8 t8⟩
  obtain ⟨D2, eD2⟩ : ∃ z : Dd, z = ud D1 (dCl D1 5 1) v2 := ⟨_, rfl⟩
  have ec2 : dCl D1 5 1 = 93 + 4 * D 6 + 1 := by
    show 93 + 4 * D1 6 + ((1 : Nat) : Int) = _
    omega
  rw [← eD2] at ln2 le2
  rw [ec2] at eD2
  have gD2 : ∀ p : Int, ¬ p = 93 + 4 * D 6 + 1 → D2 p = D1 p := fun p z => by rw [eD2]; exact ud_ne z
  have xD2 : D2 (93 + 4 * D 6 + 1) = v2 := by rw [eD2]; exact ud_at _ _ _
  have dn2 : D2 6 = D 6 := (gD2 6 (by omega)).trans dn1
  have xD1' : D2 (93 + 4 * D 6) = v1 := (gD2 _ (by omega)).trans xD1
  have l2 := ln2 (fun z => absurd z.1 (by decide)) (by decide)
  refine u_X0_readWant_24 ?_
  refine g_C ?_
  refine g_ifT (by first | decide | omega) ?_
  refine g_getr 0 1 rfl hS.k31 hm2.f_31_0 (by decide) ?_
  refine g_C ?_
  refine ⟨hS.k1, ?_⟩
  refine zn_num 5 2 hS hm2 ht y2 n2 l2 (lo := v2) (hi := 99) (by show D2 (93 + 4 * D2 6 + 1) = _; rw [dn2]; exact xD2) rfl (fun m8 hm8 f8 n8 t8 => ?_) (fun q3x v3 m3 hm3 f3 lo3 hi3 g3 x3 xq3 n3 y3 ln3 le3 _ => ?_)
  · refine u_X0_readWant_44 ?_
    refine g_C ?_
    refine g_ifF (by first | decide | omega) ?_
    refine g_C ?_
    refine u_X0_readWant_64 ?_
    refine g_C ?_
    refine g_ifF (by first | decide | omega) ?_
    refine g_C ?_
    exact ⟨by decide, hf m8 hm8 (fun c p z => by rw [f8 c p (by first | exact fun y => absurd (y.1 ▸ z) (by decide) | exact fun y => absurd (y.1 ▸ q) (by decide) | exact z | exact q | exact z.1 | exact q.1 | exact z.2 | exact q.2 | omega), f2 c p (by first | exact fun y => absurd (y.1 ▸ z) (by decide) | exact fun y => absurd (y.1 ▸ q) (by decide) | exact z | exact q | exact z.1 | exact q.1 | exact z.2 | exact q.2 | omega), f1 c p (by first | exact fun y => absurd (y.1 ▸ z) (by decide) | exact fun y => absurd (y.1 ▸ q) (by decide) | exact z | exact q | exact z.1 | exact q.1 | exact z.2 | exact q.2 | omega)]) n8 t8⟩
  obtain ⟨D3, eD3⟩ : ∃ z : Dd, z = ud D2 (dCl D2 5 2) v3 := ⟨_, rfl⟩
  have ec3 : dCl D2 5 2 = 93 + 4 * D 6 + 2 := by
    show 93 + 4 * D2 6 + ((2 : Nat) : Int) = _
    omega
  rw [← eD3] at ln3 le3
  rw [ec3] at eD3
  have gD3 : ∀ p : Int, ¬ p = 93 + 4 * D 6 + 2 → D3 p = D2 p := fun p z => by rw [eD3]; exact ud_ne z
  have xD3 : D3 (93 + 4 * D 6 + 2) = v3 := by rw [eD3]; exact ud_at _ _ _
  have dn3 : D3 6 = D 6 := (gD3 6 (by omega)).trans dn2
  have xD1' : D3 (93 + 4 * D 6) = v1 := (gD3 _ (by omega)).trans xD1'
  have xD2' : D3 (93 + 4 * D 6 + 1) = v2 := (gD3 _ (by omega)).trans xD2
  have l3 := ln3 (fun z => absurd z.1 (by decide)) (by decide)
  refine u_X0_readWant_44 ?_
  refine g_C ?_
  refine g_ifT (by first | decide | omega) ?_
  refine g_getr 0 1 rfl hS.k31 hm3.f_31_0 (by decide) ?_
  refine g_C ?_
  refine g_C ?_
  refine ⟨hS.k1, ?_⟩
  refine zn_num 5 3 hS hm3 ht y3 n3 l3 (lo := 1) (hi := 50) rfl rfl (fun m8 hm8 f8 n8 t8 => ?_) (fun q4x v4 m4 hm4 f4 lo4 hi4 g4 x4 xq4 n4 y4 ln4 le4 _ => ?_)
  · refine u_X0_readWant_64 ?_
    refine g_C ?_
    refine g_ifF (by first | decide | omega) ?_
    refine g_C ?_
    exact ⟨by decide, hf m8 hm8 (fun c p z => by rw [f8 c p (by first | exact fun y => absurd (y.1 ▸ z) (by decide) | exact fun y => absurd (y.1 ▸ q) (by decide) | exact z | exact q | exact z.1 | exact q.1 | exact z.2 | exact q.2 | omega), f3 c p (by first | exact fun y => absurd (y.1 ▸ z) (by decide) | exact fun y => absurd (y.1 ▸ q) (by decide) | exact z | exact q | exact z.1 | exact q.1 | exact z.2 | exact q.2 | omega), f2 c p (by first | exact fun y => absurd (y.1 ▸ z) (by decide) | exact fun y => absurd (y.1 ▸ q) (by decide) | exact z | exact q | exact z.1 | exact q.1 | exact z.2 | exact q.2 | omega), f1 c p (by first | exact fun y => absurd (y.1 ▸ z) (by decide) | exact fun y => absurd (y.1 ▸ q) (by decide) | exact z | exact q | exact z.1 | exact q.1 | exact z.2 | exact q.2 | omega)]) n8 t8⟩
  obtain ⟨D4, eD4⟩ : ∃ z : Dd, z = ud D3 (dCl D3 5 3) v4 := ⟨_, rfl⟩
  have ec4 : dCl D3 5 3 = 93 + 4 * D 6 + 3 := by
    show 93 + 4 * D3 6 + ((3 : Nat) : Int) = _
    omega
  rw [← eD4] at ln4 le4
  rw [ec4] at eD4
  have gD4 : ∀ p : Int, ¬ p = 93 + 4 * D 6 + 3 → D4 p = D3 p := fun p z => by rw [eD4]; exact ud_ne z
  have xD4 : D4 (93 + 4 * D 6 + 3) = v4 := by rw [eD4]; exact ud_at _ _ _
  have dn4 : D4 6 = D 6 := (gD4 6 (by omega)).trans dn3
  have xD1' : D4 (93 + 4 * D 6) = v1 := (gD4 _ (by omega)).trans xD1'
  have xD2' : D4 (93 + 4 * D 6 + 1) = v2 := (gD4 _ (by omega)).trans xD2'
  have xD3' : D4 (93 + 4 * D 6 + 2) = v3 := (gD4 _ (by omega)).trans xD3
  have l4 := le4 (fun z => absurd z.1 (by decide)) rfl
  refine u_X0_readWant_64 ?_
  refine g_C ?_
  refine g_ifT (by first | decide | omega) ?_
  refine g_getr 1 32 rfl hS.k31 hm4.f_31_1 (by decide) ?_
  refine g_getr 15 40 rfl hS.k32 hm4.f_32_15 (by decide) ?_
  refine g_getr 1 32 rfl hS.k31 hm4.f_31_1 (by decide) ?_
  refine g_getu 7 rfl hS.k32 (fun i5 ei5 => ?_)
  rw [f4 32 7 (by first | decide | exact fun z => absurd z.1 (by decide) | exact ⟨fun z => absurd z.1 (by decide), fun z => absurd z.1 (by decide)⟩ | omega), f3 32 7 (by first | decide | exact fun z => absurd z.1 (by decide) | exact ⟨fun z => absurd z.1 (by decide), fun z => absurd z.1 (by decide)⟩ | omega), f2 32 7 (by first | decide | exact fun z => absurd z.1 (by decide) | exact ⟨fun z => absurd z.1 (by decide), fun z => absurd z.1 (by decide)⟩ | omega), f1 32 7 (by first | decide | exact fun z => absurd z.1 (by decide) | exact ⟨fun z => absurd z.1 (by decide), fun z => absurd z.1 (by decide)⟩ | omega), q7] at ei5
  refine g_st hS.k40 hS.l40 (by omega) (by omega) (hm4.wa_40 (by omega) (by omega) (by omega) (by omega)) (fun m5 e5 hm5 => ?_)
  have f5 : ∀ c p : Int, ¬ (c = 40 ∧ p = i5) → m5 c p = m4 c p := fun c p q => (congrFun (congrFun e5 _) _).trans (up_ne q)
  have s5 : m5 40 i5 = v1 := (congrFun (congrFun e5 _) _).trans (up_at _ _ _ _)
  refine g_getr 1 32 rfl hS.k31 hm5.f_31_1 (by decide) ?_
  refine g_getr 16 41 rfl hS.k32 hm5.f_32_16 (by decide) ?_
  refine g_getr 1 32 rfl hS.k31 hm5.f_31_1 (by decide) ?_
  refine g_getu 7 rfl hS.k32 (fun i6 ei6 => ?_)
  rw [f5 32 7 (by first | decide | exact fun z => absurd z.1 (by decide) | exact ⟨fun z => absurd z.1 (by decide), fun z => absurd z.1 (by decide)⟩ | omega), f4 32 7 (by first | decide | exact fun z => absurd z.1 (by decide) | exact ⟨fun z => absurd z.1 (by decide), fun z => absurd z.1 (by decide)⟩ | omega), f3 32 7 (by first | decide | exact fun z => absurd z.1 (by decide) | exact ⟨fun z => absurd z.1 (by decide), fun z => absurd z.1 (by decide)⟩ | omega), f2 32 7 (by first | decide | exact fun z => absurd z.1 (by decide) | exact ⟨fun z => absurd z.1 (by decide), fun z => absurd z.1 (by decide)⟩ | omega), f1 32 7 (by first | decide | exact fun z => absurd z.1 (by decide) | exact ⟨fun z => absurd z.1 (by decide), fun z => absurd z.1 (by decide)⟩ | omega), q7] at ei6
  refine g_st hS.k41 hS.l41 (by omega) (by omega) (hm5.wa_41 (by omega) (by omega) (by omega) (by omega)) (fun m6 e6 hm6 => ?_)
  have f6 : ∀ c p : Int, ¬ (c = 41 ∧ p = i6) → m6 c p = m5 c p := fun c p q => (congrFun (congrFun e6 _) _).trans (up_ne q)
  have s6 : m6 41 i6 = v2 := (congrFun (congrFun e6 _) _).trans (up_at _ _ _ _)
  refine g_getr 1 32 rfl hS.k31 hm6.f_31_1 (by decide) ?_
  refine g_getr 17 42 rfl hS.k32 hm6.f_32_17 (by decide) ?_
  refine g_getr 1 32 rfl hS.k31 hm6.f_31_1 (by decide) ?_
  refine g_getu 7 rfl hS.k32 (fun i7 ei7 => ?_)
  rw [f6 32 7 (by first | decide | exact fun z => absurd z.1 (by decide) | exact ⟨fun z => absurd z.1 (by decide), fun z => absurd z.1 (by decide)⟩ | omega), f5 32 7 (by first | decide | exact fun z => absurd z.1 (by decide) | exact ⟨fun z => absurd z.1 (by decide), fun z => absurd z.1 (by decide)⟩ | omega), f4 32 7 (by first | decide | exact fun z => absurd z.1 (by decide) | exact ⟨fun z => absurd z.1 (by decide), fun z => absurd z.1 (by decide)⟩ | omega), f3 32 7 (by first | decide | exact fun z => absurd z.1 (by decide) | exact ⟨fun z => absurd z.1 (by decide), fun z => absurd z.1 (by decide)⟩ | omega), f2 32 7 (by first | decide | exact fun z => absurd z.1 (by decide) | exact ⟨fun z => absurd z.1 (by decide), fun z => absurd z.1 (by decide)⟩ | omega), f1 32 7 (by first | decide | exact fun z => absurd z.1 (by decide) | exact ⟨fun z => absurd z.1 (by decide), fun z => absurd z.1 (by decide)⟩ | omega), q7] at ei7
  refine g_st hS.k42 hS.l42 (by omega) (by omega) (hm6.wa_42 (by omega) (by omega) (by omega) (by omega)) (fun m7 e7 hm7 => ?_)
  have f7 : ∀ c p : Int, ¬ (c = 42 ∧ p = i7) → m7 c p = m6 c p := fun c p q => (congrFun (congrFun e7 _) _).trans (up_ne q)
  have s7 : m7 42 i7 = v3 := (congrFun (congrFun e7 _) _).trans (up_at _ _ _ _)
  refine g_getr 1 32 rfl hS.k31 hm7.f_31_1 (by decide) ?_
  refine g_getr 18 43 rfl hS.k32 hm7.f_32_18 (by decide) ?_
  refine g_getr 1 32 rfl hS.k31 hm7.f_31_1 (by decide) ?_
  refine g_getu 7 rfl hS.k32 (fun i8 ei8 => ?_)
  rw [f7 32 7 (by first | decide | exact fun z => absurd z.1 (by decide) | exact ⟨fun z => absurd z.1 (by decide), fun z => absurd z.1 (by decide)⟩ | omega), f6 32 7 (by first | decide | exact fun z => absurd z.1 (by decide) | exact ⟨fun z => absurd z.1 (by decide), fun z => absurd z.1 (by decide)⟩ | omega), f5 32 7 (by first | decide | exact fun z => absurd z.1 (by decide) | exact ⟨fun z => absurd z.1 (by decide), fun z => absurd z.1 (by decide)⟩ | omega), f4 32 7 (by first | decide | exact fun z => absurd z.1 (by decide) | exact ⟨fun z => absurd z.1 (by decide), fun z => absurd z.1 (by decide)⟩ | omega), f3 32 7 (by first | decide | exact fun z => absurd z.1 (by decide) | exact ⟨fun z => absurd z.1 (by decide), fun z => absurd z.1 (by decide)⟩ | omega), f2 32 7 (by first | decide | exact fun z => absurd z.1 (by decide) | exact ⟨fun z => absurd z.1 (by decide), fun z => absurd z.1 (by decide)⟩ | omega), f1 32 7 (by first | decide | exact fun z => absurd z.1 (by decide) | exact ⟨fun z => absurd z.1 (by decide), fun z => absurd z.1 (by decide)⟩ | omega), q7] at ei8
  refine g_st hS.k43 hS.l43 (by omega) (by omega) (hm7.wa_43 (by omega) (by omega) (by omega) (by omega)) (fun m8 e8 hm8 => ?_)
  have f8 : ∀ c p : Int, ¬ (c = 43 ∧ p = i8) → m8 c p = m7 c p := fun c p q => (congrFun (congrFun e8 _) _).trans (up_ne q)
  have s8 : m8 43 i8 = v4 := (congrFun (congrFun e8 _) _).trans (up_at _ _ _ _)
  refine g_getr 1 32 rfl hS.k31 hm8.f_31_1 (by decide) ?_
  refine g_getu 7 rfl hS.k32 (fun i9 ei9 => ?_)
  rw [f8 32 7 (by first | decide | exact fun z => absurd z.1 (by decide) | exact ⟨fun z => absurd z.1 (by decide), fun z => absurd z.1 (by decide)⟩ | omega), f7 32 7 (by first | decide | exact fun z => absurd z.1 (by decide) | exact ⟨fun z => absurd z.1 (by decide), fun z => absurd z.1 (by decide)⟩ | omega), f6 32 7 (by first | decide | exact fun z => absurd z.1 (by decide) | exact ⟨fun z => absurd z.1 (by decide), fun z => absurd z.1 (by decide)⟩ | omega), f5 32 7 (by first | decide | exact fun z => absurd z.1 (by decide) | exact ⟨fun z => absurd z.1 (by decide), fun z => absurd z.1 (by decide)⟩ | omega), f4 32 7 (by first | decide | exact fun z => absurd z.1 (by decide) | exact ⟨fun z => absurd z.1 (by decide), fun z => absurd z.1 (by decide)⟩ | omega), f3 32 7 (by first | decide | exact fun z => absurd z.1 (by decide) | exact ⟨fun z => absurd z.1 (by decide), fun z => absurd z.1 (by decide)⟩ | omega), f2 32 7 (by first | decide | exact fun z => absurd z.1 (by decide) | exact ⟨fun z => absurd z.1 (by decide), fun z => absurd z.1 (by decide)⟩ | omega), f1 32 7 (by first | decide | exact fun z => absurd z.1 (by decide) | exact ⟨fun z => absurd z.1 (by decide), fun z => absurd z.1 (by decide)⟩ | omega), q7] at ei9
  refine g_C ?_
  refine g_A (by omega) (by omega) ?_
  refine g_put 7 rfl hS.k32 (hm8.w_32_7 (by omega) (by omega)) (fun m9 e9 hm9 => ?_)
  have f9 : ∀ c p : Int, ¬ (c = 32 ∧ p = 7) → m9 c p = m8 c p := fun c p q => (congrFun (congrFun e9 _) _).trans (up_ne q)
  have s9 : m9 32 7 = i9 + 1 := (congrFun (congrFun e9 _) _).trans (up_at _ _ _ _)
  have F := fr_readWant f1 f2 f3 f4 f5 f6 f7 f8 f9 ei5 ei6 ei7 ei8
  obtain ⟨Dz, eDz⟩ : ∃ z : Dd, z = dFin D4 5 := ⟨_, rfl⟩
  rw [← eDz] at l4
  have eF : Dz = ud (ud D4 (51 + D4 6) (-1)) 6 (D4 6 + 1) := eDz
  rw [dn4] at eF
  have gz : ∀ p : Int, ¬ p = 6 → ¬ p = 51 + D 6 → Dz p = D4 p := fun p z0 z1 => by rw [eF, ud_ne z0, ud_ne z1]
  have xz : Dz 6 = D 6 + 1 := by rw [eF]; exact ud_at _ _ _
  have e12 : m9 1 2 = m4 1 2 := by rw [f9 1 2 (by first | decide | exact fun z => absurd z.1 (by decide) | exact ⟨fun z => absurd z.1 (by decide), fun z => absurd z.1 (by decide)⟩ | omega), f8 1 2 (by first | decide | exact fun z => absurd z.1 (by decide) | exact ⟨fun z => absurd z.1 (by decide), fun z => absurd z.1 (by decide)⟩ | omega), f7 1 2 (by first | decide | exact fun z => absurd z.1 (by decide) | exact ⟨fun z => absurd z.1 (by decide), fun z => absurd z.1 (by decide)⟩ | omega), f6 1 2 (by first | decide | exact fun z => absurd z.1 (by decide) | exact ⟨fun z => absurd z.1 (by decide), fun z => absurd z.1 (by decide)⟩ | omega), f5 1 2 (by first | decide | exact fun z => absurd z.1 (by decide) | exact ⟨fun z => absurd z.1 (by decide), fun z => absurd z.1 (by decide)⟩ | omega)]
  have e14 : m9 1 4 = 0 := by rw [f9 1 4 (by first | decide | exact fun z => absurd z.1 (by decide) | exact ⟨fun z => absurd z.1 (by decide), fun z => absurd z.1 (by decide)⟩ | omega), f8 1 4 (by first | decide | exact fun z => absurd z.1 (by decide) | exact ⟨fun z => absurd z.1 (by decide), fun z => absurd z.1 (by decide)⟩ | omega), f7 1 4 (by first | decide | exact fun z => absurd z.1 (by decide) | exact ⟨fun z => absurd z.1 (by decide), fun z => absurd z.1 (by decide)⟩ | omega), f6 1 4 (by first | decide | exact fun z => absurd z.1 (by decide) | exact ⟨fun z => absurd z.1 (by decide), fun z => absurd z.1 (by decide)⟩ | omega), f5 1 4 (by first | decide | exact fun z => absurd z.1 (by decide) | exact ⟨fun z => absurd z.1 (by decide), fun z => absurd z.1 (by decide)⟩ | omega)]; exact y4
  rw [← e12] at l4
  have S0 : m9 40 (D 6) = v1 := by rw [f9 40 _ (by first | decide | exact fun z => absurd z.1 (by decide) | exact ⟨fun z => absurd z.1 (by decide), fun z => absurd z.1 (by decide)⟩ | omega), f8 40 _ (by first | decide | exact fun z => absurd z.1 (by decide) | exact ⟨fun z => absurd z.1 (by decide), fun z => absurd z.1 (by decide)⟩ | omega), f7 40 _ (by first | decide | exact fun z => absurd z.1 (by decide) | exact ⟨fun z => absurd z.1 (by decide), fun z => absurd z.1 (by decide)⟩ | omega), f6 40 _ (by first | decide | exact fun z => absurd z.1 (by decide) | exact ⟨fun z => absurd z.1 (by decide), fun z => absurd z.1 (by decide)⟩ | omega), ← ei5]; exact s5
  have Z0 : Dz (93 + 4 * D 6) = v1 := by rw [gz _ (by omega) (by omega), gD4 _ (by omega), gD3 _ (by omega), gD2 _ (by omega)]; exact xD1
  have S1 : m9 41 (D 6) = v2 := by rw [f9 41 _ (by first | decide | exact fun z => absurd z.1 (by decide) | exact ⟨fun z => absurd z.1 (by decide), fun z => absurd z.1 (by decide)⟩ | omega), f8 41 _ (by first | decide | exact fun z => absurd z.1 (by decide) | exact ⟨fun z => absurd z.1 (by decide), fun z => absurd z.1 (by decide)⟩ | omega), f7 41 _ (by first | decide | exact fun z => absurd z.1 (by decide) | exact ⟨fun z => absurd z.1 (by decide), fun z => absurd z.1 (by decide)⟩ | omega), ← ei6]; exact s6
  have Z1 : Dz (93 + 4 * D 6 + 1) = v2 := by rw [gz _ (by omega) (by omega), gD4 _ (by omega), gD3 _ (by omega)]; exact xD2
  have S2 : m9 42 (D 6) = v3 := by rw [f9 42 _ (by first | decide | exact fun z => absurd z.1 (by decide) | exact ⟨fun z => absurd z.1 (by decide), fun z => absurd z.1 (by decide)⟩ | omega), f8 42 _ (by first | decide | exact fun z => absurd z.1 (by decide) | exact ⟨fun z => absurd z.1 (by decide), fun z => absurd z.1 (by decide)⟩ | omega), ← ei7]; exact s7
  have Z2 : Dz (93 + 4 * D 6 + 2) = v3 := by rw [gz _ (by omega) (by omega), gD4 _ (by omega)]; exact xD3
  have S3 : m9 43 (D 6) = v4 := by rw [f9 43 _ (by first | decide | exact fun z => absurd z.1 (by decide) | exact ⟨fun z => absurd z.1 (by decide), fun z => absurd z.1 (by decide)⟩ | omega), ← ei8]; exact s8
  have Z3 : Dz (93 + 4 * D 6 + 3) = v4 := by rw [gz _ (by omega) (by omega)]; exact xD4
  have G := gg_readWant gD1 gD2 gD3 gD4 gz
  have lz : LC Dz m9 := LC.readWant lc (by omega) (by omega) (by omega) (by omega) (by omega) nf F (by rw [s9]; omega) S0 S1 S2 S3 G xz Z0 Z1 Z2 Z3
  have dz0 : 2 ≤ Dz 0 := by rw [G 0 (by omega)]; exact d0
  have nz : m9 1 2 ≤ n := by omega
  exact g_C ⟨by decide, hk m9 Dz hm9 (fun c p z => F c p (by omega)) lz dz0 e14 nz l4⟩
