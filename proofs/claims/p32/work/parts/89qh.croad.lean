section
theorem zn_readDairy {X : Mm} {S : Sh} {m0 : Mm} {K : Int → Mm → Prop} {b : Int → Int} {n k : Int} {T : Int → Dd → Prop} {D : Dd} (hS : Shp S) (hm0 : Inv X S m0) (ht : TC X b n) (h14 : m0 1 4 = 0) (hp : m0 1 2 ≤ n) (lc : LC D m0) (l : Ld b n T 1 0 0 (m0 1 2) k D) (z3 : D 3 = 0) (z4 : D 4 = 0) (z5 : D 5 = 0) (z9 : D 9 = 0) (z6 : D 6 = 0) (hf : ∀ M1 : Mm, Inv X S M1 → (∀ c p : Int, 336 ≤ c → M1 c p = m0 c p) → ¬ M1 1 4 = 0 → T (M1 1 4) dz → K 0 M1) (hk : ∀ (M1 : Mm) (D' : Dd), Inv X S M1 → (∀ c p : Int, 336 ≤ c → M1 c p = m0 c p) → LC D' M1 → 2 ≤ D' 0 → M1 1 4 = 0 → M1 1 2 ≤ n → Ld b n T 2 0 0 (M1 1 2) k D' → K 1 M1) : wp_X0_readDairy S m0 31 K := by
  obtain ⟨⟨q0, q1, q2, q3, q4, q5, q6, q7⟩, lr, lh, lj, lt, lw, ls⟩ := lc
  refine u_X0_readDairy ?_
  refine g_getr 0 1 rfl hS.k31 hm0.f_31_0 (by decide) ?_
  refine g_C ?_
  refine g_C ?_
  refine ⟨hS.k1, ?_⟩
  refine zn_num 0 0 hS hm0 ht h14 hp l (lo := 2) (hi := 6) rfl rfl (fun m8 hm8 f8 n8 t8 => ?_) (fun q1x v1 m1 hm1 f1 lo1 hi1 g1 x1 xq1 n1 y1 ln1 _ _ => ?_)
  · refine g_C ?_
    refine g_ifF (by first | decide | omega) ?_
    refine g_C ?_
    refine u_X0_readDairy_30 ?_
    refine g_C ?_
    refine g_ifF (by first | decide | omega) ?_
    refine g_C ?_
    refine u_X0_readDairy_51 ?_
    refine g_C ?_
    refine g_ifF (by first | decide | omega) ?_
    refine g_C ?_
    exact ⟨by decide, hf m8 hm8 (fun c p z => by rw [f8 c p (by first | exact fun y => absurd (y.1 ▸ z) (by decide) | exact fun y => absurd (y.1 ▸ q) (by decide) | exact z | exact q | exact z.1 | exact q.1 | exact z.2 | exact q.2 | omega)]) n8 t8⟩
  have l1 : Ld b n T 1 0 1 (m1 1 2) k (ud D 200 v1) := ln1 (fun z => absurd z.1 (by decide)) (by decide)
  refine g_C ?_
  refine g_ifT (by first | decide | omega) ?_
  refine g_getr 0 1 rfl hS.k31 hm1.f_31_0 (by decide) ?_
  refine g_C ?_
  refine g_C ?_
  refine ⟨hS.k1, ?_⟩
  refine zn_num 0 1 hS hm1 ht y1 n1 l1 (lo := 0) (hi := 9) rfl rfl (fun m8 hm8 f8 n8 t8 => ?_) (fun q2x v2 m2 hm2 f2 lo2 hi2 g2 x2 xq2 n2 y2 ln2 _ _ => ?_)
  · refine u_X0_readDairy_30 ?_
    refine g_C ?_
    refine g_ifF (by first | decide | omega) ?_
    refine g_C ?_
    refine u_X0_readDairy_51 ?_
    refine g_C ?_
    refine g_ifF (by first | decide | omega) ?_
    refine g_C ?_
    exact ⟨by decide, hf m8 hm8 (fun c p z => by rw [f8 c p (by first | exact fun y => absurd (y.1 ▸ z) (by decide) | exact fun y => absurd (y.1 ▸ q) (by decide) | exact z | exact q | exact z.1 | exact q.1 | exact z.2 | exact q.2 | omega), f1 c p (by first | exact fun y => absurd (y.1 ▸ z) (by decide) | exact fun y => absurd (y.1 ▸ q) (by decide) | exact z | exact q | exact z.1 | exact q.1 | exact z.2 | exact q.2 | omega)]) n8 t8⟩
  have l2 : Ld b n T 1 0 2 (m2 1 2) k (ud (ud D 200 v1) 1 v2) := ln2 (fun z => absurd z.1 (by decide)) (by decide)
  refine u_X0_readDairy_30 ?_
  refine g_C ?_
  refine g_ifT (by first | decide | omega) ?_
  refine g_getr 0 1 rfl hS.k31 hm2.f_31_0 (by decide) ?_
  refine g_C ?_
  refine g_C ?_
  refine ⟨hS.k1, ?_⟩
  refine zn_num 0 2 hS hm2 ht y2 n2 l2 (lo := 10) (hi := 99) rfl rfl (fun m8 hm8 f8 n8 t8 => ?_) (fun q3x v3 m3 hm3 f3 lo3 hi3 g3 x3 xq3 n3 y3 _ le3 _ => ?_)
  · refine u_X0_readDairy_51 ?_
    refine g_C ?_
    refine g_ifF (by first | decide | omega) ?_
    refine g_C ?_
    exact ⟨by decide, hf m8 hm8 (fun c p z => by rw [f8 c p (by first | exact fun y => absurd (y.1 ▸ z) (by decide) | exact fun y => absurd (y.1 ▸ q) (by decide) | exact z | exact q | exact z.1 | exact q.1 | exact z.2 | exact q.2 | omega), f2 c p (by first | exact fun y => absurd (y.1 ▸ z) (by decide) | exact fun y => absurd (y.1 ▸ q) (by decide) | exact z | exact q | exact z.1 | exact q.1 | exact z.2 | exact q.2 | omega), f1 c p (by first | exact fun y => absurd (y.1 ▸ z) (by decide) | exact fun y => absurd (y.1 ▸ q) (by decide) | exact z | exact q | exact z.1 | exact q.1 | exact z.2 | exact q.2 | omega)]) n8 t8⟩
  have l3 : Ld b n T 2 0 0 (m3 1 2) k (dFin (ud (ud (ud D 200 v1) 1 v2) 2 v3) 0) := le3 (fun z => absurd z.1 (by decide)) rfl
  have e200 : ud (ud (ud D 200 v1) 1 v2) 2 v3 200 = v1 := by rw [ud_ne (by omega), ud_ne (by omega), ud_at]
  obtain ⟨Dz, eDz⟩ : ∃ z : Dd, z = dFin (ud (ud (ud D 200 v1) 1 v2) 2 v3) 0 := ⟨_, rfl⟩
  rw [← eDz] at l3
  have eF : Dz = ud (ud (ud (ud D 200 v1) 1 v2) 2 v3) 0 (ud (ud (ud D 200 v1) 1 v2) 2 v3 200) := eDz
  rw [e200] at eF
  have G : ∀ p : Int, ¬ p = 0 → ¬ p = 1 → ¬ p = 2 → ¬ p = 200 → Dz p = D p := fun p a1 a2 a3 a4 => by rw [eF, ud_ne (by omega), ud_ne (by omega), ud_ne (by omega), ud_ne (by omega)]
  have G0 : Dz 0 = v1 := by rw [eF]; exact ud_at _ _ _
  have G1 : Dz 1 = v2 := by rw [eF, ud_ne (by omega), ud_ne (by omega)]; exact ud_at _ _ _
  have G2 : Dz 2 = v3 := by rw [eF, ud_ne (by omega)]; exact ud_at _ _ _
  refine u_X0_readDairy_51 ?_
  refine g_C ?_
  refine g_ifT (by first | decide | omega) ?_
  refine g_getr 1 32 rfl hS.k31 hm3.f_31_1 (by decide) ?_
  refine g_put 0 rfl hS.k32 (hm3.w_32_0 (by omega) (by omega)) (fun m4 e4 hm4 => ?_)
  refine g_getr 1 32 rfl hS.k31 hm4.f_31_1 (by decide) ?_
  refine g_put 1 rfl hS.k32 (hm4.w_32_1 (by omega) (by omega)) (fun m5 e5 hm5 => ?_)
  refine g_getr 1 32 rfl hS.k31 hm5.f_31_1 (by decide) ?_
  refine g_put 2 rfl hS.k32 (hm5.w_32_2 (by omega) (by omega)) (fun m6 e6 hm6 => ?_)
  have f4 : ∀ c p : Int, ¬ (c = 32 ∧ p = 0) → m4 c p = m3 c p := fun c p q => (congrFun (congrFun e4 _) _).trans (up_ne q)
  have s4 : m4 32 0 = v1 := (congrFun (congrFun e4 _) _).trans (up_at _ _ _ _)
  have f5 : ∀ c p : Int, ¬ (c = 32 ∧ p = 1) → m5 c p = m4 c p := fun c p q => (congrFun (congrFun e5 _) _).trans (up_ne q)
  have s5 : m5 32 1 = v2 := (congrFun (congrFun e5 _) _).trans (up_at _ _ _ _)
  have f6 : ∀ c p : Int, ¬ (c = 32 ∧ p = 2) → m6 c p = m5 c p := fun c p q => (congrFun (congrFun e6 _) _).trans (up_ne q)
  have s6 : m6 32 2 = v3 := (congrFun (congrFun e6 _) _).trans (up_at _ _ _ _)
  have F : ∀ c p : Int, ¬ (c = 1 ∧ 2 ≤ p ∧ p ≤ 3) → ¬ (c = 32 ∧ (p = 0 ∨ p = 1 ∨ p = 2)) → m6 c p = m0 c p := fun c p a1 a2 => by rw [f6 c p (by first | exact fun y => absurd (y.1 ▸ z) (by decide) | exact fun y => absurd (y.1 ▸ q) (by decide) | exact z | exact q | exact z.1 | exact q.1 | exact z.2 | exact q.2 | omega), f5 c p (by first | exact fun y => absurd (y.1 ▸ z) (by decide) | exact fun y => absurd (y.1 ▸ q) (by decide) | exact z | exact q | exact z.1 | exact q.1 | exact z.2 | exact q.2 | omega), f4 c p (by first | exact fun y => absurd (y.1 ▸ z) (by decide) | exact fun y => absurd (y.1 ▸ q) (by decide) | exact z | exact q | exact z.1 | exact q.1 | exact z.2 | exact q.2 | omega), f3 c p (by first | exact fun y => absurd (y.1 ▸ z) (by decide) | exact fun y => absurd (y.1 ▸ q) (by decide) | exact z | exact q | exact z.1 | exact q.1 | exact z.2 | exact q.2 | omega), f2 c p (by first | exact fun y => absurd (y.1 ▸ z) (by decide) | exact fun y => absurd (y.1 ▸ q) (by decide) | exact z | exact q | exact z.1 | exact q.1 | exact z.2 | exact q.2 | omega), f1 c p (by first | exact fun y => absurd (y.1 ▸ z) (by decide) | exact fun y => absurd (y.1 ▸ q) (by decide) | exact z | exact q | exact z.1 | exact q.1 | exact z.2 | exact q.2 | omega)]
  have e12 : m6 1 2 = m3 1 2 := by rw [f6 1 2 (by first | decide | exact fun z => absurd z.1 (by decide) | exact ⟨fun z => absurd z.1 (by decide), fun z => absurd z.1 (by decide)⟩ | omega), f5 1 2 (by first | decide | exact fun z => absurd z.1 (by decide) | exact ⟨fun z => absurd z.1 (by decide), fun z => absurd z.1 (by decide)⟩ | omega), f4 1 2 (by first | decide | exact fun z => absurd z.1 (by decide) | exact ⟨fun z => absurd z.1 (by decide), fun z => absurd z.1 (by decide)⟩ | omega)]
  have e14 : m6 1 4 = 0 := by rw [f6 1 4 (by first | decide | exact fun z => absurd z.1 (by decide) | exact ⟨fun z => absurd z.1 (by decide), fun z => absurd z.1 (by decide)⟩ | omega), f5 1 4 (by first | decide | exact fun z => absurd z.1 (by decide) | exact ⟨fun z => absurd z.1 (by decide), fun z => absurd z.1 (by decide)⟩ | omega), f4 1 4 (by first | decide | exact fun z => absurd z.1 (by decide) | exact ⟨fun z => absurd z.1 (by decide), fun z => absurd z.1 (by decide)⟩ | omega)]; exact y3
  rw [← e12] at l3
  refine g_C ⟨by decide, hk m6 Dz hm6 (fun c p z => F c p (by omega) (by omega)) ⟨?_, ?_, ?_, ?_, ?_, ?_, ?_⟩ (by rw [G0]; exact lo1) e14 (by omega) l3⟩
  · refine ⟨?_, ?_, ?_, ?_, ?_, ?_, ?_, ?_⟩
    · rw [f6 32 0 (by first | decide | exact fun z => absurd z.1 (by decide) | exact ⟨fun z => absurd z.1 (by decide), fun z => absurd z.1 (by decide)⟩ | omega), f5 32 0 (by first | decide | exact fun z => absurd z.1 (by decide) | exact ⟨fun z => absurd z.1 (by decide), fun z => absurd z.1 (by decide)⟩ | omega), s4, G0]
    · rw [f6 32 1 (by first | decide | exact fun z => absurd z.1 (by decide) | exact ⟨fun z => absurd z.1 (by decide), fun z => absurd z.1 (by decide)⟩ | omega), s5, G1]
    · rw [s6, G2]
    · rw [F 32 3 (by first | decide | exact fun z => absurd z.1 (by decide) | exact ⟨fun z => absurd z.1 (by decide), fun z => absurd z.1 (by decide)⟩ | omega) (by first | decide | exact fun z => absurd z.1 (by decide) | exact ⟨fun z => absurd z.1 (by decide), fun z => absurd z.1 (by decide)⟩ | omega), G 3 (by omega) (by omega) (by omega) (by omega)]; exact q3
    · rw [F 32 4 (by first | decide | exact fun z => absurd z.1 (by decide) | exact ⟨fun z => absurd z.1 (by decide), fun z => absurd z.1 (by decide)⟩ | omega) (by first | decide | exact fun z => absurd z.1 (by decide) | exact ⟨fun z => absurd z.1 (by decide), fun z => absurd z.1 (by decide)⟩ | omega), G 4 (by omega) (by omega) (by omega) (by omega)]; exact q4
    · rw [F 32 5 (by first | decide | exact fun z => absurd z.1 (by decide) | exact ⟨fun z => absurd z.1 (by decide), fun z => absurd z.1 (by decide)⟩ | omega) (by first | decide | exact fun z => absurd z.1 (by decide) | exact ⟨fun z => absurd z.1 (by decide), fun z => absurd z.1 (by decide)⟩ | omega), G 5 (by omega) (by omega) (by omega) (by omega)]; exact q5
    · rw [F 32 6 (by first | decide | exact fun z => absurd z.1 (by decide) | exact ⟨fun z => absurd z.1 (by decide), fun z => absurd z.1 (by decide)⟩ | omega) (by first | decide | exact fun z => absurd z.1 (by decide) | exact ⟨fun z => absurd z.1 (by decide), fun z => absurd z.1 (by decide)⟩ | omega), G 9 (by omega) (by omega) (by omega) (by omega)]; exact q6
    · rw [F 32 7 (by first | decide | exact fun z => absurd z.1 (by decide) | exact ⟨fun z => absurd z.1 (by decide), fun z => absurd z.1 (by decide)⟩ | omega) (by first | decide | exact fun z => absurd z.1 (by decide) | exact ⟨fun z => absurd z.1 (by decide), fun z => absurd z.1 (by decide)⟩ | omega), G 6 (by omega) (by omega) (by omega) (by omega)]; exact q7
  · exact lr.keep (by omega) (fun p => F 33 p (by first | decide | exact fun z => absurd z.1 (by decide) | exact ⟨fun z => absurd z.1 (by decide), fun z => absurd z.1 (by decide)⟩ | omega) (by first | decide | exact fun z => absurd z.1 (by decide) | exact ⟨fun z => absurd z.1 (by decide), fun z => absurd z.1 (by decide)⟩ | omega)) (fun p z => G p (by omega) (by omega) (by omega) (by omega))
  · exact lh.keep (by omega) (fun c p z => F c p (by omega) (by omega)) (fun p z => G p (by omega) (by omega) (by omega) (by omega))
  · exact lj.keep (by omega) (fun c p z => F c p (by omega) (by omega)) (fun p z => G p (by omega) (by omega) (by omega) (by omega))
  · exact lt.keep (by omega) (fun c p z => F c p (by omega) (by omega)) (fun p z => G p (by omega) (by omega) (by omega) (by omega))
  · exact lw.keep (by omega) (fun c p z => F c p (by omega) (by omega)) (fun p z => G p (by omega) (by omega) (by omega) (by omega))
  · exact ls.keep (fun c p z => F c p (by omega) (by omega)) (fun i i0 i1 => F 48 i (by first | decide | exact fun z => absurd z.1 (by decide) | exact ⟨fun z => absurd z.1 (by decide), fun z => absurd z.1 (by decide)⟩ | omega) (by first | decide | exact fun z => absurd z.1 (by decide) | exact ⟨fun z => absurd z.1 (by decide), fun z => absurd z.1 (by decide)⟩ | omega)) (by rw [G 5 (by omega) (by omega) (by omega) (by omega)]; exact Int.le_refl _)
theorem zn_readRoad {X : Mm} {S : Sh} {m0 : Mm} {K : Int → Mm → Prop} {b : Int → Int} {n k : Int} {T : Int → Dd → Prop} {D : Dd} (hS : Shp S) (hm0 : Inv X S m0) (ht : TC X b n) (h14 : m0 1 4 = 0) (hp : m0 1 2 ≤ n) (lc : LC D m0) (l : Ld b n T 1 1 0 (m0 1 2) k D) (d0 : 2 ≤ D 0) (nf : D 3 < 8) (hf : ∀ M1 : Mm, Inv X S M1 → (∀ c p : Int, 336 ≤ c → M1 c p = m0 c p) → ¬ M1 1 4 = 0 → T (M1 1 4) dz → K 0 M1) (hk : ∀ (M1 : Mm) (D' : Dd), Inv X S M1 → (∀ c p : Int, 336 ≤ c → M1 c p = m0 c p) → LC D' M1 → 2 ≤ D' 0 → M1 1 4 = 0 → M1 1 2 ≤ n → Ld b n T 2 0 0 (M1 1 2) k D' → K 1 M1) : wp_X0_readRoad S m0 31 K := by
  obtain ⟨⟨q0, q1, q2, q3, q4, q5, q6, q7⟩, lr, lh, lj, lt, lw, ls⟩ := lc
  have c0 := hm0.f_32_0
  have c3 := hm0.f_32_3
  have c4 := hm0.f_32_4
  have c5 := hm0.f_32_5
  have c6 := hm0.f_32_6
  have c7 := hm0.f_32_7
  refine u_X0_readRoad ?_
  refine ⟨hS.k31, ?_⟩
  refine zn_place 1 0 hS hm0 ht h14 hp l q0 rfl rfl (fun m8 hm8 f8 n8 t8 => ?_) (fun q1x v1 m1 hm1 f1 u1 g1 x1 xq1 n1 y1 ln1 _ => ?_)
  · refine g_C ?_
    refine g_ifF (by first | decide | omega) ?_
    refine g_C ?_
    refine u_X0_readRoad_18 ?_
    refine g_C ?_
    refine g_ifF (by first | decide | omega) ?_
    refine g_C ?_
    exact ⟨by decide, hf m8 hm8 (fun c p z => by rw [f8 c p (by first | exact fun y => absurd (y.1 ▸ z) (by decide) | exact fun y => absurd (y.1 ▸ q) (by decide) | exact z | exact q | exact z.1 | exact q.1 | exact z.2 | exact q.2 | omega)]) n8 t8⟩
  have ec1 : dCl D 1 0 = 57 + 3 * D 3 := by
    show 57 + 3 * D 3 + ((0 : Nat) : Int) = _
    omega
  have l1 := ln1 (fun z => absurd z.2.1 (by decide)) (by decide)
  rw [ec1] at l1
  obtain ⟨D1, eD1⟩ : ∃ z : Dd, z = ud D (57 + 3 * D 3) v1 := ⟨_, rfl⟩
  rw [← eD1] at l1
  have gD1 : ∀ p : Int, ¬ p = 57 + 3 * D 3 → D1 p = D p := fun p z => by rw [eD1]; exact ud_ne z
  have xD1 : D1 (57 + 3 * D 3) = v1 := by rw [eD1]; exact ud_at _ _ _
  have dn1 : D1 3 = D 3 := gD1 3 (by omega)
  have d01 : D1 0 = D 0 := gD1 0 (by omega)
  refine g_C ?_
  refine g_ifT (by first | decide | omega) ?_
  refine ⟨hS.k31, ?_⟩
  refine zn_place 1 1 hS hm1 ht y1 n1 l1 (by rw [f1 32 0 (by first | decide | exact fun z => absurd z.1 (by decide) | exact ⟨fun z => absurd z.1 (by decide), fun z => absurd z.1 (by decide)⟩ | omega), d01]; exact q0) rfl rfl (fun m8 hm8 f8 n8 t8 => ?_) (fun q2x v2 m2 hm2 f2 u2 g2 x2 xq2 n2 y2 ln2 bd2 => ?_)
  · refine u_X0_readRoad_18 ?_
    refine g_C ?_
    refine g_ifF (by first | decide | omega) ?_
    refine g_C ?_
    exact ⟨by decide, hf m8 hm8 (fun c p z => by rw [f8 c p (by first | exact fun y => absurd (y.1 ▸ z) (by decide) | exact fun y => absurd (y.1 ▸ q) (by decide) | exact z | exact q | exact z.1 | exact q.1 | exact z.2 | exact q.2 | omega), f1 c p (by first | exact fun y => absurd (y.1 ▸ z) (by decide) | exact fun y => absurd (y.1 ▸ q) (by decide) | exact z | exact q | exact z.1 | exact q.1 | exact z.2 | exact q.2 | omega)]) n8 t8⟩
  have b1 : v1 = v2 → dBad D1 1 1 v2 := fun z => ⟨rfl, rfl, Or.inl (by rw [dn1, xD1]; exact z)⟩
  have rk : Rt D1 v1 v2 ↔ Rt D v1 v2 := by rw [eD1]; exact Rt_ud (by omega) (by omega)
  have b2 : Rt D v1 v2 → dBad D1 1 1 v2 := fun z => ⟨rfl, rfl, Or.inr (by rw [dn1, xD1]; exact rk.mpr z)⟩
  have b3 : ¬ v1 = v2 → ¬ Rt D v1 v2 → ¬ dBad D1 1 1 v2 := fun z1 z2 z => by
    rcases z.2.2 with y | y
    · rw [dn1, xD1] at y; exact z1 y
    · rw [dn1, xD1] at y; exact z2 (rk.mp y)
  have bad : dBad D1 1 1 v2 → wp_X0_readRoad_43 S K 31 m2 := by
    intro z
    refine u_X0_readRoad_43 ?_
    refine g_getr 0 1 rfl hS.k31 hm2.f_31_0 (by decide) ?_
    refine g_C ?_
    refine ⟨hS.k1, ?_⟩
    refine ze_refuse hS hm2 (by decide) (by decide) (fun m9 hm9 f9 y9 => ?_)
    have e9 : m9 1 4 = 2 + 8 * q2x := by omega
    refine ⟨by decide, hf m9 hm9 (fun c p z => by rw [f9 c p (by first | exact fun y => absurd (y.1 ▸ z) (by decide) | exact fun y => absurd (y.1 ▸ q) (by decide) | exact z | exact q | exact z.1 | exact q.1 | exact z.2 | exact q.2 | omega), f2 c p (by first | exact fun y => absurd (y.1 ▸ z) (by decide) | exact fun y => absurd (y.1 ▸ q) (by decide) | exact z | exact q | exact z.1 | exact q.1 | exact z.2 | exact q.2 | omega), f1 c p (by first | exact fun y => absurd (y.1 ▸ z) (by decide) | exact fun y => absurd (y.1 ▸ q) (by decide) | exact z | exact q | exact z.1 | exact q.1 | exact z.2 | exact q.2 | omega)]) (by omega) ?_⟩
    rw [e9]
    exact bd2 z
  refine u_X0_readRoad_18 ?_
  refine g_C ?_
  refine g_ifT (by first | decide | omega) ?_
  refine g_if (fun w => bad (b1 (by omega))) (fun w => ?_)
  have hr := lr v1 v2 g1 (by omega) g2 (by omega)
  have e33 : ∀ p : Int, m2 33 p = m0 33 p := fun p => (f2 33 p (by first | decide | exact fun z => absurd z.1 (by decide) | exact ⟨fun z => absurd z.1 (by decide), fun z => absurd z.1 (by decide)⟩ | omega)).trans (f1 33 p (by first | decide | exact fun z => absurd z.1 (by decide) | exact ⟨fun z => absurd z.1 (by decide), fun z => absurd z.1 (by decide)⟩ | omega))
  refine g_getr 1 32 rfl hS.k31 hm2.f_31_1 (by decide) ?_
  refine ⟨hS.k32, ?_⟩
  refine u_X8_roadHours ?_
  refine g_getr 8 33 rfl hS.k32 hm2.f_32_8 (by decide) ?_
  refine u_X8_pair ?_
  refine g_C ?_
  refine g_M (by omega) (by omega) ?_
  refine g_A (by omega) (by omega) ?_
  refine g_ldu hS.k33 hS.l33 (by omega) (by omega) (fun v ev => ?_)
  rw [e33, show v1 * 6 + v2 = 6 * v1 + v2 by omega] at ev
  refine g_if (fun w2 => ?_) (fun w2 => bad (b2 ?_))
  rotate_left
  · rcases hr with ⟨a1, a2⟩ | ⟨a1, a2⟩
    · exfalso; omega
    · obtain ⟨kk, k0, k1, k2, k3⟩ := a2
      exact ⟨kk, k0, k1, k2⟩
  have nr : ¬ Rt D v1 v2 := by
    rcases hr with ⟨a1, a2⟩ | ⟨a1, a2⟩
    · exact a2
    · exfalso; omega
  have ec2 : dCl D1 1 1 = 57 + 3 * D 3 + 1 := by
    show 57 + 3 * D1 3 + ((1 : Nat) : Int) = _
    omega
  have l2 := ln2 (b3 (by omega) nr) (by decide)
  rw [ec2] at l2
  obtain ⟨D2, eD2⟩ : ∃ z : Dd, z = ud D1 (57 + 3 * D 3 + 1) v2 := ⟨_, rfl⟩
  rw [← eD2] at l2
  have gD2 : ∀ p : Int, ¬ p = 57 + 3 * D 3 + 1 → D2 p = D1 p := fun p z => by rw [eD2]; exact ud_ne z
  have xD2 : D2 (57 + 3 * D 3 + 1) = v2 := by rw [eD2]; exact ud_at _ _ _
  have dn2 : D2 3 = D 3 := (gD2 3 (by omega)).trans dn1
  refine g_getr 0 1 rfl hS.k31 hm2.f_31_0 (by decide) ?_
  refine g_C ?_
  refine g_C ?_
  refine ⟨hS.k1, ?_⟩
  refine zn_num 1 2 hS hm2 ht y2 n2 l2 (lo := 1) (hi := 5) rfl rfl (fun m8 hm8 f8 n8 t8 => ?_) (fun q3x v3 m3 hm3 f3 lo3 hi3 g3 x3 xq3 n3 y3 _ le3 _ => ?_)
  · refine g_C ?_
    refine g_ifF (by first | decide | omega) ?_
    refine g_C ?_
    exact ⟨by decide, hf m8 hm8 (fun c p z => by rw [f8 c p (by first | exact fun y => absurd (y.1 ▸ z) (by decide) | exact fun y => absurd (y.1 ▸ q) (by decide) | exact z | exact q | exact z.1 | exact q.1 | exact z.2 | exact q.2 | omega), f2 c p (by first | exact fun y => absurd (y.1 ▸ z) (by decide) | exact fun y => absurd (y.1 ▸ q) (by decide) | exact z | exact q | exact z.1 | exact q.1 | exact z.2 | exact q.2 | omega), f1 c p (by first | exact fun y => absurd (y.1 ▸ z) (by decide) | exact fun y => absurd (y.1 ▸ q) (by decide) | exact z | exact q | exact z.1 | exact q.1 | exact z.2 | exact q.2 | omega)]) n8 t8⟩
  have ec3 : dCl D2 1 2 = 57 + 3 * D 3 + 2 := by
    show 57 + 3 * D2 3 + ((2 : Nat) : Int) = _
    omega
  have l3 := le3 (fun z => absurd z.2.1 (by decide)) rfl
  rw [ec3] at l3
  obtain ⟨D3, eD3⟩ : ∃ z : Dd, z = ud D2 (57 + 3 * D 3 + 2) v3 := ⟨_, rfl⟩
  rw [← eD3] at l3
  have gD3 : ∀ p : Int, ¬ p = 57 + 3 * D 3 + 2 → D3 p = D2 p := fun p z => by rw [eD3]; exact ud_ne z
  have xD3 : D3 (57 + 3 * D 3 + 2) = v3 := by rw [eD3]; exact ud_at _ _ _
  have dn3 : D3 3 = D 3 := (gD3 3 (by omega)).trans dn2
  obtain ⟨Dz, eDz⟩ : ∃ z : Dd, z = dFin D3 1 := ⟨_, rfl⟩
  rw [← eDz] at l3
  have eF : Dz = ud D3 3 (D3 3 + 1) := eDz
  rw [dn3] at eF
  have gz : ∀ p : Int, ¬ p = 3 → Dz p = D3 p := fun p z => by rw [eF, ud_ne z]
  have xz : Dz 3 = D 3 + 1 := by rw [eF]; exact ud_at _ _ _
  have xa : Dz (57 + 3 * D 3) = v1 := by rw [gz _ (by omega), gD3 _ (by omega), gD2 _ (by omega)]; exact xD1
  have xb : Dz (57 + 3 * D 3 + 1) = v2 := by rw [gz _ (by omega), gD3 _ (by omega)]; exact xD2
  have xc : Dz (57 + 3 * D 3 + 2) = v3 := by rw [gz _ (by omega)]; exact xD3
  have G : ∀ p : Int, ¬ p = 3 → ¬ (57 + 3 * D 3 ≤ p ∧ p ≤ 57 + 3 * D 3 + 2) → Dz p = D p := fun p a1 a2 => by rw [gz p a1, gD3 p (by omega), gD2 p (by omega), gD1 p (by omega)]
  refine g_C ?_
  refine g_ifT (by first | decide | omega) ?_
  refine g_getr 1 32 rfl hS.k31 hm3.f_31_1 (by decide) ?_
  refine ⟨hS.k32, ?_⟩
  refine u_X8_addRoad ?_
  refine g_getr 8 33 rfl hS.k32 hm3.f_32_8 (by decide) ?_
  refine u_X8_pair ?_
  refine g_C ?_
  refine g_M (by omega) (by omega) ?_
  refine g_A (by omega) (by omega) ?_
  refine g_st hS.k33 hS.l33 (by omega) (by omega) (hm3.wa_33 (by omega) (by omega) (by omega) (by omega)) (fun m4 e4 hm4 => ?_)
  refine g_getr 8 33 rfl hS.k32 hm4.f_32_8 (by decide) ?_
  refine u_X8_pair ?_
  refine g_C ?_
  refine g_M (by omega) (by omega) ?_
  refine g_A (by omega) (by omega) ?_
  refine g_st hS.k33 hS.l33 (by omega) (by omega) (hm4.wa_33 (by omega) (by omega) (by omega) (by omega)) (fun m5 e5 hm5 => ?_)
  have f4 : ∀ c p : Int, ¬ (c = 33 ∧ p = v1 * 6 + v2) → m4 c p = m3 c p := fun c p q => (congrFun (congrFun e4 _) _).trans (up_ne q)
  have s4 : m4 33 (v1 * 6 + v2) = v3 := (congrFun (congrFun e4 _) _).trans (up_at _ _ _ _)
  have f5 : ∀ c p : Int, ¬ (c = 33 ∧ p = v2 * 6 + v1) → m5 c p = m4 c p := fun c p q => (congrFun (congrFun e5 _) _).trans (up_ne q)
  have s5 : m5 33 (v2 * 6 + v1) = v3 := (congrFun (congrFun e5 _) _).trans (up_at _ _ _ _)
  refine g_getu 3 rfl hS.k32 (fun i6 ei6 => ?_)
  rw [f5 32 3 (by first | decide | exact fun z => absurd z.1 (by decide) | exact ⟨fun z => absurd z.1 (by decide), fun z => absurd z.1 (by decide)⟩ | omega), f4 32 3 (by first | decide | exact fun z => absurd z.1 (by decide) | exact ⟨fun z => absurd z.1 (by decide), fun z => absurd z.1 (by decide)⟩ | omega), f3 32 3 (by first | decide | exact fun z => absurd z.1 (by decide) | exact ⟨fun z => absurd z.1 (by decide), fun z => absurd z.1 (by decide)⟩ | omega), f2 32 3 (by first | decide | exact fun z => absurd z.1 (by decide) | exact ⟨fun z => absurd z.1 (by decide), fun z => absurd z.1 (by decide)⟩ | omega), f1 32 3 (by first | decide | exact fun z => absurd z.1 (by decide) | exact ⟨fun z => absurd z.1 (by decide), fun z => absurd z.1 (by decide)⟩ | omega), q3] at ei6
  refine g_C ?_
  refine g_A (by omega) (by omega) ?_
  refine g_put 3 rfl hS.k32 (hm5.w_32_3 (by omega) (by omega)) (fun m6 e6 hm6 => ?_)
  have f6 : ∀ c p : Int, ¬ (c = 32 ∧ p = 3) → m6 c p = m5 c p := fun c p q => (congrFun (congrFun e6 _) _).trans (up_ne q)
  have s6 : m6 32 3 = i6 + 1 := (congrFun (congrFun e6 _) _).trans (up_at _ _ _ _)
  have F : ∀ c p : Int, ¬ (c = 1 ∧ 2 ≤ p ∧ p ≤ 3) → ¬ (c = 32 ∧ p = 3) → ¬ c = 33 → m6 c p = m0 c p := fun c p a1 a2 a3 => by rw [f6 c p a2, f5 c p (by first | exact fun y => absurd (y.1 ▸ z) (by decide) | exact fun y => absurd (y.1 ▸ q) (by decide) | exact z | exact q | exact z.1 | exact q.1 | exact z.2 | exact q.2 | omega), f4 c p (by first | exact fun y => absurd (y.1 ▸ z) (by decide) | exact fun y => absurd (y.1 ▸ q) (by decide) | exact z | exact q | exact z.1 | exact q.1 | exact z.2 | exact q.2 | omega), f3 c p a1, f2 c p a1, f1 c p a1]
  have F33 : ∀ p : Int, ¬ p = v1 * 6 + v2 → ¬ p = v2 * 6 + v1 → m6 33 p = m0 33 p := fun p a1 a2 => by rw [f6 33 p (by first | decide | exact fun z => absurd z.1 (by decide) | exact ⟨fun z => absurd z.1 (by decide), fun z => absurd z.1 (by decide)⟩ | omega), f5 33 p (by first | decide | exact fun z => absurd z.1 (by decide) | exact ⟨fun z => absurd z.1 (by decide), fun z => absurd z.1 (by decide)⟩ | omega), f4 33 p (by first | decide | exact fun z => absurd z.1 (by decide) | exact ⟨fun z => absurd z.1 (by decide), fun z => absurd z.1 (by decide)⟩ | omega), f3 33 p (by first | decide | exact fun z => absurd z.1 (by decide) | exact ⟨fun z => absurd z.1 (by decide), fun z => absurd z.1 (by decide)⟩ | omega), e33]
  have t1 : m6 33 (6 * v1 + v2) = v3 := by
    rw [f6 33 _ (by first | decide | exact fun z => absurd z.1 (by decide) | exact ⟨fun z => absurd z.1 (by decide), fun z => absurd z.1 (by decide)⟩ | omega), show 6 * v1 + v2 = v1 * 6 + v2 by omega, f5 33 _ (by first | decide | exact fun z => absurd z.1 (by decide) | exact ⟨fun z => absurd z.1 (by decide), fun z => absurd z.1 (by decide)⟩ | omega)]
    exact s4
  have t2 : m6 33 (6 * v2 + v1) = v3 := by
    rw [f6 33 _ (by first | decide | exact fun z => absurd z.1 (by decide) | exact ⟨fun z => absurd z.1 (by decide), fun z => absurd z.1 (by decide)⟩ | omega), show 6 * v2 + v1 = v2 * 6 + v1 by omega]
    exact s5
  have e12 : m6 1 2 = m3 1 2 := by rw [f6 1 2 (by first | decide | exact fun z => absurd z.1 (by decide) | exact ⟨fun z => absurd z.1 (by decide), fun z => absurd z.1 (by decide)⟩ | omega), f5 1 2 (by first | decide | exact fun z => absurd z.1 (by decide) | exact ⟨fun z => absurd z.1 (by decide), fun z => absurd z.1 (by decide)⟩ | omega), f4 1 2 (by first | decide | exact fun z => absurd z.1 (by decide) | exact ⟨fun z => absurd z.1 (by decide), fun z => absurd z.1 (by decide)⟩ | omega)]
  have e14 : m6 1 4 = 0 := by rw [f6 1 4 (by first | decide | exact fun z => absurd z.1 (by decide) | exact ⟨fun z => absurd z.1 (by decide), fun z => absurd z.1 (by decide)⟩ | omega), f5 1 4 (by first | decide | exact fun z => absurd z.1 (by decide) | exact ⟨fun z => absurd z.1 (by decide), fun z => absurd z.1 (by decide)⟩ | omega), f4 1 4 (by first | decide | exact fun z => absurd z.1 (by decide) | exact ⟨fun z => absurd z.1 (by decide), fun z => absurd z.1 (by decide)⟩ | omega)]; exact y3
  rw [← e12] at l3
  refine g_C ⟨by decide, hk m6 Dz hm6 (fun c p z => F c p (by omega) (by omega) (by omega)) ⟨?_, ?_, ?_, ?_, ?_, ?_, ?_⟩ (by rw [G 0 (by omega) (by omega)]; exact d0) e14 (by omega) l3⟩
  · refine ⟨?_, ?_, ?_, ?_, ?_, ?_, ?_, ?_⟩
    · rw [F 32 0 (by first | decide | exact fun z => absurd z.1 (by decide) | exact ⟨fun z => absurd z.1 (by decide), fun z => absurd z.1 (by decide)⟩ | omega) (by first | decide | exact fun z => absurd z.1 (by decide) | exact ⟨fun z => absurd z.1 (by decide), fun z => absurd z.1 (by decide)⟩ | omega) (by first | decide | exact fun z => absurd z.1 (by decide) | exact ⟨fun z => absurd z.1 (by decide), fun z => absurd z.1 (by decide)⟩ | omega), G 0 (by omega) (by omega)]; exact q0
    · rw [F 32 1 (by first | decide | exact fun z => absurd z.1 (by decide) | exact ⟨fun z => absurd z.1 (by decide), fun z => absurd z.1 (by decide)⟩ | omega) (by first | decide | exact fun z => absurd z.1 (by decide) | exact ⟨fun z => absurd z.1 (by decide), fun z => absurd z.1 (by decide)⟩ | omega) (by first | decide | exact fun z => absurd z.1 (by decide) | exact ⟨fun z => absurd z.1 (by decide), fun z => absurd z.1 (by decide)⟩ | omega), G 1 (by omega) (by omega)]; exact q1
    · rw [F 32 2 (by first | decide | exact fun z => absurd z.1 (by decide) | exact ⟨fun z => absurd z.1 (by decide), fun z => absurd z.1 (by decide)⟩ | omega) (by first | decide | exact fun z => absurd z.1 (by decide) | exact ⟨fun z => absurd z.1 (by decide), fun z => absurd z.1 (by decide)⟩ | omega) (by first | decide | exact fun z => absurd z.1 (by decide) | exact ⟨fun z => absurd z.1 (by decide), fun z => absurd z.1 (by decide)⟩ | omega), G 2 (by omega) (by omega)]; exact q2
    · rw [s6, xz]; omega
    · rw [F 32 4 (by first | decide | exact fun z => absurd z.1 (by decide) | exact ⟨fun z => absurd z.1 (by decide), fun z => absurd z.1 (by decide)⟩ | omega) (by first | decide | exact fun z => absurd z.1 (by decide) | exact ⟨fun z => absurd z.1 (by decide), fun z => absurd z.1 (by decide)⟩ | omega) (by first | decide | exact fun z => absurd z.1 (by decide) | exact ⟨fun z => absurd z.1 (by decide), fun z => absurd z.1 (by decide)⟩ | omega), G 4 (by omega) (by omega)]; exact q4
    · rw [F 32 5 (by first | decide | exact fun z => absurd z.1 (by decide) | exact ⟨fun z => absurd z.1 (by decide), fun z => absurd z.1 (by decide)⟩ | omega) (by first | decide | exact fun z => absurd z.1 (by decide) | exact ⟨fun z => absurd z.1 (by decide), fun z => absurd z.1 (by decide)⟩ | omega) (by first | decide | exact fun z => absurd z.1 (by decide) | exact ⟨fun z => absurd z.1 (by decide), fun z => absurd z.1 (by decide)⟩ | omega), G 5 (by omega) (by omega)]; exact q5
    · rw [F 32 6 (by first | decide | exact fun z => absurd z.1 (by decide) | exact ⟨fun z => absurd z.1 (by decide), fun z => absurd z.1 (by decide)⟩ | omega) (by first | decide | exact fun z => absurd z.1 (by decide) | exact ⟨fun z => absurd z.1 (by decide), fun z => absurd z.1 (by decide)⟩ | omega) (by first | decide | exact fun z => absurd z.1 (by decide) | exact ⟨fun z => absurd z.1 (by decide), fun z => absurd z.1 (by decide)⟩ | omega), G 9 (by omega) (by omega)]; exact q6
    · rw [F 32 7 (by first | decide | exact fun z => absurd z.1 (by decide) | exact ⟨fun z => absurd z.1 (by decide), fun z => absurd z.1 (by decide)⟩ | omega) (by first | decide | exact fun z => absurd z.1 (by decide) | exact ⟨fun z => absurd z.1 (by decide), fun z => absurd z.1 (by decide)⟩ | omega) (by first | decide | exact fun z => absurd z.1 (by decide) | exact ⟨fun z => absurd z.1 (by decide), fun z => absurd z.1 (by decide)⟩ | omega), G 6 (by omega) (by omega)]; exact q7
  · intro a c a0 a1 c0' c1'
    by_cases ea : a = v1 ∧ c = v2
    · refine Or.inr ⟨by rw [ea.1, ea.2, t1]; omega, D 3, by omega, by omega, Or.inl ⟨by rw [xa]; exact ea.1.symm, by rw [xb]; exact ea.2.symm⟩, by rw [ea.1, ea.2, t1, xc]⟩
    · by_cases eb : a = v2 ∧ c = v1
      · refine Or.inr ⟨by rw [eb.1, eb.2, t2]; omega, D 3, by omega, by omega, Or.inr ⟨by rw [xa]; exact eb.2.symm, by rw [xb]; exact eb.1.symm⟩, by rw [eb.1, eb.2, t2, xc]⟩
      · rw [F33 _ (by omega) (by omega)]
        rcases lr a c a0 a1 c0' c1' with ⟨h1, h2⟩ | ⟨h1, kk, k0, k1, h2, h3⟩
        · refine Or.inl ⟨h1, fun z => h2 ?_⟩
          obtain ⟨kk, k0, k1, hz⟩ := z
          by_cases e : kk = D 3
          · rw [e, xa, xb] at hz
            exfalso; omega
          · rw [G _ (by omega) (by omega), G _ (by omega) (by omega)] at hz
            exact ⟨kk, k0, by omega, hz⟩
        · refine Or.inr ⟨h1, kk, k0, by omega, ?_, ?_⟩
          · rw [G _ (by omega) (by omega), G _ (by omega) (by omega)]; exact h2
          · rw [G _ (by omega) (by omega)]; exact h3
  · exact lh.keep (by omega) (fun c p z => F c p (by omega) (by omega) (by omega)) (fun p z => G p (by omega) (by omega))
  · exact lj.keep (by omega) (fun c p z => F c p (by omega) (by omega) (by omega)) (fun p z => G p (by omega) (by omega))
  · exact lt.keep (by omega) (fun c p z => F c p (by omega) (by omega) (by omega)) (fun p z => G p (by omega) (by omega))
  · exact lw.keep (by omega) (fun c p z => F c p (by omega) (by omega) (by omega)) (fun p z => G p (by omega) (by omega))
  · exact ls.keep (fun c p z => F c p (by omega) (by omega) (by omega)) (fun i i0 i1 => F 48 i (by first | decide | exact fun z => absurd z.1 (by decide) | exact ⟨fun z => absurd z.1 (by decide), fun z => absurd z.1 (by decide)⟩ | omega) (by first | decide | exact fun z => absurd z.1 (by decide) | exact ⟨fun z => absurd z.1 (by decide), fun z => absurd z.1 (by decide)⟩ | omega) (by first | decide | exact fun z => absurd z.1 (by decide) | exact ⟨fun z => absurd z.1 (by decide), fun z => absurd z.1 (by decide)⟩ | omega)) (by rw [G 5 (by omega) (by omega)]; exact Int.le_refl _)
end
section
theorem g_cpyx {X : Mm} {S : Sh} {M : Mm} {x y : Int} {n1 n2 : Nat} {n : Int} {K : Mm → Prop} (hk : isK S x 14) (hk2 : isK S y 14) (hn1 : S.2.2 x = n1) (hn2 : S.2.2 y = n2) (hb : 0 ≤ n ∧ n ≤ n1 ∧ n ≤ n2) (hw : Inv X S (cpM M x 0 y 0 n)) (h : ∀ M' : Mm, Inv X S M' → (∀ c p : Int, ¬ (c = y ∧ 0 ≤ p ∧ p < n) → M' c p = M c p) → (∀ p : Int, 0 ≤ p → p < n → M' y p = M x p) → K M') : wCpy S M x 0 y 0 n K := by
  refine ⟨hk, hk2, ⟨by decide, by decide, hb.1, by rw [hn1]; omega, by rw [hn2]; omega⟩, h _ hw (fun c p q => ?_) (fun p p0 p1 => ?_)⟩
  · unfold cpM
    rw [if_neg (fun z => q ⟨z.1, z.2.1, by have := z.2.2; omega⟩)]
  · unfold cpM
    rw [if_pos ⟨rfl, p0, by omega⟩, show 0 + (p - 0) = p by omega]
theorem s_fillx {X : Mm} {S : Sh} {M : Mm} {c v : Int} {n : Nat} {K : Mm → Prop} (hm : Inv X S M) (hk : isK S c 14) (hl : S.2.2 c = n) (hn : n ≤ 6000) (hw : ∀ (M : Mm) (i : Int), Inv X S M → 0 ≤ i → i < n → Inv X S (up M c i v)) (H : ∀ M' : Mm, Inv X S M' → (∀ c' p : Int, ¬ c' = c → M' c' p = M c' p) → (∀ p : Int, 0 ≤ p → p < n → M' c p = v) → K M') : wp_J7_fill_53178 S M c v K := by
  have key : ∀ (k : Nat) (i : Int) (M1 : Mm), Inv X S M1 → 0 ≤ i → i ≤ n → (∀ c' p : Int, ¬ c' = c → M1 c' p = M c' p) → (∀ p : Int, 0 ≤ p → p < i → M1 c p = v) → (n : Int) + 1 - i ≤ k → wp_J7_fill_53178_5 S K k c v i n M1 := by
    intro k
    induction k with
    | zero => intro i M1 _ _ _ _ _ h4; exfalso; omega
    | succ k ih =>
      intro i M1 h1 h2 h3 hf hv h4
      refine g_if (fun q => H M1 h1 hf (fun p p0 p1 => hv p p0 (by omega))) (fun q => ?_)
      refine g_st hk hl h2 (by omega) (hw M1 i h1 h2 (by omega)) (fun M2 e2 h5 => ?_)
      refine g_A (by omega) (by omega) ?_
      refine ih (i + 1) M2 h5 (by omega) (by omega) (fun c' p q => ?_) (fun p p0 p1 => ?_) (by omega)
      · rw [e2, up_ne (fun z => q z.1)]
        exact hf c' p q
      · rw [e2]
        by_cases e : p = i
        · rw [e]; exact up_at _ _ _ _
        · rw [up_ne (fun z => e z.2)]
          exact hv p p0 (by omega)
  refine g_C ?_
  refine g_len (n : Int) hk hl ⟨rfl, by omega⟩ ?_
  exact ⟨n + 1, key (n + 1) 0 M hm (by omega) (by omega) (fun _ _ _ => rfl) (fun p p0 p1 => absurd p1 (by omega)) (by omega)⟩
theorem zb_told {X : Mm} {S : Sh} {m0 : Mm} {K : Mm → Prop} {u0 u1 : Int} (hS : Shp S) (hm0 : Inv X S m0) (hb0 : isTo u0) (hb1 : isTo u1) (hd : u1 + 11 < u0 ∨ u0 + 11 < u1) (hk : ∀ M1 : Mm, Inv X S M1 → (∀ c p : Int, ¬ (u0 ≤ c ∧ c ≤ u0 + 11) → M1 c p = m0 c p) → M1 u0 0 = m0 u1 0 → M1 u0 1 = m0 u1 1 → M1 u0 2 = m0 u1 2 → M1 u0 3 = m0 u1 3 → M1 u0 4 = m0 u1 4 → M1 u0 5 = m0 u1 5 → M1 u0 6 = m0 u1 6 → M1 u0 7 = m0 u1 7 → (∀ p : Int, 0 ≤ p → p < 36 → M1 (u0 + 1) p = m0 (u1 + 1) p) → (∀ p : Int, 0 ≤ p → p < 36 → M1 (u0 + 2) p = m0 (u1 + 2) p) → (∀ p : Int, 0 ≤ p → p < 5 → M1 (u0 + 3) p = m0 (u1 + 3) p) → (∀ p : Int, 0 ≤ p → p < 5 → M1 (u0 + 4) p = m0 (u1 + 4) p) → (∀ p : Int, 0 ≤ p → p < 4 → M1 (u0 + 5) p = m0 (u1 + 5) p) → (∀ p : Int, 0 ≤ p → p < 4 → M1 (u0 + 6) p = m0 (u1 + 6) p) → (∀ p : Int, 0 ≤ p → p < 4 → M1 (u0 + 7) p = m0 (u1 + 7) p) → (∀ p : Int, 0 ≤ p → p < 6 → M1 (u0 + 8) p = m0 (u1 + 8) p) → (∀ p : Int, 0 ≤ p → p < 6 → M1 (u0 + 9) p = m0 (u1 + 9) p) → (∀ p : Int, 0 ≤ p → p < 6 → M1 (u0 + 10) p = m0 (u1 + 10) p) → (∀ p : Int, 0 ≤ p → p < 6 → M1 (u0 + 11) p = m0 (u1 + 11) p) → K M1) : wp_X8_become S m0 u0 u1 K := by
  refine u_X8_become ?_
  refine g_get 0 (0) (6) rfl (hS.kB_8_0 hb1) (hm0.fB_8_0 hb1) (fun v0 ev0 bv0 cv0 => ?_)
  refine g_put 0 rfl (hS.kB_8_0 hb0) (hm0.wB_8_0 hb0 (by omega) (by omega)) (fun m1 e1 hm1 => ?_)
  have f1 : ∀ c p : Int, ¬ (c = u0 ∧ p = 0) → m1 c p = m0 c p := fun c p q => (congrFun (congrFun e1 _) _).trans (up_ne q)
  have x1 : m1 u0 0 = v0 := (congrFun (congrFun e1 _) _).trans (up_at _ _ _ _)
  refine g_get 1 (0) (9) rfl (hS.kB_8_0 hb1) (hm1.fB_8_1 hb1) (fun v1 ev1 bv1 cv1 => ?_)
  refine g_put 1 rfl (hS.kB_8_0 hb0) (hm1.wB_8_1 hb0 (by omega) (by omega)) (fun m2 e2 hm2 => ?_)
  have f2 : ∀ c p : Int, ¬ (c = u0 ∧ p = 1) → m2 c p = m1 c p := fun c p q => (congrFun (congrFun e2 _) _).trans (up_ne q)
  have x2 : m2 u0 1 = v1 := (congrFun (congrFun e2 _) _).trans (up_at _ _ _ _)
  refine g_get 2 (0) (99) rfl (hS.kB_8_0 hb1) (hm2.fB_8_2 hb1) (fun v2 ev2 bv2 cv2 => ?_)
  refine g_put 2 rfl (hS.kB_8_0 hb0) (hm2.wB_8_2 hb0 (by omega) (by omega)) (fun m3 e3 hm3 => ?_)
  have f3 : ∀ c p : Int, ¬ (c = u0 ∧ p = 2) → m3 c p = m2 c p := fun c p q => (congrFun (congrFun e3 _) _).trans (up_ne q)
  have x3 : m3 u0 2 = v2 := (congrFun (congrFun e3 _) _).trans (up_at _ _ _ _)
  refine g_get 3 (0) (8) rfl (hS.kB_8_0 hb1) (hm3.fB_8_3 hb1) (fun v3 ev3 bv3 cv3 => ?_)
  refine g_put 3 rfl (hS.kB_8_0 hb0) (hm3.wB_8_3 hb0 (by omega) (by omega)) (fun m4 e4 hm4 => ?_)
  have f4 : ∀ c p : Int, ¬ (c = u0 ∧ p = 3) → m4 c p = m3 c p := fun c p q => (congrFun (congrFun e4 _) _).trans (up_ne q)
  have x4 : m4 u0 3 = v3 := (congrFun (congrFun e4 _) _).trans (up_at _ _ _ _)
  refine g_get 4 (0) (5) rfl (hS.kB_8_0 hb1) (hm4.fB_8_4 hb1) (fun v4 ev4 bv4 cv4 => ?_)
  refine g_put 4 rfl (hS.kB_8_0 hb0) (hm4.wB_8_4 hb0 (by omega) (by omega)) (fun m5 e5 hm5 => ?_)
  have f5 : ∀ c p : Int, ¬ (c = u0 ∧ p = 4) → m5 c p = m4 c p := fun c p q => (congrFun (congrFun e5 _) _).trans (up_ne q)
  have x5 : m5 u0 4 = v4 := (congrFun (congrFun e5 _) _).trans (up_at _ _ _ _)
  refine g_get 5 (0) (4) rfl (hS.kB_8_0 hb1) (hm5.fB_8_5 hb1) (fun v5 ev5 bv5 cv5 => ?_)
  refine g_put 5 rfl (hS.kB_8_0 hb0) (hm5.wB_8_5 hb0 (by omega) (by omega)) (fun m6 e6 hm6 => ?_)
  have f6 : ∀ c p : Int, ¬ (c = u0 ∧ p = 5) → m6 c p = m5 c p := fun c p q => (congrFun (congrFun e6 _) _).trans (up_ne q)
  have x6 : m6 u0 5 = v5 := (congrFun (congrFun e6 _) _).trans (up_at _ _ _ _)
  refine g_get 6 (0) (4) rfl (hS.kB_8_0 hb1) (hm6.fB_8_6 hb1) (fun v6 ev6 bv6 cv6 => ?_)
  refine g_put 6 rfl (hS.kB_8_0 hb0) (hm6.wB_8_6 hb0 (by omega) (by omega)) (fun m7 e7 hm7 => ?_)
  have f7 : ∀ c p : Int, ¬ (c = u0 ∧ p = 6) → m7 c p = m6 c p := fun c p q => (congrFun (congrFun e7 _) _).trans (up_ne q)
  have x7 : m7 u0 6 = v6 := (congrFun (congrFun e7 _) _).trans (up_at _ _ _ _)
  refine g_get 7 (0) (6) rfl (hS.kB_8_0 hb1) (hm7.fB_8_7 hb1) (fun v7 ev7 bv7 cv7 => ?_)
  refine g_put 7 rfl (hS.kB_8_0 hb0) (hm7.wB_8_7 hb0 (by omega) (by omega)) (fun m8 e8 hm8 => ?_)
  have f8 : ∀ c p : Int, ¬ (c = u0 ∧ p = 7) → m8 c p = m7 c p := fun c p q => (congrFun (congrFun e8 _) _).trans (up_ne q)
  have x8 : m8 u0 7 = v7 := (congrFun (congrFun e8 _) _).trans (up_at _ _ _ _)
  refine g_getr 8 (u1 + 1) rfl (hS.kB_8_0 hb1) (hm8.fB_8_8 hb1) (hS.nB_8_1 hb1) ?_
  refine g_C ?_
  refine g_getr 8 (u0 + 1) rfl (hS.kB_8_0 hb0) (hm8.fB_8_8 hb0) (hS.nB_8_1 hb0) ?_
  refine g_C ?_
  refine g_getr 8 (u0 + 1) rfl (hS.kB_8_0 hb0) (hm8.fB_8_8 hb0) (hS.nB_8_1 hb0) ?_
  refine g_len 36 (hS.kB_8_1 hb0) (hS.lB_8_1 hb0) (by decide) ?_
  refine g_cpyx (hS.kB_8_1 hb1) (hS.kB_8_1 hb0) (hS.lB_8_1 hb1) (hS.lB_8_1 hb0) (by decide) (hm8.cpB_8_1 hb1 hb0 (by decide)) (fun m9 hm9 f9 y9 => ?_)
  refine g_getr 9 (u1 + 2) rfl (hS.kB_8_0 hb1) (hm9.fB_8_9 hb1) (hS.nB_8_2 hb1) ?_
  refine g_C ?_
  refine g_getr 9 (u0 + 2) rfl (hS.kB_8_0 hb0) (hm9.fB_8_9 hb0) (hS.nB_8_2 hb0) ?_
  refine g_C ?_
  refine g_getr 9 (u0 + 2) rfl (hS.kB_8_0 hb0) (hm9.fB_8_9 hb0) (hS.nB_8_2 hb0) ?_
  refine g_len 36 (hS.kB_8_2 hb0) (hS.lB_8_2 hb0) (by decide) ?_
  refine g_cpyx (hS.kB_8_2 hb1) (hS.kB_8_2 hb0) (hS.lB_8_2 hb1) (hS.lB_8_2 hb0) (by decide) (hm9.cpB_8_2 hb1 hb0 (by decide)) (fun m10 hm10 f10 y10 => ?_)
  refine g_getr 10 (u1 + 3) rfl (hS.kB_8_0 hb1) (hm10.fB_8_10 hb1) (hS.nB_8_3 hb1) ?_
  refine g_C ?_
  refine g_getr 10 (u0 + 3) rfl (hS.kB_8_0 hb0) (hm10.fB_8_10 hb0) (hS.nB_8_3 hb0) ?_
  refine g_C ?_
  refine g_C ?_
  refine g_cpyx (hS.kB_8_3 hb1) (hS.kB_8_3 hb0) (hS.lB_8_3 hb1) (hS.lB_8_3 hb0) (by decide) (hm10.cpB_8_3 hb1 hb0 (by decide)) (fun m11 hm11 f11 y11 => ?_)
  refine g_getr 11 (u1 + 4) rfl (hS.kB_8_0 hb1) (hm11.fB_8_11 hb1) (hS.nB_8_4 hb1) ?_
  refine g_C ?_
  refine g_getr 11 (u0 + 4) rfl (hS.kB_8_0 hb0) (hm11.fB_8_11 hb0) (hS.nB_8_4 hb0) ?_
  refine g_C ?_
  refine g_C ?_
  refine g_cpyx (hS.kB_8_4 hb1) (hS.kB_8_4 hb0) (hS.lB_8_4 hb1) (hS.lB_8_4 hb0) (by decide) (hm11.cpB_8_4 hb1 hb0 (by decide)) (fun m12 hm12 f12 y12 => ?_)
  refine g_getr 12 (u1 + 5) rfl (hS.kB_8_0 hb1) (hm12.fB_8_12 hb1) (hS.nB_8_5 hb1) ?_
  refine g_C ?_
  refine g_getr 12 (u0 + 5) rfl (hS.kB_8_0 hb0) (hm12.fB_8_12 hb0) (hS.nB_8_5 hb0) ?_
  refine g_C ?_
  refine g_C ?_
  refine g_cpyx (hS.kB_8_5 hb1) (hS.kB_8_5 hb0) (hS.lB_8_5 hb1) (hS.lB_8_5 hb0) (by decide) (hm12.cpB_8_5 hb1 hb0 (by decide)) (fun m13 hm13 f13 y13 => ?_)
  refine g_getr 13 (u1 + 6) rfl (hS.kB_8_0 hb1) (hm13.fB_8_13 hb1) (hS.nB_8_6 hb1) ?_
  refine g_C ?_
  refine g_getr 13 (u0 + 6) rfl (hS.kB_8_0 hb0) (hm13.fB_8_13 hb0) (hS.nB_8_6 hb0) ?_
  refine g_C ?_
  refine g_C ?_
  refine g_cpyx (hS.kB_8_6 hb1) (hS.kB_8_6 hb0) (hS.lB_8_6 hb1) (hS.lB_8_6 hb0) (by decide) (hm13.cpB_8_6 hb1 hb0 (by decide)) (fun m14 hm14 f14 y14 => ?_)
  refine g_getr 14 (u1 + 7) rfl (hS.kB_8_0 hb1) (hm14.fB_8_14 hb1) (hS.nB_8_7 hb1) ?_
  refine g_C ?_
  refine g_getr 14 (u0 + 7) rfl (hS.kB_8_0 hb0) (hm14.fB_8_14 hb0) (hS.nB_8_7 hb0) ?_
  refine g_C ?_
  refine g_C ?_
  refine g_cpyx (hS.kB_8_7 hb1) (hS.kB_8_7 hb0) (hS.lB_8_7 hb1) (hS.lB_8_7 hb0) (by decide) (hm14.cpB_8_7 hb1 hb0 (by decide)) (fun m15 hm15 f15 y15 => ?_)
  refine g_getr 15 (u1 + 8) rfl (hS.kB_8_0 hb1) (hm15.fB_8_15 hb1) (hS.nB_8_8 hb1) ?_
  refine g_C ?_
  refine g_getr 15 (u0 + 8) rfl (hS.kB_8_0 hb0) (hm15.fB_8_15 hb0) (hS.nB_8_8 hb0) ?_
  refine g_C ?_
  refine g_C ?_
  refine g_cpyx (hS.kB_8_8 hb1) (hS.kB_8_8 hb0) (hS.lB_8_8 hb1) (hS.lB_8_8 hb0) (by decide) (hm15.cpB_8_8 hb1 hb0 (by decide)) (fun m16 hm16 f16 y16 => ?_)
  refine g_getr 16 (u1 + 9) rfl (hS.kB_8_0 hb1) (hm16.fB_8_16 hb1) (hS.nB_8_9 hb1) ?_
  refine g_C ?_
  refine g_getr 16 (u0 + 9) rfl (hS.kB_8_0 hb0) (hm16.fB_8_16 hb0) (hS.nB_8_9 hb0) ?_
  refine g_C ?_
  refine g_C ?_
  refine g_cpyx (hS.kB_8_9 hb1) (hS.kB_8_9 hb0) (hS.lB_8_9 hb1) (hS.lB_8_9 hb0) (by decide) (hm16.cpB_8_9 hb1 hb0 (by decide)) (fun m17 hm17 f17 y17 => ?_)
  refine g_getr 17 (u1 + 10) rfl (hS.kB_8_0 hb1) (hm17.fB_8_17 hb1) (hS.nB_8_10 hb1) ?_
  refine g_C ?_
  refine g_getr 17 (u0 + 10) rfl (hS.kB_8_0 hb0) (hm17.fB_8_17 hb0) (hS.nB_8_10 hb0) ?_
  refine g_C ?_
  refine g_C ?_
  refine g_cpyx (hS.kB_8_10 hb1) (hS.kB_8_10 hb0) (hS.lB_8_10 hb1) (hS.lB_8_10 hb0) (by decide) (hm17.cpB_8_10 hb1 hb0 (by decide)) (fun m18 hm18 f18 y18 => ?_)
  refine g_getr 18 (u1 + 11) rfl (hS.kB_8_0 hb1) (hm18.fB_8_18 hb1) (hS.nB_8_11 hb1) ?_
  refine g_C ?_
  refine g_getr 18 (u0 + 11) rfl (hS.kB_8_0 hb0) (hm18.fB_8_18 hb0) (hS.nB_8_11 hb0) ?_
  refine g_C ?_
  refine g_C ?_
  refine g_cpyx (hS.kB_8_11 hb1) (hS.kB_8_11 hb0) (hS.lB_8_11 hb1) (hS.lB_8_11 hb0) (by decide) (hm18.cpB_8_11 hb1 hb0 (by decide)) (fun m19 hm19 f19 y19 => ?_)
  refine hk m19 hm19 (fun c p q => by rw [f19 c p (by omega), f18 c p (by omega), f17 c p (by omega), f16 c p (by omega), f15 c p (by omega), f14 c p (by omega), f13 c p (by omega), f12 c p (by omega), f11 c p (by omega), f10 c p (by omega), f9 c p (by omega), f8 c p (by omega), f7 c p (by omega), f6 c p (by omega), f5 c p (by omega), f4 c p (by omega), f3 c p (by omega), f2 c p (by omega), f1 c p (by omega)]) ?_ ?_ ?_ ?_ ?_ ?_ ?_ ?_ (fun p p0 p1 => ?_) (fun p p0 p1 => ?_) (fun p p0 p1 => ?_) (fun p p0 p1 => ?_) (fun p p0 p1 => ?_) (fun p p0 p1 => ?_) (fun p p0 p1 => ?_) (fun p p0 p1 => ?_) (fun p p0 p1 => ?_) (fun p p0 p1 => ?_) (fun p p0 p1 => ?_)
  · rw [f19 u0 0 (by omega), f18 u0 0 (by omega), f17 u0 0 (by omega), f16 u0 0 (by omega), f15 u0 0 (by omega), f14 u0 0 (by omega), f13 u0 0 (by omega), f12 u0 0 (by omega), f11 u0 0 (by omega), f10 u0 0 (by omega), f9 u0 0 (by omega), f8 u0 0 (by omega), f7 u0 0 (by omega), f6 u0 0 (by omega), f5 u0 0 (by omega), f4 u0 0 (by omega), f3 u0 0 (by omega), f2 u0 0 (by omega), x1, ev0]
  · rw [f19 u0 1 (by omega), f18 u0 1 (by omega), f17 u0 1 (by omega), f16 u0 1 (by omega), f15 u0 1 (by omega), f14 u0 1 (by omega), f13 u0 1 (by omega), f12 u0 1 (by omega), f11 u0 1 (by omega), f10 u0 1 (by omega), f9 u0 1 (by omega), f8 u0 1 (by omega), f7 u0 1 (by omega), f6 u0 1 (by omega), f5 u0 1 (by omega), f4 u0 1 (by omega), f3 u0 1 (by omega), x2, ev1, f1 u1 1 (by omega)]
  · rw [f19 u0 2 (by omega), f18 u0 2 (by omega), f17 u0 2 (by omega), f16 u0 2 (by omega), f15 u0 2 (by omega), f14 u0 2 (by omega), f13 u0 2 (by omega), f12 u0 2 (by omega), f11 u0 2 (by omega), f10 u0 2 (by omega), f9 u0 2 (by omega), f8 u0 2 (by omega), f7 u0 2 (by omega), f6 u0 2 (by omega), f5 u0 2 (by omega), f4 u0 2 (by omega), x3, ev2, f2 u1 2 (by omega), f1 u1 2 (by omega)]
  · rw [f19 u0 3 (by omega), f18 u0 3 (by omega), f17 u0 3 (by omega), f16 u0 3 (by omega), f15 u0 3 (by omega), f14 u0 3 (by omega), f13 u0 3 (by omega), f12 u0 3 (by omega), f11 u0 3 (by omega), f10 u0 3 (by omega), f9 u0 3 (by omega), f8 u0 3 (by omega), f7 u0 3 (by omega), f6 u0 3 (by omega), f5 u0 3 (by omega), x4, ev3, f3 u1 3 (by omega), f2 u1 3 (by omega), f1 u1 3 (by omega)]
  · rw [f19 u0 4 (by omega), f18 u0 4 (by omega), f17 u0 4 (by omega), f16 u0 4 (by omega), f15 u0 4 (by omega), f14 u0 4 (by omega), f13 u0 4 (by omega), f12 u0 4 (by omega), f11 u0 4 (by omega), f10 u0 4 (by omega), f9 u0 4 (by omega), f8 u0 4 (by omega), f7 u0 4 (by omega), f6 u0 4 (by omega), x5, ev4, f4 u1 4 (by omega), f3 u1 4 (by omega), f2 u1 4 (by omega), f1 u1 4 (by omega)]
  · rw [f19 u0 5 (by omega), f18 u0 5 (by omega), f17 u0 5 (by omega), f16 u0 5 (by omega), f15 u0 5 (by omega), f14 u0 5 (by omega), f13 u0 5 (by omega), f12 u0 5 (by omega), f11 u0 5 (by omega), f10 u0 5 (by omega), f9 u0 5 (by omega), f8 u0 5 (by omega), f7 u0 5 (by omega), x6, ev5, f5 u1 5 (by omega), f4 u1 5 (by omega), f3 u1 5 (by omega), f2 u1 5 (by omega), f1 u1 5 (by omega)]
  · rw [f19 u0 6 (by omega), f18 u0 6 (by omega), f17 u0 6 (by omega), f16 u0 6 (by omega), f15 u0 6 (by omega), f14 u0 6 (by omega), f13 u0 6 (by omega), f12 u0 6 (by omega), f11 u0 6 (by omega), f10 u0 6 (by omega), f9 u0 6 (by omega), f8 u0 6 (by omega), x7, ev6, f6 u1 6 (by omega), f5 u1 6 (by omega), f4 u1 6 (by omega), f3 u1 6 (by omega), f2 u1 6 (by omega), f1 u1 6 (by omega)]
  · rw [f19 u0 7 (by omega), f18 u0 7 (by omega), f17 u0 7 (by omega), f16 u0 7 (by omega), f15 u0 7 (by omega), f14 u0 7 (by omega), f13 u0 7 (by omega), f12 u0 7 (by omega), f11 u0 7 (by omega), f10 u0 7 (by omega), f9 u0 7 (by omega), x8, ev7, f7 u1 7 (by omega), f6 u1 7 (by omega), f5 u1 7 (by omega), f4 u1 7 (by omega), f3 u1 7 (by omega), f2 u1 7 (by omega), f1 u1 7 (by omega)]
  · rw [f19 (u0 + 1) p (by omega), f18 (u0 + 1) p (by omega), f17 (u0 + 1) p (by omega), f16 (u0 + 1) p (by omega), f15 (u0 + 1) p (by omega), f14 (u0 + 1) p (by omega), f13 (u0 + 1) p (by omega), f12 (u0 + 1) p (by omega), f11 (u0 + 1) p (by omega), f10 (u0 + 1) p (by omega), y9 p p0 p1, f8 (u1 + 1) p (by omega), f7 (u1 + 1) p (by omega), f6 (u1 + 1) p (by omega), f5 (u1 + 1) p (by omega), f4 (u1 + 1) p (by omega), f3 (u1 + 1) p (by omega), f2 (u1 + 1) p (by omega), f1 (u1 + 1) p (by omega)]
  · rw [f19 (u0 + 2) p (by omega), f18 (u0 + 2) p (by omega), f17 (u0 + 2) p (by omega), f16 (u0 + 2) p (by omega), f15 (u0 + 2) p (by omega), f14 (u0 + 2) p (by omega), f13 (u0 + 2) p (by omega), f12 (u0 + 2) p (by omega), f11 (u0 + 2) p (by omega), y10 p p0 p1, f9 (u1 + 2) p (by omega), f8 (u1 + 2) p (by omega), f7 (u1 + 2) p (by omega), f6 (u1 + 2) p (by omega), f5 (u1 + 2) p (by omega), f4 (u1 + 2) p (by omega), f3 (u1 + 2) p (by omega), f2 (u1 + 2) p (by omega), f1 (u1 + 2) p (by omega)]
  · rw [f19 (u0 + 3) p (by omega), f18 (u0 + 3) p (by omega), f17 (u0 + 3) p (by omega), f16 (u0 + 3) p (by omega), f15 (u0 + 3) p (by omega), f14 (u0 + 3) p (by omega), f13 (u0 + 3) p (by omega), f12 (u0 + 3) p (by omega), y11 p p0 p1, f10 (u1 + 3) p (by omega), f9 (u1 + 3) p (by omega), f8 (u1 + 3) p (by omega), f7 (u1 + 3) p (by omega), f6 (u1 + 3) p (by omega), f5 (u1 + 3) p (by omega), f4 (u1 + 3) p (by omega), f3 (u1 + 3) p (by omega), f2 (u1 + 3) p (by omega), f1 (u1 + 3) p (by omega)]
  · rw [f19 (u0 + 4) p (by omega), f18 (u0 + 4) p (by omega), f17 (u0 + 4) p (by omega), f16 (u0 + 4) p (by omega), f15 (u0 + 4) p (by omega), f14 (u0 + 4) p (by omega), f13 (u0 + 4) p (by omega), y12 p p0 p1, f11 (u1 + 4) p (by omega), f10 (u1 + 4) p (by omega), f9 (u1 + 4) p (by omega), f8 (u1 + 4) p (by omega), f7 (u1 + 4) p (by omega), f6 (u1 + 4) p (by omega), f5 (u1 + 4) p (by omega), f4 (u1 + 4) p (by omega), f3 (u1 + 4) p (by omega), f2 (u1 + 4) p (by omega), f1 (u1 + 4) p (by omega)]
  · rw [f19 (u0 + 5) p (by omega), f18 (u0 + 5) p (by omega), f17 (u0 + 5) p (by omega), f16 (u0 + 5) p (by omega), f15 (u0 + 5) p (by omega), f14 (u0 + 5) p (by omega), y13 p p0 p1, f12 (u1 + 5) p (by omega), f11 (u1 + 5) p (by omega), f10 (u1 + 5) p (by omega), f9 (u1 + 5) p (by omega), f8 (u1 + 5) p (by omega), f7 (u1 + 5) p (by omega), f6 (u1 + 5) p (by omega), f5 (u1 + 5) p (by omega), f4 (u1 + 5) p (by omega), f3 (u1 + 5) p (by omega), f2 (u1 + 5) p (by omega), f1 (u1 + 5) p (by omega)]
  · rw [f19 (u0 + 6) p (by omega), f18 (u0 + 6) p (by omega), f17 (u0 + 6) p (by omega), f16 (u0 + 6) p (by omega), f15 (u0 + 6) p (by omega), y14 p p0 p1, f13 (u1 + 6) p (by omega), f12 (u1 + 6) p (by omega), f11 (u1 + 6) p (by omega), f10 (u1 + 6) p (by omega), f9 (u1 + 6) p (by omega), f8 (u1 + 6) p (by omega), f7 (u1 + 6) p (by omega), f6 (u1 + 6) p (by omega), f5 (u1 + 6) p (by omega), f4 (u1 + 6) p (by omega), f3 (u1 + 6) p (by omega), f2 (u1 + 6) p (by omega), f1 (u1 + 6) p (by omega)]
  · rw [f19 (u0 + 7) p (by omega), f18 (u0 + 7) p (by omega), f17 (u0 + 7) p (by omega), f16 (u0 + 7) p (by omega), y15 p p0 p1, f14 (u1 + 7) p (by omega), f13 (u1 + 7) p (by omega), f12 (u1 + 7) p (by omega), f11 (u1 + 7) p (by omega), f10 (u1 + 7) p (by omega), f9 (u1 + 7) p (by omega), f8 (u1 + 7) p (by omega), f7 (u1 + 7) p (by omega), f6 (u1 + 7) p (by omega), f5 (u1 + 7) p (by omega), f4 (u1 + 7) p (by omega), f3 (u1 + 7) p (by omega), f2 (u1 + 7) p (by omega), f1 (u1 + 7) p (by omega)]
  · rw [f19 (u0 + 8) p (by omega), f18 (u0 + 8) p (by omega), f17 (u0 + 8) p (by omega), y16 p p0 p1, f15 (u1 + 8) p (by omega), f14 (u1 + 8) p (by omega), f13 (u1 + 8) p (by omega), f12 (u1 + 8) p (by omega), f11 (u1 + 8) p (by omega), f10 (u1 + 8) p (by omega), f9 (u1 + 8) p (by omega), f8 (u1 + 8) p (by omega), f7 (u1 + 8) p (by omega), f6 (u1 + 8) p (by omega), f5 (u1 + 8) p (by omega), f4 (u1 + 8) p (by omega), f3 (u1 + 8) p (by omega), f2 (u1 + 8) p (by omega), f1 (u1 + 8) p (by omega)]
  · rw [f19 (u0 + 9) p (by omega), f18 (u0 + 9) p (by omega), y17 p p0 p1, f16 (u1 + 9) p (by omega), f15 (u1 + 9) p (by omega), f14 (u1 + 9) p (by omega), f13 (u1 + 9) p (by omega), f12 (u1 + 9) p (by omega), f11 (u1 + 9) p (by omega), f10 (u1 + 9) p (by omega), f9 (u1 + 9) p (by omega), f8 (u1 + 9) p (by omega), f7 (u1 + 9) p (by omega), f6 (u1 + 9) p (by omega), f5 (u1 + 9) p (by omega), f4 (u1 + 9) p (by omega), f3 (u1 + 9) p (by omega), f2 (u1 + 9) p (by omega), f1 (u1 + 9) p (by omega)]
  · rw [f19 (u0 + 10) p (by omega), y18 p p0 p1, f17 (u1 + 10) p (by omega), f16 (u1 + 10) p (by omega), f15 (u1 + 10) p (by omega), f14 (u1 + 10) p (by omega), f13 (u1 + 10) p (by omega), f12 (u1 + 10) p (by omega), f11 (u1 + 10) p (by omega), f10 (u1 + 10) p (by omega), f9 (u1 + 10) p (by omega), f8 (u1 + 10) p (by omega), f7 (u1 + 10) p (by omega), f6 (u1 + 10) p (by omega), f5 (u1 + 10) p (by omega), f4 (u1 + 10) p (by omega), f3 (u1 + 10) p (by omega), f2 (u1 + 10) p (by omega), f1 (u1 + 10) p (by omega)]
  · rw [y19 p p0 p1, f18 (u1 + 11) p (by omega), f17 (u1 + 11) p (by omega), f16 (u1 + 11) p (by omega), f15 (u1 + 11) p (by omega), f14 (u1 + 11) p (by omega), f13 (u1 + 11) p (by omega), f12 (u1 + 11) p (by omega), f11 (u1 + 11) p (by omega), f10 (u1 + 11) p (by omega), f9 (u1 + 11) p (by omega), f8 (u1 + 11) p (by omega), f7 (u1 + 11) p (by omega), f6 (u1 + 11) p (by omega), f5 (u1 + 11) p (by omega), f4 (u1 + 11) p (by omega), f3 (u1 + 11) p (by omega), f2 (u1 + 11) p (by omega), f1 (u1 + 11) p (by omega)]
theorem zb_state {X : Mm} {S : Sh} {m0 : Mm} {K : Mm → Prop} {u0 u1 : Int} (hS : Shp S) (hm0 : Inv X S m0) (hb0 : isSt u0) (hb1 : isSt u1) (hd : u1 + 7 < u0 ∨ u0 + 7 < u1) (hk : ∀ M1 : Mm, Inv X S M1 → (∀ c p : Int, ¬ (u0 ≤ c ∧ c ≤ u0 + 7) → M1 c p = m0 c p) → M1 u0 0 = m0 u1 0 → M1 u0 1 = m0 u1 1 → (∀ p : Int, 0 ≤ p → p < 5 → M1 (u0 + 1) p = m0 (u1 + 1) p) → (∀ p : Int, 0 ≤ p → p < 5 → M1 (u0 + 2) p = m0 (u1 + 2) p) → (∀ p : Int, 0 ≤ p → p < 5 → M1 (u0 + 3) p = m0 (u1 + 3) p) → (∀ p : Int, 0 ≤ p → p < 4 → M1 (u0 + 4) p = m0 (u1 + 4) p) → (∀ p : Int, 0 ≤ p → p < 4 → M1 (u0 + 5) p = m0 (u1 + 5) p) → (∀ p : Int, 0 ≤ p → p < 4 → M1 (u0 + 6) p = m0 (u1 + 6) p) → (∀ p : Int, 0 ≤ p → p < 6 → M1 (u0 + 7) p = m0 (u1 + 7) p) → K M1) : wp_X5_become S m0 u0 u1 K := by
  refine u_X5_become ?_
  refine g_get 0 (0) (999) rfl (hS.kB_5_0 hb1) (hm0.fB_5_0 hb1) (fun v0 ev0 bv0 cv0 => ?_)
  refine g_put 0 rfl (hS.kB_5_0 hb0) (hm0.wB_5_0 hb0 (by omega) (by omega)) (fun m1 e1 hm1 => ?_)
  have f1 : ∀ c p : Int, ¬ (c = u0 ∧ p = 0) → m1 c p = m0 c p := fun c p q => (congrFun (congrFun e1 _) _).trans (up_ne q)
  have x1 : m1 u0 0 = v0 := (congrFun (congrFun e1 _) _).trans (up_at _ _ _ _)
  refine g_get 1 (-2147483648) (2147483647) rfl (hS.kB_5_0 hb1) (hm1.fB_5_1 hb1) (fun v1 ev1 bv1 cv1 => ?_)
  refine g_put 1 rfl (hS.kB_5_0 hb0) (hm1.wB_5_1 hb0 (by omega) (by omega)) (fun m2 e2 hm2 => ?_)
  have f2 : ∀ c p : Int, ¬ (c = u0 ∧ p = 1) → m2 c p = m1 c p := fun c p q => (congrFun (congrFun e2 _) _).trans (up_ne q)
  have x2 : m2 u0 1 = v1 := (congrFun (congrFun e2 _) _).trans (up_at _ _ _ _)
  refine g_getr 2 (u1 + 1) rfl (hS.kB_5_0 hb1) (hm2.fB_5_2 hb1) (hS.nB_5_1 hb1) ?_
  refine g_C ?_
  refine g_getr 2 (u0 + 1) rfl (hS.kB_5_0 hb0) (hm2.fB_5_2 hb0) (hS.nB_5_1 hb0) ?_
  refine g_C ?_
  refine g_C ?_
  refine g_cpyx (hS.kB_5_1 hb1) (hS.kB_5_1 hb0) (hS.lB_5_1 hb1) (hS.lB_5_1 hb0) (by decide) (hm2.cpB_5_1 hb1 hb0 (by decide)) (fun m3 hm3 f3 y3 => ?_)
  refine g_getr 3 (u1 + 2) rfl (hS.kB_5_0 hb1) (hm3.fB_5_3 hb1) (hS.nB_5_2 hb1) ?_
  refine g_C ?_
  refine g_getr 3 (u0 + 2) rfl (hS.kB_5_0 hb0) (hm3.fB_5_3 hb0) (hS.nB_5_2 hb0) ?_
  refine g_C ?_
  refine g_C ?_
  refine g_cpyx (hS.kB_5_2 hb1) (hS.kB_5_2 hb0) (hS.lB_5_2 hb1) (hS.lB_5_2 hb0) (by decide) (hm3.cpB_5_2 hb1 hb0 (by decide)) (fun m4 hm4 f4 y4 => ?_)
  refine g_getr 4 (u1 + 3) rfl (hS.kB_5_0 hb1) (hm4.fB_5_4 hb1) (hS.nB_5_3 hb1) ?_
  refine g_C ?_
  refine g_getr 4 (u0 + 3) rfl (hS.kB_5_0 hb0) (hm4.fB_5_4 hb0) (hS.nB_5_3 hb0) ?_
  refine g_C ?_
  refine g_C ?_
  refine g_cpyx (hS.kB_5_3 hb1) (hS.kB_5_3 hb0) (hS.lB_5_3 hb1) (hS.lB_5_3 hb0) (by decide) (hm4.cpB_5_3 hb1 hb0 (by decide)) (fun m5 hm5 f5 y5 => ?_)
  refine g_getr 5 (u1 + 4) rfl (hS.kB_5_0 hb1) (hm5.fB_5_5 hb1) (hS.nB_5_4 hb1) ?_
  refine g_C ?_
  refine g_getr 5 (u0 + 4) rfl (hS.kB_5_0 hb0) (hm5.fB_5_5 hb0) (hS.nB_5_4 hb0) ?_
  refine g_C ?_
  refine g_C ?_
  refine g_cpyx (hS.kB_5_4 hb1) (hS.kB_5_4 hb0) (hS.lB_5_4 hb1) (hS.lB_5_4 hb0) (by decide) (hm5.cpB_5_4 hb1 hb0 (by decide)) (fun m6 hm6 f6 y6 => ?_)
  refine g_getr 6 (u1 + 5) rfl (hS.kB_5_0 hb1) (hm6.fB_5_6 hb1) (hS.nB_5_5 hb1) ?_
  refine g_C ?_
  refine g_getr 6 (u0 + 5) rfl (hS.kB_5_0 hb0) (hm6.fB_5_6 hb0) (hS.nB_5_5 hb0) ?_
  refine g_C ?_
  refine g_C ?_
  refine g_cpyx (hS.kB_5_5 hb1) (hS.kB_5_5 hb0) (hS.lB_5_5 hb1) (hS.lB_5_5 hb0) (by decide) (hm6.cpB_5_5 hb1 hb0 (by decide)) (fun m7 hm7 f7 y7 => ?_)
  refine g_getr 7 (u1 + 6) rfl (hS.kB_5_0 hb1) (hm7.fB_5_7 hb1) (hS.nB_5_6 hb1) ?_
  refine g_C ?_
  refine g_getr 7 (u0 + 6) rfl (hS.kB_5_0 hb0) (hm7.fB_5_7 hb0) (hS.nB_5_6 hb0) ?_
  refine g_C ?_
  refine g_C ?_
  refine g_cpyx (hS.kB_5_6 hb1) (hS.kB_5_6 hb0) (hS.lB_5_6 hb1) (hS.lB_5_6 hb0) (by decide) (hm7.cpB_5_6 hb1 hb0 (by decide)) (fun m8 hm8 f8 y8 => ?_)
  refine g_getr 8 (u1 + 7) rfl (hS.kB_5_0 hb1) (hm8.fB_5_8 hb1) (hS.nB_5_7 hb1) ?_
  refine g_C ?_
  refine g_getr 8 (u0 + 7) rfl (hS.kB_5_0 hb0) (hm8.fB_5_8 hb0) (hS.nB_5_7 hb0) ?_
  refine g_C ?_
  refine g_C ?_
  refine g_cpyx (hS.kB_5_7 hb1) (hS.kB_5_7 hb0) (hS.lB_5_7 hb1) (hS.lB_5_7 hb0) (by decide) (hm8.cpB_5_7 hb1 hb0 (by decide)) (fun m9 hm9 f9 y9 => ?_)
  refine hk m9 hm9 (fun c p q => by rw [f9 c p (by omega), f8 c p (by omega), f7 c p (by omega), f6 c p (by omega), f5 c p (by omega), f4 c p (by omega), f3 c p (by omega), f2 c p (by omega), f1 c p (by omega)]) ?_ ?_ (fun p p0 p1 => ?_) (fun p p0 p1 => ?_) (fun p p0 p1 => ?_) (fun p p0 p1 => ?_) (fun p p0 p1 => ?_) (fun p p0 p1 => ?_) (fun p p0 p1 => ?_)
  · rw [f9 u0 0 (by omega), f8 u0 0 (by omega), f7 u0 0 (by omega), f6 u0 0 (by omega), f5 u0 0 (by omega), f4 u0 0 (by omega), f3 u0 0 (by omega), f2 u0 0 (by omega), x1, ev0]
  · rw [f9 u0 1 (by omega), f8 u0 1 (by omega), f7 u0 1 (by omega), f6 u0 1 (by omega), f5 u0 1 (by omega), f4 u0 1 (by omega), f3 u0 1 (by omega), x2, ev1, f1 u1 1 (by omega)]
  · rw [f9 (u0 + 1) p (by omega), f8 (u0 + 1) p (by omega), f7 (u0 + 1) p (by omega), f6 (u0 + 1) p (by omega), f5 (u0 + 1) p (by omega), f4 (u0 + 1) p (by omega), y3 p p0 p1, f2 (u1 + 1) p (by omega), f1 (u1 + 1) p (by omega)]
  · rw [f9 (u0 + 2) p (by omega), f8 (u0 + 2) p (by omega), f7 (u0 + 2) p (by omega), f6 (u0 + 2) p (by omega), f5 (u0 + 2) p (by omega), y4 p p0 p1, f3 (u1 + 2) p (by omega), f2 (u1 + 2) p (by omega), f1 (u1 + 2) p (by omega)]
  · rw [f9 (u0 + 3) p (by omega), f8 (u0 + 3) p (by omega), f7 (u0 + 3) p (by omega), f6 (u0 + 3) p (by omega), y5 p p0 p1, f4 (u1 + 3) p (by omega), f3 (u1 + 3) p (by omega), f2 (u1 + 3) p (by omega), f1 (u1 + 3) p (by omega)]
  · rw [f9 (u0 + 4) p (by omega), f8 (u0 + 4) p (by omega), f7 (u0 + 4) p (by omega), y6 p p0 p1, f5 (u1 + 4) p (by omega), f4 (u1 + 4) p (by omega), f3 (u1 + 4) p (by omega), f2 (u1 + 4) p (by omega), f1 (u1 + 4) p (by omega)]
  · rw [f9 (u0 + 5) p (by omega), f8 (u0 + 5) p (by omega), y7 p p0 p1, f6 (u1 + 5) p (by omega), f5 (u1 + 5) p (by omega), f4 (u1 + 5) p (by omega), f3 (u1 + 5) p (by omega), f2 (u1 + 5) p (by omega), f1 (u1 + 5) p (by omega)]
  · rw [f9 (u0 + 6) p (by omega), y8 p p0 p1, f7 (u1 + 6) p (by omega), f6 (u1 + 6) p (by omega), f5 (u1 + 6) p (by omega), f4 (u1 + 6) p (by omega), f3 (u1 + 6) p (by omega), f2 (u1 + 6) p (by omega), f1 (u1 + 6) p (by omega)]
  · rw [y9 p p0 p1, f8 (u1 + 7) p (by omega), f7 (u1 + 7) p (by omega), f6 (u1 + 7) p (by omega), f5 (u1 + 7) p (by omega), f4 (u1 + 7) p (by omega), f3 (u1 + 7) p (by omega), f2 (u1 + 7) p (by omega), f1 (u1 + 7) p (by omega)]
end
section
/-! the WAYS of a DAIRY as told: PLACES, HOURS of ROADS, HOURS of WAYS -/
def Wok (P : Int) (f g : Int → Int) : Prop := P ≤ 6 ∧ (∀ a : Int, 0 ≤ a → a < P → g (6 * a + a) = 0) ∧ (∀ a b : Int, 0 ≤ a → a < P → 0 ≤ b → b < P → 0 ≤ g (6 * a + b) ∧ g (6 * a + b) ≤ 1000) ∧ (∀ a b c : Int, 0 ≤ a → a < P → 0 ≤ b → b < P → 0 ≤ c → c < P → 0 < f (6 * a + b) → g (6 * a + c) ≤ f (6 * a + b) + g (6 * b + c)) ∧ (∀ a c : Int, 0 ≤ a → a < P → 0 ≤ c → c < P → ¬ a = c → g (6 * a + c) < 1000 → ∃ b : Int, 0 ≤ b ∧ b < P ∧ 0 < f (6 * a + b) ∧ f (6 * a + b) + g (6 * b + c) ≤ g (6 * a + c))
theorem Wok.move {P P' : Int} {f f' g g' : Int → Int} (h : Wok P f g) (e0 : P' = P) (e1 : ∀ p : Int, 0 ≤ p → p < 36 → f' p = f p) (e2 : ∀ p : Int, 0 ≤ p → p < 36 → g' p = g p) : Wok P' f' g' := by
  subst e0
  obtain ⟨p6, h0, h1, h2, h3⟩ := h
  have F : ∀ a b : Int, 0 ≤ a → a < P' → 0 ≤ b → b < P' → f' (6 * a + b) = f (6 * a + b) := fun a b a0 a1 b0 b1 => e1 _ (by omega) (by omega)
  have G : ∀ a b : Int, 0 ≤ a → a < P' → 0 ≤ b → b < P' → g' (6 * a + b) = g (6 * a + b) := fun a b a0 a1 b0 b1 => e2 _ (by omega) (by omega)
  refine ⟨p6, fun a a0 a1 => ?_, fun a b a0 a1 b0 b1 => ?_, fun a b c a0 a1 b0 b1 c0 c1 q => ?_, fun a c a0 a1 c0 c1 n q => ?_⟩
  · rw [G a a a0 a1 a0 a1]; exact h0 a a0 a1
  · rw [G a b a0 a1 b0 b1]; exact h1 a b a0 a1 b0 b1
  · rw [F a b a0 a1 b0 b1] at q ⊢
    rw [G a c a0 a1 c0 c1, G b c b0 b1 c0 c1]
    exact h2 a b c a0 a1 b0 b1 c0 c1 q
  · rw [G a c a0 a1 c0 c1] at q ⊢
    obtain ⟨b, b0, b1, r1, r2⟩ := h3 a c a0 a1 c0 c1 n q
    refine ⟨b, b0, b1, ?_, ?_⟩
    · rw [F a b a0 a1 b0 b1]; exact r1
    · rw [F a b a0 a1 b0 b1, G b c b0 b1 c0 c1]; exact r2
theorem Wok.none {P : Int} {f g : Int → Int} (h : P ≤ 0) : Wok P f g := ⟨by omega, fun a a0 a1 => by omega, fun a b a0 a1 => by omega, fun a b c a0 a1 => by omega, fun a c a0 a1 => by omega⟩
/-- behind k rounds -/
def FWk (P : Int) (f : Int → Int) (G : Int → Int → Int) (k : Int) : Prop := (∀ a : Int, 0 ≤ a → a < P → G a a = 0) ∧ (∀ a b : Int, 0 ≤ a → a < P → 0 ≤ b → b < P → 0 ≤ G a b ∧ G a b ≤ 1000) ∧ (∀ a b : Int, 0 ≤ a → a < P → 0 ≤ b → b < P → 0 < f (6 * a + b) → G a b ≤ f (6 * a + b)) ∧ (∀ a c j : Int, 0 ≤ a → a < P → 0 ≤ c → c < P → 0 ≤ j → j < P → j < k → G a c ≤ G a j + G j c) ∧ (∀ a c : Int, 0 ≤ a → a < P → 0 ≤ c → c < P → ¬ a = c → G a c < 1000 → ∃ b : Int, 0 ≤ b ∧ b < P ∧ 0 < f (6 * a + b) ∧ f (6 * a + b) + G b c ≤ G a c)
theorem FWk.step {P k : Int} {f : Int → Int} {G H : Int → Int → Int} (h : FWk P f G k) (k0 : 0 ≤ k) (k1 : k < P) (e : ∀ a c : Int, 0 ≤ a → a < P → 0 ≤ c → c < P → H a c = min (G a c) (G a k + G k c)) : FWk P f H (k + 1) := by
  obtain ⟨h0, h1, h2, h3, h4⟩ := h
  have gk := h0 k k0 k1
  refine ⟨fun a a0 a1 => ?_, fun a b a0 a1 b0 b1 => ?_, fun a b a0 a1 b0 b1 q => ?_, fun a c j a0 a1 c0 c1 j0 j1 jk => ?_, fun a c a0 a1 c0 c1 n q => ?_⟩
  · have e1 := e a a a0 a1 a0 a1
    have z := h0 a a0 a1
    have z1 := (h1 a k a0 a1 k0 k1).1
    have z2 := (h1 k a k0 k1 a0 a1).1
    omega
  · have e1 := e a b a0 a1 b0 b1
    have z := h1 a b a0 a1 b0 b1
    have z1 := (h1 a k a0 a1 k0 k1).1
    have z2 := (h1 k b k0 k1 b0 b1).1
    omega
  · have e1 := e a b a0 a1 b0 b1
    have z := h2 a b a0 a1 b0 b1 q
    omega
  · have e1 := e a c a0 a1 c0 c1
    have e2 := e a j a0 a1 j0 j1
    have e3 := e j c j0 j1 c0 c1
    by_cases z : j = k
    · subst z
      omega
    · have t1 := h3 a c j a0 a1 c0 c1 j0 j1 (by omega)
      have t2 := h3 k c j k0 k1 c0 c1 j0 j1 (by omega)
      have t3 := h3 a k j a0 a1 k0 k1 j0 j1 (by omega)
      have n1 := (h1 k j k0 k1 j0 j1).1
      have n2 := (h1 j k j0 j1 k0 k1).1
      omega
  · have e1 := e a c a0 a1 c0 c1
    by_cases z : G a c ≤ G a k + G k c
    · obtain ⟨b, b0, b1, r1, r2⟩ := h4 a c a0 a1 c0 c1 n (by omega)
      have e2 := e b c b0 b1 c0 c1
      exact ⟨b, b0, b1, r1, by omega⟩
    · by_cases z2 : a = k
      · subst z2
        omega
      · have n1 := (h1 k c k0 k1 c0 c1).1
        obtain ⟨b, b0, b1, r1, r2⟩ := h4 a k a0 a1 k0 k1 z2 (by omega)
        have e2 := e b c b0 b1 c0 c1
        exact ⟨b, b0, b1, r1, by omega⟩
theorem FWk.ok {P : Int} {f g : Int → Int} (h : FWk P f (fun a b => g (6 * a + b)) P) (p6 : P ≤ 6) : Wok P f g := by
  obtain ⟨h0, h1, h2, h3, h4⟩ := h
  refine ⟨p6, h0, h1, fun a b c a0 a1 b0 b1 c0 c1 q => ?_, h4⟩
  have z : g (6 * a + c) ≤ g (6 * a + b) + g (6 * b + c) := h3 a c b a0 a1 c0 c1 b0 b1 b1
  have z2 : g (6 * a + b) ≤ f (6 * a + b) := h2 a b a0 a1 b0 b1 q
  omega
theorem zm_measureWays {X : Mm} {S : Sh} {m0 : Mm} {K : Mm → Prop} (hS : Shp S) (hm0 : Inv X S m0) (hk : ∀ (M1 : Mm), Inv X S M1 → (∀ c p : Int, ¬ c = 34 → M1 c p = m0 c p) → Wok (M1 32 0) (M1 33) (M1 34) → K M1) : wp_X8_measureWays S m0 32 K := by
  obtain ⟨P, eP⟩ : ∃ P : Int, P = m0 32 0 := ⟨_, rfl⟩
  have bP := hm0.f_32_0
  rw [← eP] at bP
  obtain ⟨f, ef⟩ : ∃ f : Int → Int, f = m0 33 := ⟨_, rfl⟩
  have fb : ∀ a b : Int, 0 ≤ a → a < P → 0 ≤ b → b < P → 0 ≤ f (6 * a + b) ∧ f (6 * a + b) ≤ 5 := fun a b a0 a1 b0 b1 => by
    rw [ef]
    exact hm0.a_33 (by omega) (by omega)
  have ix : ∀ a b : Int, a * 6 + b = 6 * a + b := fun a b => by omega
  -- round by round
  have L91 : ∀ (G : Int → Int → Int) (k a : Int) (g1 : Int → Int → Mm → Prop) (g2 : Int → Int → Int → Mm → Prop), 0 ≤ k → k < P → 0 ≤ a → a < P → (∀ x y : Int, 0 ≤ x → x < P → 0 ≤ y → y < P → 0 ≤ G x y ∧ G x y ≤ 1000) → G k k = 0 → (∀ M' : Mm, Inv X S M' → (∀ c p : Int, ¬ c = 34 → M' c p = m0 c p) → (∀ x y : Int, 0 ≤ x → x < P → 0 ≤ y → y < P → M' 34 (6 * x + y) = if x < a + 1 then min (G x y) (G x k + G k y) else G x y) → g2 32 k (a + 1) M') → ∀ (l c : Nat) (M : Mm), (c : Int) ≤ P → Inv X S M → (∀ c p : Int, ¬ c = 34 → M c p = m0 c p) → (∀ x y : Int, 0 ≤ x → x < P → 0 ≤ y → y < P → M 34 (6 * x + y) = if x < a ∨ (x = a ∧ y < (c : Int)) then min (G x y) (G x k + G k y) else G x y) → 7 - c ≤ l → wp_X8_measureWays_91 S g1 g2 K l 32 k a c M := by
    intro G k a g1 g2 k0 k1 a0 a1 gb gk hg l
    induction l with
    | zero => intro c M c1 _ _ _ hl; exfalso; omega
    | succ l ih =>
      intro c M c1 hM F T hl
      refine u_X8_measureWays_91 ?_
      refine g_getu 0 rfl hS.k32 (fun v ev => ?_)
      rw [F 32 0 (by first | decide | exact fun z => absurd z.1 (by decide) | exact ⟨fun z => absurd z.1 (by decide), fun z => absurd z.1 (by decide)⟩ | omega), ← eP] at ev
      refine g_if (fun q => ?_) (fun q => ?_)
      · refine g_A (by omega) (by omega) ?_
        refine hg M hM F (fun x y x0 x1 y0 y1 => ?_)
        rw [T x y x0 x1 y0 y1]
        by_cases z : x < a + 1
        · rw [if_pos z, if_pos (by omega)]
        · rw [if_neg z, if_neg (by omega)]
      have c0 : (0 : Int) ≤ (c : Int) := by omega
      have c2 : (c : Int) < P := by omega
      have t1 := T a k a0 a1 k0 k1
      have t2 := T k c k0 k1 c0 c2
      have t3 := T a c a0 a1 c0 c2
      have b1 := gb a k a0 a1 k0 k1
      have b2 := gb k c k0 k1 c0 c2
      have b3 := gb a c a0 a1 c0 c2
      have s1 : M 34 (6 * a + k) = G a k := by
        rw [t1]
        split
        · omega
        · rfl
      have s2 : M 34 (6 * k + c) = G k c := by
        rw [t2]
        split
        · omega
        · rfl
      have s3 : M 34 (6 * a + c) = G a c := by
        rw [t3, if_neg (by omega)]
      refine g_getr 9 34 rfl hS.k32 hM.f_32_9 (by decide) ?_
      refine u_X8_pair ?_
      refine g_C ?_
      refine g_M (by omega) (by omega) ?_
      refine g_A (by omega) (by omega) ?_
      rw [ix a k]
      refine g_ldu hS.k34 hS.l34 (by omega) (by omega) (fun v1 e1 => ?_)
      rw [s1] at e1
      refine g_getr 9 34 rfl hS.k32 hM.f_32_9 (by decide) ?_
      refine u_X8_pair ?_
      refine g_C ?_
      refine g_M (by omega) (by omega) ?_
      refine g_A (by omega) (by omega) ?_
      rw [ix k c]
      refine g_ldu hS.k34 hS.l34 (by omega) (by omega) (fun v2 e2 => ?_)
      rw [s2] at e2
      refine g_A (by omega) (by omega) ?_
      refine g_getr 9 34 rfl hS.k32 hM.f_32_9 (by decide) ?_
      refine u_X8_pair ?_
      refine g_C ?_
      refine g_M (by omega) (by omega) ?_
      refine g_A (by omega) (by omega) ?_
      refine g_getr 9 34 rfl hS.k32 hM.f_32_9 (by decide) ?_
      refine u_X8_pair ?_
      refine g_C ?_
      refine g_M (by omega) (by omega) ?_
      refine g_A (by omega) (by omega) ?_
      rw [ix a c]
      refine g_ldu hS.k34 hS.l34 (by omega) (by omega) (fun v3 e3 => ?_)
      rw [s3] at e3
      refine g_Oe (fun v4 e4 => ?_)
      refine g_st hS.k34 hS.l34 (by omega) (by omega) (hM.wa_34 (by omega) (by omega) (by omega) (by omega)) (fun m2 em hm2 => ?_)
      have f2 : ∀ c' p : Int, ¬ (c' = 34 ∧ p = 6 * a + (c : Int)) → m2 c' p = M c' p := fun c p q => (congrFun (congrFun em _) _).trans (up_ne q)
      have y2 : m2 34 (6 * a + (c : Int)) = v4 := (congrFun (congrFun em _) _).trans (up_at _ _ _ _)
      refine g_A (by omega) (by omega) ?_
      refine ih (c + 1) m2 (by omega) hm2 (fun c' p q => by rw [f2 c' p (by omega), F c' p q]) (fun x y x0 x1 y0 y1 => ?_) (by omega)
      by_cases z : x = a ∧ y = (c : Int)
      · obtain ⟨z1, z2⟩ := z
        rw [z1, z2, y2, if_pos (by omega), e4, e3, e1, e2]
      · rw [f2 34 _ (by first | decide | exact fun z => absurd z.1 (by decide) | exact ⟨fun z => absurd z.1 (by decide), fun z => absurd z.1 (by decide)⟩ | omega), T x y x0 x1 y0 y1]
        by_cases w : x < a ∨ (x = a ∧ y < (c : Int))
        · rw [if_pos w, if_pos (by omega)]
        · rw [if_neg w, if_neg (by omega)]
  have L81 : ∀ (G : Int → Int → Int) (k : Int) (g1 : Int → Int → Mm → Prop), 0 ≤ k → k < P → (∀ x y : Int, 0 ≤ x → x < P → 0 ≤ y → y < P → 0 ≤ G x y ∧ G x y ≤ 1000) → G k k = 0 → (∀ M' : Mm, Inv X S M' → (∀ c p : Int, ¬ c = 34 → M' c p = m0 c p) → (∀ x y : Int, 0 ≤ x → x < P → 0 ≤ y → y < P → M' 34 (6 * x + y) = min (G x y) (G x k + G k y)) → g1 32 (k + 1) M') → ∀ (l a : Nat) (M : Mm), (a : Int) ≤ P → Inv X S M → (∀ c p : Int, ¬ c = 34 → M c p = m0 c p) → (∀ x y : Int, 0 ≤ x → x < P → 0 ≤ y → y < P → M 34 (6 * x + y) = if x < (a : Int) then min (G x y) (G x k + G k y) else G x y) → 7 - a ≤ l → wp_X8_measureWays_81 S g1 K l 32 k a M := by
    intro G k g1 k0 k1 gb gk hg l
    induction l with
    | zero => intro a M a1 _ _ _ hl; exfalso; omega
    | succ l ih =>
      intro a M a1 hM F T hl
      refine u_X8_measureWays_81 ?_
      refine g_getu 0 rfl hS.k32 (fun v ev => ?_)
      rw [F 32 0 (by first | decide | exact fun z => absurd z.1 (by decide) | exact ⟨fun z => absurd z.1 (by decide), fun z => absurd z.1 (by decide)⟩ | omega), ← eP] at ev
      refine g_if (fun q => ?_) (fun q => ?_)
      · refine g_A (by omega) (by omega) ?_
        refine hg M hM F (fun x y x0 x1 y0 y1 => ?_)
        rw [T x y x0 x1 y0 y1, if_pos (by omega)]
      · refine g_C ?_
        refine ⟨7, L91 G k a g1 _ k0 k1 (by omega) (by omega) gb gk (fun M' hM' F' T' => ih (a + 1) M' (by omega) hM' F' T' (by omega)) 7 0 M (by omega) hM F (fun x y x0 x1 y0 y1 => ?_) (by omega)⟩
        rw [T x y x0 x1 y0 y1]
        by_cases z : x < (a : Int)
        · rw [if_pos z, if_pos (Or.inl z)]
        · rw [if_neg z, if_neg (by omega)]
  have L71 : ∀ (l k : Nat) (M : Mm), (k : Int) ≤ P → Inv X S M → (∀ c p : Int, ¬ c = 34 → M c p = m0 c p) → FWk P f (fun a b => M 34 (6 * a + b)) k → 7 - k ≤ l → wp_X8_measureWays_71 S K l 32 k M := by
    intro l
    induction l with
    | zero => intro k M k1 _ _ _ hl; exfalso; omega
    | succ l ih =>
      intro k M k1 hM F T hl
      refine u_X8_measureWays_71 ?_
      refine g_getu 0 rfl hS.k32 (fun v ev => ?_)
      rw [F 32 0 (by first | decide | exact fun z => absurd z.1 (by decide) | exact ⟨fun z => absurd z.1 (by decide), fun z => absurd z.1 (by decide)⟩ | omega), ← eP] at ev
      refine g_if (fun q => ?_) (fun q => ?_)
      · have ek : (k : Int) = P := by omega
        rw [ek] at T
        refine hk M hM F ?_
        rw [F 32 0 (by first | decide | exact fun z => absurd z.1 (by decide) | exact ⟨fun z => absurd z.1 (by decide), fun z => absurd z.1 (by decide)⟩ | omega), ← eP, show M 33 = f from (funext (fun p => F 33 p (by first | decide | exact fun z => absurd z.1 (by decide) | exact ⟨fun z => absurd z.1 (by decide), fun z => absurd z.1 (by decide)⟩ | omega))).trans ef.symm]
        exact T.ok bP.2
      · refine g_C ?_
        refine ⟨7, L81 (fun a b => M 34 (6 * a + b)) k _ (by omega) (by omega) T.2.1 (T.1 k (by omega) (by omega)) (fun M' hM' F' T' => ?_) 7 0 M (by omega) hM F (fun x y x0 x1 y0 y1 => ?_) (by omega)⟩
        · exact ih (k + 1) M' (by omega) hM' F' (T.step (by omega) (by omega) T') (by omega)
        · rw [if_neg (by omega)]
  -- the first lay-out
  have L12 : ∀ (a : Int) (g1 : Int → Int → Mm → Prop), 0 ≤ a → a < P → (∀ M' : Mm, Inv X S M' → (∀ c p : Int, ¬ c = 34 → M' c p = m0 c p) → (∀ x y : Int, 0 ≤ x → x < a + 1 → 0 ≤ y → y < P → M' 34 (6 * x + y) = if x = y then 0 else if 0 < f (6 * x + y) then f (6 * x + y) else 1000) → g1 32 (a + 1) M') → ∀ (l c : Nat) (M : Mm), (c : Int) ≤ P → Inv X S M → (∀ c p : Int, ¬ c = 34 → M c p = m0 c p) → (∀ x y : Int, 0 ≤ x → 0 ≤ y → y < P → (x < a ∨ (x = a ∧ y < (c : Int))) → M 34 (6 * x + y) = if x = y then 0 else if 0 < f (6 * x + y) then f (6 * x + y) else 1000) → 7 - c ≤ l → wp_X8_measureWays_12 S g1 K l 32 a c M := by
    intro a g1 a0 a1 hg l
    induction l with
    | zero => intro c M c1 _ _ _ hl; exfalso; omega
    | succ l ih =>
      intro c M c1 hM F T hl
      refine u_X8_measureWays_12 ?_
      refine g_getu 0 rfl hS.k32 (fun v ev => ?_)
      rw [F 32 0 (by first | decide | exact fun z => absurd z.1 (by decide) | exact ⟨fun z => absurd z.1 (by decide), fun z => absurd z.1 (by decide)⟩ | omega), ← eP] at ev
      refine g_if (fun q => ?_) (fun q => ?_)
      · refine g_A (by omega) (by omega) ?_
        exact hg M hM F (fun x y x0 x1 y0 y1 => T x y x0 y0 y1 (by omega))
      have c0 : (0 : Int) ≤ (c : Int) := by omega
      have c2 : (c : Int) < P := by omega
      have fc := fb a c a0 a1 c0 c2
      have nx : ∀ r : Int, r = (if a = (c : Int) then 0 else if 0 < f (6 * a + c) then f (6 * a + c) else 1000) → wp_X8_measureWays_56 S g1 (fun a0 a1 a2 M => wp_X8_measureWays_12 S g1 K l a0 a1 a2 M) K 32 a c 34 (a * 6 + c) r M := by
        intro r er
        have rb : 0 ≤ r ∧ r ≤ 1000 := by
          rw [er]
          split
          · decide
          · split
            · omega
            · decide
        refine u_X8_measureWays_56 ?_
        rw [ix a c]
        refine g_st hS.k34 hS.l34 (by omega) (by omega) (hM.wa_34 (by omega) (by omega) (by omega) (by omega)) (fun m2 em hm2 => ?_)
        have f2 : ∀ c' p : Int, ¬ (c' = 34 ∧ p = 6 * a + (c : Int)) → m2 c' p = M c' p := fun c p q => (congrFun (congrFun em _) _).trans (up_ne q)
        have y2 : m2 34 (6 * a + (c : Int)) = r := (congrFun (congrFun em _) _).trans (up_at _ _ _ _)
        refine g_A (by omega) (by omega) ?_
        refine ih (c + 1) m2 (by omega) hm2 (fun c' p q => by rw [f2 c' p (by omega), F c' p q]) (fun x y x0 y0 y1 w => ?_) (by omega)
        by_cases z : x = a ∧ y = (c : Int)
        · obtain ⟨z1, z2⟩ := z
          rw [z1, z2, y2, er]
        · rw [f2 34 _ (by first | decide | exact fun z => absurd z.1 (by decide) | exact ⟨fun z => absurd z.1 (by decide), fun z => absurd z.1 (by decide)⟩ | omega)]
          exact T x y x0 y0 y1 (by omega)
      refine ⟨hS.k32, ?_⟩
      refine u_X8_roadHours ?_
      refine g_getr 8 33 rfl hS.k32 hM.f_32_8 (by decide) ?_
      refine u_X8_pair ?_
      refine g_C ?_
      refine g_M (by omega) (by omega) ?_
      refine g_A (by omega) (by omega) ?_
      rw [ix a c]
      refine g_ldu hS.k33 hS.l33 (by omega) (by omega) (fun v1 e1 => ?_)
      rw [F 33 _ (by first | decide | exact fun z => absurd z.1 (by decide) | exact ⟨fun z => absurd z.1 (by decide), fun z => absurd z.1 (by decide)⟩ | omega), ← ef] at e1
      refine g_getr 9 34 rfl hS.k32 hM.f_32_9 (by decide) ?_
      refine u_X8_pair ?_
      refine g_C ?_
      refine g_M (by omega) (by omega) ?_
      refine g_A (by omega) (by omega) ?_
      refine g_if (fun w => ?_) (fun w => ?_)
      · refine g_if (fun w2 => ?_) (fun w2 => ?_)
        · refine g_C ?_
          exact nx 1000 (by rw [if_neg w, if_neg (by omega)])
        · exact nx v1 (by rw [if_neg w, if_pos (by omega), e1])
      · refine g_C ?_
        exact nx 0 (by rw [if_pos (Classical.not_not.mp w)])
  have L2 : ∀ (l a : Nat) (M : Mm), (a : Int) ≤ P → Inv X S M → (∀ c p : Int, ¬ c = 34 → M c p = m0 c p) → (∀ x y : Int, 0 ≤ x → x < (a : Int) → 0 ≤ y → y < P → M 34 (6 * x + y) = if x = y then 0 else if 0 < f (6 * x + y) then f (6 * x + y) else 1000) → 7 - a ≤ l → wp_X8_measureWays_2 S K l 32 a M := by
    intro l
    induction l with
    | zero => intro a M a1 _ _ _ hl; exfalso; omega
    | succ l ih =>
      intro a M a1 hM F T hl
      refine u_X8_measureWays_2 ?_
      refine g_getu 0 rfl hS.k32 (fun v ev => ?_)
      rw [F 32 0 (by first | decide | exact fun z => absurd z.1 (by decide) | exact ⟨fun z => absurd z.1 (by decide), fun z => absurd z.1 (by decide)⟩ | omega), ← eP] at ev
      refine g_if (fun q => ?_) (fun q => ?_)
      · refine g_C ?_
        have T' : ∀ x y : Int, 0 ≤ x → x < P → 0 ≤ y → y < P → M 34 (6 * x + y) = if x = y then 0 else if 0 < f (6 * x + y) then f (6 * x + y) else 1000 := fun x y x0 x1 y0 y1 => T x y x0 (by omega) y0 y1
        refine ⟨7, L71 7 0 M (by omega) hM F ⟨fun x x0 x1 => ?_, fun x y x0 x1 y0 y1 => ?_, fun x y x0 x1 y0 y1 w => ?_, fun x y j _ _ _ _ j0 _ j1 => by omega, fun x y x0 x1 y0 y1 n w => ?_⟩ (by omega)⟩
        · show M 34 (6 * x + x) = 0
          rw [T' x x x0 x1 x0 x1, if_pos rfl]
        · show 0 ≤ M 34 (6 * x + y) ∧ M 34 (6 * x + y) ≤ 1000
          have fc := fb x y x0 x1 y0 y1
          rw [T' x y x0 x1 y0 y1]
          split
          · decide
          · split
            · omega
            · decide
        · show M 34 (6 * x + y) ≤ f (6 * x + y)
          rw [T' x y x0 x1 y0 y1]
          by_cases z : x = y
          · rw [if_pos z]; omega
          · rw [if_neg z, if_pos w]; omega
        · have w' : M 34 (6 * x + y) < 1000 := w
          have t := T' x y x0 x1 y0 y1
          rw [if_neg n] at t
          by_cases z : 0 < f (6 * x + y)
          · rw [if_pos z] at t
            refine ⟨y, y0, y1, z, ?_⟩
            show f (6 * x + y) + M 34 (6 * y + y) ≤ M 34 (6 * x + y)
            rw [T' y y y0 y1 y0 y1, if_pos rfl]
            omega
          · rw [if_neg z] at t
            omega
      · refine g_C ?_
        exact ⟨7, L12 a _ (by omega) (by omega) (fun M' hM' F' T' => ih (a + 1) M' (by omega) hM' F' T' (by omega)) 7 0 M (by omega) hM F (fun x y x0 y0 y1 w => T x y x0 (by omega) y0 y1) (by omega)⟩
  refine u_X8_measureWays ?_
  refine g_C ?_
  exact ⟨7, L2 7 0 m0 (by omega) hm0 (fun _ _ _ => rfl) (fun x y x0 x1 _ _ => absurd x1 (by omega)) (by omega)⟩
end
