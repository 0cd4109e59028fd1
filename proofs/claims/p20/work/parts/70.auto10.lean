theorem z_X12_turnsIn {X : Mm} {S : Sh} {m0 : Mm} {K : Int → Mm → Prop} {u1 u2 u3 u4 u5 u6 u7 : Int} (hS : Shp S) (hm0 : Inv X S m0) (l_u1 : 0 ≤ u1) (h_u1 : u1 ≤ 4) (l_u2 : 0 ≤ u2) (h_u2 : u2 ≤ 400) (l_u3 : 0 ≤ u3) (h_u3 : u3 ≤ 3) (l_u4 : (-2147483648) ≤ u4) (h_u4 : u4 ≤ 2147483647) (l_u5 : (-2147483648) ≤ u5) (h_u5 : u5 ≤ 2147483647) (l_u6 : 0 ≤ u6) (h_u6 : u6 ≤ 1) (l_u7 : 0 ≤ u7) (h_u7 : u7 ≤ 1024) (hk : ∀ (r : Int) (M1 : Mm), Inv X S M1 → (∀ c p : Int, ¬ c = 344 ∧ ¬ c = 345 ∧ ¬ (c = 336 ∧ 18 ≤ p ∧ p ≤ 18) → M1 c p = m0 c p) → (-2147483648) ≤ r → r ≤ 2147483647 → K r M1) : wp_X12_turnsIn S m0 336 u1 u2 u3 u4 u5 u6 u7 K := by
  have Fm0 : ∀ c p : Int, ¬ c = 344 ∧ ¬ c = 345 ∧ ¬ (c = 336 ∧ 18 ≤ p ∧ p ≤ 18) → m0 c p = m0 c p := fun c p _ => rfl
  refine u_X12_turnsIn ?_
  refine ⟨hS.k336, ?_⟩
  refine z_X12_heatIn hS hm0 (by omega) (by omega) (fun v1 bv1 cv1 => ?_)
  refine g_get 21 (-1) (5) rfl hS.k336 hm0.f_336_21 (fun v2 ev2 bv2 cv2 => ?_)
  have qv2 : v2 = (m0 336 21) := (ev2.trans (hm0.g (by decide))).trans (((Eq.refl (m0 336 21)).trans (hm0.g (by decide))).symm)
  refine g_if (fun w3 => ?_) (fun w3 => ?_)
  · refine g_getr 19 345 rfl hS.k336 hm0.f_336_19 (by decide) ?_
    refine g_C ?_
    refine g_C ?_
    refine g_st hS.k345 hS.l345 (by omega) (by omega) (hm0.wa_345 (by omega) (by omega)) (fun m4 em4 hm4 => ?_)
    have Fm4 : ∀ c p : Int, ¬ c = 344 ∧ ¬ c = 345 ∧ ¬ (c = 336 ∧ 18 ≤ p ∧ p ≤ 18) → m4 c p = m0 c p := fun c p h => (congrFun (congrFun em4 _) _).trans ((up_ne (by omega)).trans (Fm0 c p h))
    refine g_getr 19 345 rfl hS.k336 hm4.f_336_19 (by decide) ?_
    refine g_C ?_
    refine g_C ?_
    refine ⟨hS.k336, ?_⟩
    refine u_X12_handOf ?_
    refine g_getr 20 346 rfl hS.k336 hm4.f_336_20 (by decide) ?_
    refine g_C ?_
    refine g_C ?_
    refine g_M (by omega) (by omega) ?_
    refine g_A (by omega) (by omega) ?_
    refine g_A (by omega) (by omega) ?_
    refine g_ld (0) (20) hS.k346 hS.l346 (by omega) (by omega) (fam_346_13_5_0_4 hm4 (a := u1) (by omega) (by omega) (by omega)) (fun v5 ev5 bv5 cv5 => ?_)
    refine g_C ?_
    refine g_st hS.k345 hS.l345 (by omega) (by omega) (hm4.wa_345 (by omega) (by omega)) (fun m6 em6 hm6 => ?_)
    have Fm6 : ∀ c p : Int, ¬ c = 344 ∧ ¬ c = 345 ∧ ¬ (c = 336 ∧ 18 ≤ p ∧ p ≤ 18) → m6 c p = m0 c p := fun c p h => (congrFun (congrFun em6 _) _).trans ((up_ne (by omega)).trans (Fm4 c p h))
    refine g_getr 19 345 rfl hS.k336 hm6.f_336_19 (by decide) ?_
    refine g_C ?_
    refine g_C ?_
    refine g_st hS.k345 hS.l345 (by omega) (by omega) (hm6.wa_345 (by omega) (by omega)) (fun m7 em7 hm7 => ?_)
    have Fm7 : ∀ c p : Int, ¬ c = 344 ∧ ¬ c = 345 ∧ ¬ (c = 336 ∧ 18 ≤ p ∧ p ≤ 18) → m7 c p = m0 c p := fun c p h => (congrFun (congrFun em7 _) _).trans ((up_ne (by omega)).trans (Fm6 c p h))
    refine g_getr 19 345 rfl hS.k336 hm7.f_336_19 (by decide) ?_
    refine g_C ?_
    refine g_C ?_
    refine g_st hS.k345 hS.l345 (by omega) (by omega) (hm7.wa_345 (by omega) (by omega)) (fun m8 em8 hm8 => ?_)
    have Fm8 : ∀ c p : Int, ¬ c = 344 ∧ ¬ c = 345 ∧ ¬ (c = 336 ∧ 18 ≤ p ∧ p ≤ 18) → m8 c p = m0 c p := fun c p h => (congrFun (congrFun em8 _) _).trans ((up_ne (by omega)).trans (Fm7 c p h))
    refine g_getr 19 345 rfl hS.k336 hm8.f_336_19 (by decide) ?_
    refine g_C ?_
    refine g_C ?_
    refine g_st hS.k345 hS.l345 (by omega) (by omega) (hm8.wa_345 (by omega) (by omega)) (fun m9 em9 hm9 => ?_)
    have Fm9 : ∀ c p : Int, ¬ c = 344 ∧ ¬ c = 345 ∧ ¬ (c = 336 ∧ 18 ≤ p ∧ p ≤ 18) → m9 c p = m0 c p := fun c p h => (congrFun (congrFun em9 _) _).trans ((up_ne (by omega)).trans (Fm8 c p h))
    refine g_getr 19 345 rfl hS.k336 hm9.f_336_19 (by decide) ?_
    refine g_C ?_
    refine g_C ?_
    refine g_st hS.k345 hS.l345 (by omega) (by omega) (hm9.wa_345 (by omega) (by omega)) (fun m10 em10 hm10 => ?_)
    have Fm10 : ∀ c p : Int, ¬ c = 344 ∧ ¬ c = 345 ∧ ¬ (c = 336 ∧ 18 ≤ p ∧ p ≤ 18) → m10 c p = m0 c p := fun c p h => (congrFun (congrFun em10 _) _).trans ((up_ne (by omega)).trans (Fm9 c p h))
    refine g_getr 19 345 rfl hS.k336 hm10.f_336_19 (by decide) ?_
    refine g_C ?_
    refine g_C ?_
    refine g_st hS.k345 hS.l345 (by omega) (by omega) (hm10.wa_345 (by omega) (by omega)) (fun m11 em11 hm11 => ?_)
    have Fm11 : ∀ c p : Int, ¬ c = 344 ∧ ¬ c = 345 ∧ ¬ (c = 336 ∧ 18 ≤ p ∧ p ≤ 18) → m11 c p = m0 c p := fun c p h => (congrFun (congrFun em11 _) _).trans ((up_ne (by omega)).trans (Fm10 c p h))
    refine g_getr 19 345 rfl hS.k336 hm11.f_336_19 (by decide) ?_
    refine g_C ?_
    refine g_C ?_
    refine g_st hS.k345 hS.l345 (by omega) (by omega) (hm11.wa_345 (by omega) (by omega)) (fun m12 em12 hm12 => ?_)
    have Fm12 : ∀ c p : Int, ¬ c = 344 ∧ ¬ c = 345 ∧ ¬ (c = 336 ∧ 18 ≤ p ∧ p ≤ 18) → m12 c p = m0 c p := fun c p h => (congrFun (congrFun em12 _) _).trans ((up_ne (by omega)).trans (Fm11 c p h))
    refine g_getr 19 345 rfl hS.k336 hm12.f_336_19 (by decide) ?_
    refine g_C ?_
    refine g_C ?_
    refine g_st hS.k345 hS.l345 (by omega) (by omega) (hm12.wa_345 (by omega) (by omega)) (fun m13 em13 hm13 => ?_)
    have Fm13 : ∀ c p : Int, ¬ c = 344 ∧ ¬ c = 345 ∧ ¬ (c = 336 ∧ 18 ≤ p ∧ p ≤ 18) → m13 c p = m0 c p := fun c p h => (congrFun (congrFun em13 _) _).trans ((up_ne (by omega)).trans (Fm12 c p h))
    refine g_getr 19 345 rfl hS.k336 hm13.f_336_19 (by decide) ?_
    refine g_C ?_
    refine g_getr 20 346 rfl hS.k336 hm13.f_336_20 (by decide) ?_
    refine g_C ?_
    refine g_ld (0) (99) hS.k346 hS.l346 (by omega) (by omega) (hm13.f_346_2) (fun v14 ev14 bv14 cv14 => ?_)
    refine g_if (fun w15 => ?_) (fun w15 => ?_)
    · refine g_C ?_
      refine u_X12_turnsIn_136 ?_
      refine g_st hS.k345 hS.l345 (by omega) (by omega) (hm13.wa_345 (by omega) (by omega)) (fun m16 em16 hm16 => ?_)
      have Fm16 : ∀ c p : Int, ¬ c = 344 ∧ ¬ c = 345 ∧ ¬ (c = 336 ∧ 18 ≤ p ∧ p ≤ 18) → m16 c p = m0 c p := fun c p h => (congrFun (congrFun em16 _) _).trans ((up_ne (by omega)).trans (Fm13 c p h))
      refine g_get 21 (-1) (5) rfl hS.k336 hm16.f_336_21 (fun v17 ev17 bv17 cv17 => ?_)
      have qv17 : v17 = (m0 336 21) := (ev17.trans (hm16.g (by decide))).trans (((Eq.refl (m0 336 21)).trans (hm0.g (by decide))).symm)
      refine ⟨hS.k336, ?_⟩
      have zb18 := hm16.f_336_21
      have q19 : m16 336 21 = (m0 336 21) := (hm16.g (by decide)).trans (((Eq.refl (m0 336 21)).trans (hm0.g (by decide))).symm)
      have q20 : (m0 336 21) = X 336 21 := (Eq.refl (m0 336 21)).trans (hm0.g (by decide))
      have gq20 := hm0.good.1
      refine z_X12_summedBy hS hm16 (by omega) (by omega) (by omega) (fun v21 m22 hm22 fm22 => ?_)
      have zb23 := hm22.f_336_21
      have Fm22 : ∀ c p : Int, ¬ c = 344 ∧ ¬ c = 345 ∧ ¬ (c = 336 ∧ 18 ≤ p ∧ p ≤ 18) → m22 c p = m0 c p := fun c p h => (fm22 c p (by omega)).trans (Fm16 c p h)
      refine g_C ?_
      refine g_cmp (fun w24 => ?_) (fun w24 => ?_) (fun w24 => ?_)
      · refine g_ifF (by omega) ?_
        refine g_C ?_
        have zb25 := hm22.f_336_21
        have q26 : m22 336 21 = (m0 336 21) := (hm22.g (by decide)).trans (((Eq.refl (m0 336 21)).trans (hm0.g (by decide))).symm)
        exact hk 0 m22 hm22 Fm22 (by omega) (by omega)
      · refine g_ifT (by omega) ?_
        refine g_C ?_
        refine g_cmp (fun w27 => ?_) (fun w27 => ?_) (fun w27 => ?_)
        · refine g_ifT (by omega) ?_
          refine g_w32 (by omega) (by omega) ?_
          have zb29 := hm22.f_336_21
          have q30 : m22 336 21 = (m0 336 21) := (hm22.g (by decide)).trans (((Eq.refl (m0 336 21)).trans (hm0.g (by decide))).symm)
          exact hk v21 m22 hm22 Fm22 (by omega) (by omega)
        · exfalso; omega
        · exfalso; omega
      · refine g_ifT (by omega) ?_
        refine g_C ?_
        refine g_cmp (fun w31 => ?_) (fun w31 => ?_) (fun w31 => ?_)
        · refine g_ifT (by omega) ?_
          refine g_w32 (by omega) (by omega) ?_
          have zb33 := hm22.f_336_21
          have q34 : m22 336 21 = (m0 336 21) := (hm22.g (by decide)).trans (((Eq.refl (m0 336 21)).trans (hm0.g (by decide))).symm)
          exact hk v21 m22 hm22 Fm22 (by omega) (by omega)
        · refine g_ifT (by omega) ?_
          refine g_w32 (by omega) (by omega) ?_
          have zb36 := hm22.f_336_21
          have q37 : m22 336 21 = (m0 336 21) := (hm22.g (by decide)).trans (((Eq.refl (m0 336 21)).trans (hm0.g (by decide))).symm)
          exact hk v21 m22 hm22 Fm22 (by omega) (by omega)
        · refine g_ifF (by omega) ?_
          refine g_C ?_
          have zb38 := hm22.f_336_21
          have q39 : m22 336 21 = (m0 336 21) := (hm22.g (by decide)).trans (((Eq.refl (m0 336 21)).trans (hm0.g (by decide))).symm)
          exact hk 50 m22 hm22 Fm22 (by omega) (by omega)
    · refine g_C ?_
      refine u_X12_turnsIn_136 ?_
      refine g_st hS.k345 hS.l345 (by omega) (by omega) (hm13.wa_345 (by omega) (by omega)) (fun m40 em40 hm40 => ?_)
      have Fm40 : ∀ c p : Int, ¬ c = 344 ∧ ¬ c = 345 ∧ ¬ (c = 336 ∧ 18 ≤ p ∧ p ≤ 18) → m40 c p = m0 c p := fun c p h => (congrFun (congrFun em40 _) _).trans ((up_ne (by omega)).trans (Fm13 c p h))
      refine g_get 21 (-1) (5) rfl hS.k336 hm40.f_336_21 (fun v41 ev41 bv41 cv41 => ?_)
      have qv41 : v41 = (m0 336 21) := (ev41.trans (hm40.g (by decide))).trans (((Eq.refl (m0 336 21)).trans (hm0.g (by decide))).symm)
      refine ⟨hS.k336, ?_⟩
      have zb42 := hm40.f_336_21
      have q43 : m40 336 21 = (m0 336 21) := (hm40.g (by decide)).trans (((Eq.refl (m0 336 21)).trans (hm0.g (by decide))).symm)
      have q44 : (m0 336 21) = X 336 21 := (Eq.refl (m0 336 21)).trans (hm0.g (by decide))
      have gq44 := hm0.good.1
      refine z_X12_summedBy hS hm40 (by omega) (by omega) (by omega) (fun v45 m46 hm46 fm46 => ?_)
      have zb47 := hm46.f_336_21
      have Fm46 : ∀ c p : Int, ¬ c = 344 ∧ ¬ c = 345 ∧ ¬ (c = 336 ∧ 18 ≤ p ∧ p ≤ 18) → m46 c p = m0 c p := fun c p h => (fm46 c p (by omega)).trans (Fm40 c p h)
      refine g_C ?_
      refine g_cmp (fun w48 => ?_) (fun w48 => ?_) (fun w48 => ?_)
      · refine g_ifF (by omega) ?_
        refine g_C ?_
        have zb49 := hm46.f_336_21
        have q50 : m46 336 21 = (m0 336 21) := (hm46.g (by decide)).trans (((Eq.refl (m0 336 21)).trans (hm0.g (by decide))).symm)
        exact hk 0 m46 hm46 Fm46 (by omega) (by omega)
      · refine g_ifT (by omega) ?_
        refine g_C ?_
        refine g_cmp (fun w51 => ?_) (fun w51 => ?_) (fun w51 => ?_)
        · refine g_ifT (by omega) ?_
          refine g_w32 (by omega) (by omega) ?_
          have zb53 := hm46.f_336_21
          have q54 : m46 336 21 = (m0 336 21) := (hm46.g (by decide)).trans (((Eq.refl (m0 336 21)).trans (hm0.g (by decide))).symm)
          exact hk v45 m46 hm46 Fm46 (by omega) (by omega)
        · exfalso; omega
        · exfalso; omega
      · refine g_ifT (by omega) ?_
        refine g_C ?_
        refine g_cmp (fun w55 => ?_) (fun w55 => ?_) (fun w55 => ?_)
        · refine g_ifT (by omega) ?_
          refine g_w32 (by omega) (by omega) ?_
          have zb57 := hm46.f_336_21
          have q58 : m46 336 21 = (m0 336 21) := (hm46.g (by decide)).trans (((Eq.refl (m0 336 21)).trans (hm0.g (by decide))).symm)
          exact hk v45 m46 hm46 Fm46 (by omega) (by omega)
        · refine g_ifT (by omega) ?_
          refine g_w32 (by omega) (by omega) ?_
          have zb60 := hm46.f_336_21
          have q61 : m46 336 21 = (m0 336 21) := (hm46.g (by decide)).trans (((Eq.refl (m0 336 21)).trans (hm0.g (by decide))).symm)
          exact hk v45 m46 hm46 Fm46 (by omega) (by omega)
        · refine g_ifF (by omega) ?_
          refine g_C ?_
          have zb62 := hm46.f_336_21
          have q63 : m46 336 21 = (m0 336 21) := (hm46.g (by decide)).trans (((Eq.refl (m0 336 21)).trans (hm0.g (by decide))).symm)
          exact hk 50 m46 hm46 Fm46 (by omega) (by omega)
  · refine g_C ?_
    refine ⟨hS.k336, ?_⟩
    refine u_X12_handOf ?_
    refine g_getr 20 346 rfl hS.k336 hm0.f_336_20 (by decide) ?_
    refine g_C ?_
    refine g_C ?_
    refine g_M (by omega) (by omega) ?_
    refine g_A (by omega) (by omega) ?_
    refine g_A (by omega) (by omega) ?_
    refine g_ld (0) (20) hS.k346 hS.l346 (by omega) (by omega) (fam_346_13_5_0_4 hm0 (a := u1) (by omega) (by omega) (by omega)) (fun v64 ev64 bv64 cv64 => ?_)
    refine g_C ?_
    refine g_iDivc (d := 4) (by omega) (by omega) (by decide) (fun v65 bv65 cv65 => ?_)
    refine g_A (by omega) (by omega) ?_
    refine g_Aw (fun v66 bv66 cv66 => ?_)
    have zb67 := hm0.f_336_21
    have q68 : m0 336 21 = (m0 336 21) := (hm0.g (by decide)).trans (((Eq.refl (m0 336 21)).trans (hm0.g (by decide))).symm)
    exact hk v66 m0 hm0 Fm0 (by omega) (by omega)
