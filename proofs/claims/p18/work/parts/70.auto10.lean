theorem z_X12_turnsIn {X : Mm} {S : Sh} {m0 : Mm} {K : Int → Mm → Prop} {u1 u2 u3 u4 u5 u6 u7 : Int} (hS : Shp S) (hm0 : Inv X S m0) (l_u1 : 0 ≤ u1) (h_u1 : u1 ≤ 4) (l_u2 : 0 ≤ u2) (h_u2 : u2 ≤ 400) (l_u3 : 0 ≤ u3) (h_u3 : u3 ≤ 3) (l_u4 : (-2147483648) ≤ u4) (h_u4 : u4 ≤ 2147483647) (l_u5 : (-2147483648) ≤ u5) (h_u5 : u5 ≤ 2147483647) (l_u6 : 0 ≤ u6) (h_u6 : u6 ≤ 1) (l_u7 : 0 ≤ u7) (h_u7 : u7 ≤ 1024) (hk : ∀ (r : Int) (M1 : Mm), Inv X S M1 → (∀ c p : Int, ¬ c = 344 ∧ ¬ c = 345 ∧ ¬ (c = 336 ∧ 18 ≤ p ∧ p ≤ 18) → M1 c p = m0 c p) → (-2147483648) ≤ r → r ≤ 2147483647 → K r M1) : wp_X12_turnsIn S m0 336 u1 u2 u3 u4 u5 u6 u7 K := by
  have Fm0 : ∀ c p : Int, ¬ c = 344 ∧ ¬ c = 345 ∧ ¬ (c = 336 ∧ 18 ≤ p ∧ p ≤ 18) → m0 c p = m0 c p := fun c p _ => rfl
  refine u_X12_turnsIn ?_
  refine ⟨hS.k336, ?_⟩
  refine z_X12_heatIn hS hm0 (by omega) (by omega) (fun v1 bv1 cv1 => ?_)
  refine g_get 21 (-1) (5) rfl hS.k336 hm0.f_336_21 (fun v2 ev2 bv2 cv2 => ?_)
  have qv2 : v2 = (m0 336 21) := (ev2.trans (hm0.g (by decide))).trans (((Eq.refl (m0 336 21)).trans (hm0.g (by decide))).symm)
  refine g_if (fun w3 => ?_) (fun w3 => ?_)
  · refine g_getr 19 345 rfl hS.k336 hm0.f_336_19 (by decide) ?_
    refine g_C ?_
    refine g_C ?_
    refine g_st hS.k345 hS.l345 (by omega) (by omega) (hm0.wa_345 (by omega) (by omega)) (fun m4 em4 hm4 => ?_)
    have Fm4 : ∀ c p : Int, ¬ c = 344 ∧ ¬ c = 345 ∧ ¬ (c = 336 ∧ 18 ≤ p ∧ p ≤ 18) → m4 c p = m0 c p := fun c p h => (congrFun (congrFun em4 _) _).trans ((up_ne (by omega)).trans (Fm0 c p h))
    refine g_getr 19 345 rfl hS.k336 hm4.f_336_19 (by decide) ?_
    refine g_C ?_
    refine g_C ?_
    refine ⟨hS.k336, ?_⟩
    refine u_X12_handOf ?_
    refine g_getr 20 346 rfl hS.k336 hm4.f_336_20 (by decide) ?_
    refine g_C ?_
    refine g_C ?_
    refine g_M (by omega) (by omega) ?_
    refine g_A (by omega) (by omega) ?_
    refine g_A (by omega) (by omega) ?_
    refine g_ld (0) (20) hS.k346 hS.l346 (by omega) (by omega) (fam_346_13_5_0_4 hm4 (a := u1) (by omega) (by omega) (by omega)) (fun v5 ev5 bv5 cv5 => ?_)
    refine g_C ?_
    refine g_st hS.k345 hS.l345 (by omega) (by omega) (hm4.wa_345 (by omega) (by omega)) (fun m6 em6 hm6 => ?_)
    have Fm6 : ∀ c p : Int, ¬ c = 344 ∧ ¬ c = 345 ∧ ¬ (c = 336 ∧ 18 ≤ p ∧ p ≤ 18) → m6 c p = m0 c p := fun c p h => (congrFun (congrFun em6 _) _).trans ((up_ne (by omega)).trans (Fm4 c p h))
    refine g_getr 19 345 rfl hS.k336 hm6.f_336_19 (by decide) ?_
    refine g_C ?_
    refine g_C ?_
    refine g_st hS.k345 hS.l345 (by omega) (by omega) (hm6.wa_345 (by omega) (by omega)) (fun m7 em7 hm7 => ?_)
    have Fm7 : ∀ c p : Int, ¬ c = 344 ∧ ¬ c = 345 ∧ ¬ (c = 336 ∧ 18 ≤ p ∧ p ≤ 18) → m7 c p = m0 c p := fun c p h => (congrFun (congrFun em7 _) _).trans ((up_ne (by omega)).trans (Fm6 c p h))
    refine g_getr 19 345 rfl hS.k336 hm7.f_336_19 (by decide) ?_
    refine g_C ?_
    refine g_C ?_
    refine g_st hS.k345 hS.l345 (by omega) (by omega) (hm7.wa_345 (by omega) (by omega)) (fun m8 em8 hm8 => ?_)
    have Fm8 : ∀ c p : Int, ¬ c = 344 ∧ ¬ c = 345 ∧ ¬ (c = 336 ∧ 18 ≤ p ∧ p ≤ 18) → m8 c p = m0 c p := fun c p h => (congrFun (congrFun em8 _) _).trans ((up_ne (by omega)).trans (Fm7 c p h))
    refine g_getr 19 345 rfl hS.k336 hm8.f_336_19 (by decide) ?_
    refine g_C ?_
    refine g_C ?_
    refine g_st hS.k345 hS.l345 (by omega) (by omega) (hm8.wa_345 (by omega) (by omega)) (fun m9 em9 hm9 => ?_)
    have Fm9 : ∀ c p : Int, ¬ c = 344 ∧ ¬ c = 345 ∧ ¬ (c = 336 ∧ 18 ≤ p ∧ p ≤ 18) → m9 c p = m0 c p := fun c p h => (congrFun (congrFun em9 _) _).trans ((up_ne (by omega)).trans (Fm8 c p h))
    refine g_getr 19 345 rfl hS.k336 hm9.f_336_19 (by decide) ?_
    refine g_C ?_
    refine g_C ?_
    refine g_st hS.k345 hS.l345 (by omega) (by omega) (hm9.wa_345 (by omega) (by omega)) (fun m10 em10 hm10 => ?_)
    have Fm10 : ∀ c p : Int, ¬ c = 344 ∧ ¬ c = 345 ∧ ¬ (c = 336 ∧ 18 ≤ p ∧ p ≤ 18) → m10 c p = m0 c p := fun c p h => (congrFun (congrFun em10 _) _).trans ((up_ne (by omega)).trans (Fm9 c p h))
    refine g_getr 19 345 rfl hS.k336 hm10.f_336_19 (by decide) ?_
    refine g_C ?_
    refine g_C ?_
    refine g_st hS.k345 hS.l345 (by omega) (by omega) (hm10.wa_345 (by omega) (by omega)) (fun m11 em11 hm11 => ?_)
    have Fm11 : ∀ c p : Int, ¬ c = 344 ∧ ¬ c = 345 ∧ ¬ (c = 336 ∧ 18 ≤ p ∧ p ≤ 18) → m11 c p = m0 c p := fun c p h => (congrFun (congrFun em11 _) _).trans ((up_ne (by omega)).trans (Fm10 c p h))
    refine g_getr 19 345 rfl hS.k336 hm11.f_336_19 (by decide) ?_
    refine g_C ?_
    refine g_C ?_
    refine g_st hS.k345 hS.l345 (by omega) (by omega) (hm11.wa_345 (by omega) (by omega)) (fun m12 em12 hm12 => ?_)
    have Fm12 : ∀ c p : Int, ¬ c = 344 ∧ ¬ c = 345 ∧ ¬ (c = 336 ∧ 18 ≤ p ∧ p ≤ 18) → m12 c p = m0 c p := fun c p h => (congrFun (congrFun em12 _) _).trans ((up_ne (by omega)).trans (Fm11 c p h))
    refine g_getr 19 345 rfl hS.k336 hm12.f_336_19 (by decide) ?_
    refine g_C ?_
    refine g_C ?_
    refine g_st hS.k345 hS.l345 (by omega) (by omega) (hm12.wa_345 (by omega) (by omega)) (fun m13 em13 hm13 => ?_)
    have Fm13 : ∀ c p : Int, ¬ c = 344 ∧ ¬ c = 345 ∧ ¬ (c = 336 ∧ 18 ≤ p ∧ p ≤ 18) → m13 c p = m0 c p := fun c p h => (congrFun (congrFun em13 _) _).trans ((up_ne (by omega)).trans (Fm12 c p h))
    refine g_getr 19 345 rfl hS.k336 hm13.f_336_19 (by decide) ?_
    refine g_C ?_
    refine g_getr 20 346 rfl hS.k336 hm13.f_336_20 (by decide) ?_
    refine g_C ?_
    refine g_ld (0) (99) hS.k346 hS.l346 (by omega) (by omega) (hm13.f_346_2) (fun v14 ev14 bv14 cv14 => ?_)
    refine g_if (fun w15 => ?_) (fun w15 => ?_)
    · refine g_C ?_
      refine u_X12_turnsIn_136 ?_
      refine g_st hS.k345 hS.l345 (by omega) (by omega) (hm13.wa_345 (by omega) (by omega)) (fun m16 em16 hm16 => ?_)
      have Fm16 : ∀ c p : Int, ¬ c = 344 ∧ ¬ c = 345 ∧ ¬ (c = 336 ∧ 18 ≤ p ∧ p ≤ 18) → m16 c p = m0 c p := fun c p h => (congrFun (congrFun em16 _) _).trans ((up_ne (by omega)).trans (Fm13 c p h))
      refine g_get 21 (-1) (5) rfl hS.k336 hm16.f_336_21 (fun v17 ev17 bv17 cv17 => ?_)
      have qv17 : v17 = (m0 336 21) := (ev17.trans (hm16.g (by decide))).trans (((Eq.refl (m0 336 21)).trans (hm0.g (by decide))).symm)
      refine ⟨hS.k336, ?_⟩
      have zb18 := hm16.f_336_21
      have q19 : m16 336 21 = (m0 336 21) := (hm16.g (by decide)).trans (((Eq.refl (m0 336 21)).trans (hm0.g (by decide))).symm)
      have q20 : (m0 336 21) = X 336 21 := (Eq.refl (m0 336 21)).trans (hm0.g (by decide))
      have gq20 := hm0.good.1
      refine z_X12_summedBy hS hm16 (by omega) (by omega) (by omega) (fun v21 m22 hm22 fm22 => ?_)
      have zb23 := hm22.f_336_21
      have Fm22 : ∀ c p : Int, ¬ c = 344 ∧ ¬ c = 345 ∧ ¬ (c = 336 ∧ 18 ≤ p ∧ p ≤ 18) → m22 c p = m0 c p := fun c p h => (fm22 c p (by omega)).trans (Fm16 c p h)
      refine g_C ?_
      refine g_cmp (fun w24 => ?_) (fun w24 => ?_) (fun w24 => ?_)
      · refine g_ifF (by omega) ?_
        refine g_C ?_
        have zb25 := hm22.f_336_21
        have q26 : m22 336 21 = (m0 336 21) := (hm22.g (by decide)).trans (((Eq.refl (m0 336 21)).trans (hm0.g (by decide))).symm)
        exact hk 0 m22 hm22 Fm22 (by omega) (by omega)
      · refine g_ifT (by omega) ?_
        refine g_C ?_
        refine g_cmp (fun w27 => ?_) (fun w27 => ?_) (fun w27 => ?_)
        · refine g_ifT (by omega) ?_
          refine g_w32 (by omega) (by omega) ?_
          have zb29 := hm22.f_336_21
          have q30 : m22 336 21 = (m0 336 21) := (hm22.g (by decide)).trans (((Eq.refl (m0 336 21)).trans (hm0.g (by decide))).symm)
          exact hk v21 m22 hm22 Fm22 (by omega) (by omega)
        · exfalso; omega
        · exfalso; omega
      · refine g_ifT (by omega) ?_
        refine g_C ?_
        refine g_cmp (fun w31 => ?_) (fun w31 => ?_) (fun w31 => ?_)
        · refine g_ifT (by omega) ?_
          refine g_w32 (by omega) (by omega) ?_
          have zb33 := hm22.f_336_21
          have q34 : m22 336 21 = (m0 336 21) := (hm22.g (by decide)).trans (((Eq.refl (m0 336 21)).trans (hm0.g (by decide))).symm)
          exact hk v21 m22 hm22 Fm22 (by omega) (by omega)
        · refine g_ifT (by omega) ?_
          refine g_w32 (by omega) (by omega) ?_
          have zb36 := hm22.f_336_21
          have q37 : m22 336 21 = (m0 336 21) := (hm22.g (by decide)).trans (((Eq.refl (m0 336 21)).trans (hm0.g (by decide))).symm)
          exact hk v21 m22 hm22 Fm22 (by omega) (by omega)
        · refine g_ifF (by omega) ?_
          refine g_C ?_
          have zb38 := hm22.f_336_21
          have q39 : m22 336 21 = (m0 336 21) := (hm22.g (by decide)).trans (((Eq.refl (m0 336 21)).trans (hm0.g (by decide))).symm)
          exact hk 50 m22 hm22 Fm22 (by omega) (by omega)
    · refine g_C ?_
      refine u_X12_turnsIn_136 ?_
      refine g_st hS.k345 hS.l345 (by omega) (by omega) (hm13.wa_345 (by omega) (by omega)) (fun m40 em40 hm40 => ?_)
      have Fm40 : ∀ c p : Int, ¬ c = 344 ∧ ¬ c = 345 ∧ ¬ (c = 336 ∧ 18 ≤ p ∧ p ≤ 18) → m40 c p = m0 c p := fun c p h => (congrFun (congrFun em40 _) _).trans ((up_ne (by omega)).trans (Fm13 c p h))
      refine g_get 21 (-1) (5) rfl hS.k336 hm40.f_336_21 (fun v41 ev41 bv41 cv41 => ?_)
      have qv41 : v41 = (m0 336 21) := (ev41.trans (hm40.g (by decide))).trans (((Eq.refl (m0 336 21)).trans (hm0.g (by decide))).symm)
      refine ⟨hS.k336, ?_⟩
      have zb42 := hm40.f_336_21
      have q43 : m40 336 21 = (m0 336 21) := (hm40.g (by decide)).trans (((Eq.refl (m0 336 21)).trans (hm0.g (by decide))).symm)
      have q44 : (m0 336 21) = X 336 21 := (Eq.refl (m0 336 21)).trans (hm0.g (by decide))
      have gq44 := hm0.good.1
      refine z_X12_summedBy hS hm40 (by omega) (by omega) (by omega) (fun v45 m46 hm46 fm46 => ?_)
      have zb47 := hm46.f_336_21
      have Fm46 : ∀ c p : Int, ¬ c = 344 ∧ ¬ c = 345 ∧ ¬ (c = 336 ∧ 18 ≤ p ∧ p ≤ 18) → m46 c p = m0 c p := fun c p h => (fm46 c p (by omega)).trans (Fm40 c p h)
      refine g_C ?_
      refine g_cmp (fun w48 => ?_) (fun w48 => ?_) (fun w48 => ?_)
      · refine g_ifF (by omega) ?_
        refine g_C ?_
        have zb49 := hm46.f_336_21
        have q50 : m46 336 21 = (m0 336 21) := (hm46.g (by decide)).trans (((Eq.refl (m0 336 21)).trans (hm0.g (by decide))).symm)
        exact hk 0 m46 hm46 Fm46 (by omega) (by omega)
      · refine g_ifT (by omega) ?_
        refine g_C ?_
        refine g_cmp (fun w51 => ?_) (fun w51 => ?_) (fun w51 => ?_)
        · refine g_ifT (by omega) ?_
          refine g_w32 (by omega) (by omega) ?_
          have zb53 := hm46.f_336_21
          have q54 : m46 336 21 = (m0 336 21) := (hm46.g (by decide)).trans (((Eq.refl (m0 336 21)).trans (hm0.g (by decide))).symm)
          exact hk v45 m46 hm46 Fm46 (by omega) (by omega)
        · exfalso; omega
        · exfalso; omega
      · refine g_ifT (by omega) ?_
        refine g_C ?_
        refine g_cmp (fun w55 => ?_) (fun w55 => ?_) (fun w55 => ?_)
        · refine g_ifT (by omega) ?_
          refine g_w32 (by omega) (by omega) ?_
          have zb57 := hm46.f_336_21
          have q58 : m46 336 21 = (m0 336 21) := (hm46.g (by decide)).trans (((Eq.refl (m0 336 21)).trans (hm0.g (by decide))).symm)
          exact hk v45 m46 hm46 Fm46 (by omega) (by omega)
        · refine g_ifT (by omega) ?_
          refine g_w32 (by omega) (by omega) ?_
          have zb60 := hm46.f_336_21
          have q61 : m46 336 21 = (m0 336 21) := (hm46.g (by decide)).trans (((Eq.refl (m0 336 21)).trans (hm0.g (by decide))).symm)
          exact hk v45 m46 hm46 Fm46 (by omega) (by omega)
        · refine g_ifF (by omega) ?_
          refine g_C ?_
          have zb62 := hm46.f_336_21
          have q63 : m46 336 21 = (m0 336 21) := (hm46.g (by decide)).trans (((Eq.refl (m0 336 21)).trans (hm0.g (by decide))).symm)
          exact hk 50 m46 hm46 Fm46 (by omega) (by omega)
  · refine g_C ?_
    refine ⟨hS.k336, ?_⟩
    refine u_X12_handOf ?_
    refine g_getr 20 346 rfl hS.k336 hm0.f_336_20 (by decide) ?_
    refine g_C ?_
    refine g_C ?_
    refine g_M (by omega) (by omega) ?_
    refine g_A (by omega) (by omega) ?_
    refine g_A (by omega) (by omega) ?_
    refine g_ld (0) (20) hS.k346 hS.l346 (by omega) (by omega) (fam_346_13_5_0_4 hm0 (a := u1) (by omega) (by omega) (by omega)) (fun v64 ev64 bv64 cv64 => ?_)
    refine g_C ?_
    refine g_iDivc (d := 4) (by omega) (by omega) (by decide) (fun v65 bv65 cv65 => ?_)
    refine g_A (by omega) (by omega) ?_
    refine g_Aw (fun v66 bv66 cv66 => ?_)
    have zb67 := hm0.f_336_21
    have q68 : m0 336 21 = (m0 336 21) := (hm0.g (by decide)).trans (((Eq.refl (m0 336 21)).trans (hm0.g (by decide))).symm)
    exact hk v66 m0 hm0 Fm0 (by omega) (by omega)
theorem z_X12_turns {X : Mm} {S : Sh} {m0 : Mm} {K : Mm → Prop} {u1 : Int} (hS : Shp S) (hm0 : Inv X S m0) (l_u1 : 0 ≤ u1) (h_u1 : u1 ≤ 3) (hk : ∀ (M1 : Mm), Inv X S M1 → K M1) : wp_X12_turns S m0 336 u1 K := by
  refine u_X12_turns ?_
  refine g_C ?_
  refine g_C ?_
  refine g_M (by omega) (by omega) ?_
  refine g_A (by omega) (by omega) ?_
  refine g_getr 20 346 rfl hS.k336 hm0.f_336_20 (by decide) ?_
  refine g_C ?_
  refine g_A (by omega) (by omega) ?_
  refine g_ld (-1) (4) hS.k346 hS.l346 (by omega) (by omega) (fam_346_36_4_0_3 hm0 (a := u1) (by omega) (by omega) (by omega)) (fun v1 ev1 bv1 cv1 => ?_)
  refine g_if (fun w2 => ?_) (fun w2 => ?_)
  · refine g_C ?_
    refine ⟨hS.k336, ?_⟩
    refine u_X12_handOf ?_
    refine g_getr 20 346 rfl hS.k336 hm0.f_336_20 (by decide) ?_
    refine g_C ?_
    refine g_C ?_
    refine g_M (by omega) (by omega) ?_
    refine g_A (by omega) (by omega) ?_
    refine g_A (by omega) (by omega) ?_
    refine g_ld (0) (99) hS.k346 hS.l346 (by omega) (by omega) (fam_346_12_5_0_4 hm0 (a := v1) (by omega) (by omega) (by omega)) (fun v3 ev3 bv3 cv3 => ?_)
    refine g_getr 20 346 rfl hS.k336 hm0.f_336_20 (by decide) ?_
    refine g_C ?_
    refine g_A (by omega) (by omega) ?_
    refine g_ld (-2147483648) (2147483647) hS.k346 hS.l346 (by omega) (by omega) (fam_346_37_4_0_3 hm0 (a := u1) (by omega) (by omega) (by omega)) (fun v4 ev4 bv4 cv4 => ?_)
    refine g_getr 20 346 rfl hS.k336 hm0.f_336_20 (by decide) ?_
    refine g_C ?_
    refine g_ld (-2147483648) (2147483647) hS.k346 hS.l346 (by omega) (by omega) (hm0.f_346_7) (fun v5 ev5 bv5 cv5 => ?_)
    refine g_C ?_
    refine ⟨hS.k336, ?_⟩
    refine u_X12_handOf ?_
    refine g_getr 20 346 rfl hS.k336 hm0.f_336_20 (by decide) ?_
    refine g_C ?_
    refine g_C ?_
    refine g_M (by omega) (by omega) ?_
    refine g_A (by omega) (by omega) ?_
    refine g_A (by omega) (by omega) ?_
    refine g_ld (0) (5) hS.k346 hS.l346 (by omega) (by omega) (fam_346_11_5_0_4 hm0 (a := v1) (by omega) (by omega) (by omega)) (fun v6 ev6 bv6 cv6 => ?_)
    refine g_if (fun w7 => ?_) (fun w7 => ?_)
    · refine g_C ?_
      refine u_X12_turns_79 ?_
      refine ⟨hS.k336, ?_⟩
      refine z_X12_held hS hm0 (by omega) (by omega) (fun v8 bv8 cv8 => ?_)
      refine z_X12_bits hS hm0 (by omega) (by omega) (fun v9 bv9 cv9 => ?_)
      refine ⟨hS.k336, ?_⟩
      refine z_X12_turnsIn hS hm0 (by omega) (by omega) (by omega) (by omega) (by omega) (by omega) (by omega) (by omega) (by omega) (by omega) (by omega) (by omega) (by omega) (by omega) (fun v10 m11 hm11 fm11 bv10 cv10 => ?_)
      refine u_X12_turns_90 ?_
      refine g_getr 20 346 rfl hS.k336 hm11.f_336_20 (by decide) ?_
      refine g_C ?_
      refine g_A (by omega) (by omega) ?_
      refine g_getr 20 346 rfl hS.k336 hm11.f_336_20 (by decide) ?_
      refine g_C ?_
      refine g_A (by omega) (by omega) ?_
      refine g_ld (-2147483648) (2147483647) hS.k346 hS.l346 (by omega) (by omega) (fam_346_37_4_0_3 hm11 (a := u1) (by omega) (by omega) (by omega)) (fun v12 ev12 bv12 cv12 => ?_)
      refine g_Aw (fun v13 bv13 cv13 => ?_)
      refine g_C ?_
      refine u_X12_atMost ?_
      refine g_if (fun w14 => ?_) (fun w14 => ?_)
      · refine g_st hS.k346 hS.l346 (by omega) (by omega) (wfm_346_37_4_0_3 hm11 (a := u1) (by omega) (by omega) (by omega) (by omega) (by omega)) (fun m15 em15 hm15 => ?_)
        exact hk m15 hm15
      · refine g_st hS.k346 hS.l346 (by omega) (by omega) (wfm_346_37_4_0_3 hm11 (a := u1) (by omega) (by omega) (by omega) (by omega) (by omega)) (fun m16 em16 hm16 => ?_)
        exact hk m16 hm16
    · refine g_C ?_
      refine u_X12_turns_79 ?_
      refine ⟨hS.k336, ?_⟩
      refine z_X12_held hS hm0 (by omega) (by omega) (fun v17 bv17 cv17 => ?_)
      refine z_X12_bits hS hm0 (by omega) (by omega) (fun v18 bv18 cv18 => ?_)
      refine ⟨hS.k336, ?_⟩
      refine z_X12_turnsIn hS hm0 (by omega) (by omega) (by omega) (by omega) (by omega) (by omega) (by omega) (by omega) (by omega) (by omega) (by omega) (by omega) (by omega) (by omega) (fun v19 m20 hm20 fm20 bv19 cv19 => ?_)
      refine u_X12_turns_90 ?_
      refine g_getr 20 346 rfl hS.k336 hm20.f_336_20 (by decide) ?_
      refine g_C ?_
      refine g_A (by omega) (by omega) ?_
      refine g_getr 20 346 rfl hS.k336 hm20.f_336_20 (by decide) ?_
      refine g_C ?_
      refine g_A (by omega) (by omega) ?_
      refine g_ld (-2147483648) (2147483647) hS.k346 hS.l346 (by omega) (by omega) (fam_346_37_4_0_3 hm20 (a := u1) (by omega) (by omega) (by omega)) (fun v21 ev21 bv21 cv21 => ?_)
      refine g_Aw (fun v22 bv22 cv22 => ?_)
      refine g_C ?_
      refine u_X12_atMost ?_
      refine g_if (fun w23 => ?_) (fun w23 => ?_)
      · refine g_st hS.k346 hS.l346 (by omega) (by omega) (wfm_346_37_4_0_3 hm20 (a := u1) (by omega) (by omega) (by omega) (by omega) (by omega)) (fun m24 em24 hm24 => ?_)
        exact hk m24 hm24
      · refine g_st hS.k346 hS.l346 (by omega) (by omega) (wfm_346_37_4_0_3 hm20 (a := u1) (by omega) (by omega) (by omega) (by omega) (by omega)) (fun m25 em25 hm25 => ?_)
        exact hk m25 hm25
  · refine g_getr 20 346 rfl hS.k336 hm0.f_336_20 (by decide) ?_
    refine g_C ?_
    refine g_ld (0) (9) hS.k346 hS.l346 (by omega) (by omega) (hm0.f_346_1) (fun v26 ev26 bv26 cv26 => ?_)
    refine g_getr 20 346 rfl hS.k336 hm0.f_336_20 (by decide) ?_
    refine g_C ?_
    refine g_ld (-2147483648) (2147483647) hS.k346 hS.l346 (by omega) (by omega) (hm0.f_346_7) (fun v27 ev27 bv27 cv27 => ?_)
    refine ⟨hS.k336, ?_⟩
    refine z_X12_heatIn hS hm0 (by omega) (by omega) (fun v28 bv28 cv28 => ?_)
    refine g_Aw (fun v29 bv29 cv29 => ?_)
    refine u_X12_turns_90 ?_
    refine g_getr 20 346 rfl hS.k336 hm0.f_336_20 (by decide) ?_
    refine g_C ?_
    refine g_A (by omega) (by omega) ?_
    refine g_getr 20 346 rfl hS.k336 hm0.f_336_20 (by decide) ?_
    refine g_C ?_
    refine g_A (by omega) (by omega) ?_
    refine g_ld (-2147483648) (2147483647) hS.k346 hS.l346 (by omega) (by omega) (fam_346_37_4_0_3 hm0 (a := u1) (by omega) (by omega) (by omega)) (fun v30 ev30 bv30 cv30 => ?_)
    refine g_Aw (fun v31 bv31 cv31 => ?_)
    refine g_C ?_
    refine u_X12_atMost ?_
    refine g_if (fun w32 => ?_) (fun w32 => ?_)
    · refine g_st hS.k346 hS.l346 (by omega) (by omega) (wfm_346_37_4_0_3 hm0 (a := u1) (by omega) (by omega) (by omega) (by omega) (by omega)) (fun m33 em33 hm33 => ?_)
      exact hk m33 hm33
    · refine g_st hS.k346 hS.l346 (by omega) (by omega) (wfm_346_37_4_0_3 hm0 (a := u1) (by omega) (by omega) (by omega) (by omega) (by omega)) (fun m34 em34 hm34 => ?_)
      exact hk m34 hm34
theorem z_X12_passes {X : Mm} {S : Sh} {m0 : Mm} {K : Int → Mm → Prop} (hS : Shp S) (hm0 : Inv X S m0)  (hk : ∀ (r : Int) (M1 : Mm), Inv X S M1 → (-2147483648) ≤ r → r ≤ 2147483647 → K r M1) : wp_X12_passes S m0 336 K := by
  refine u_X12_passes ?_
  refine g_C ?_
  refine g_C ?_
  have L_n_l6838 : ∀ (n_l6838 : Nat) (u2 : Int) (u3 : Int) (m4 : Mm), Inv X S m4 → (-2147483648) ≤ u2 → u2 ≤ 2147483647 → 0 ≤ u3 → u3 ≤ 4 → 5 - u3 ≤ (n_l6838 : Int) → wp_X12_passes_4 S K n_l6838 336 u2 u3 m4 := by
    intro n_l6838
    induction n_l6838 with
    | zero => intro u2 u3 m4 hm4 bu2 cu2 bu3 cu3 zn_l6838; exfalso; omega
    | succ n_l6838 ih_n_l6838 =>
      intro u2 u3 m4 hm4 bu2 cu2 bu3 cu3 zn_l6838
      refine u_X12_passes_4 ?_
      refine g_getr 20 346 rfl hS.k336 hm4.f_336_20 (by decide) ?_
      refine g_C ?_
      refine g_ld (0) (4) hS.k346 hS.l346 (by omega) (by omega) (hm4.f_346_5) (fun v6839 ev6839 bv6839 cv6839 => ?_)
      refine g_if (fun w6840 => ?_) (fun w6840 => ?_)
      · refine g_C ?_
        have L_n_l7127 : ∀ (n_l7127 : Nat) (u6843 : Int) (m6844 : Mm), Inv X S m6844 → 0 ≤ u6843 → u6843 ≤ 5 → 6 - u6843 ≤ (n_l7127 : Int) → wp_X12_passes_80 S K n_l7127 336 u2 u6843 m6844 := by
          intro n_l7127
          induction n_l7127 with
          | zero => intro u6843 m6844 hm6844 bu6843 cu6843 zn_l7127; exfalso; omega
          | succ n_l7127 ih_n_l7127 =>
            intro u6843 m6844 hm6844 bu6843 cu6843 zn_l7127
            refine u_X12_passes_80 ?_
            refine g_getr 20 346 rfl hS.k336 hm6844.f_336_20 (by decide) ?_
            refine g_C ?_
            refine g_ld (0) (5) hS.k346 hS.l346 (by omega) (by omega) (hm6844.f_346_4) (fun v7128 ev7128 bv7128 cv7128 => ?_)
            refine g_if (fun w7129 => ?_) (fun w7129 => ?_)
            · refine g_getr 20 346 rfl hS.k336 hm6844.f_336_20 (by decide) ?_
              refine g_C ?_
              refine g_ld (-2147483648) (2147483647) hS.k346 hS.l346 (by omega) (by omega) (hm6844.f_346_7) (fun v7130 ev7130 bv7130 cv7130 => ?_)
              refine g_C ?_
              refine g_Aw (fun v7131 bv7131 cv7131 => ?_)
              refine g_st hS.k346 hS.l346 (by omega) (by omega) (hm6844.w_346_7 (by omega) (by omega)) (fun m7132 em7132 hm7132 => ?_)
              exact hk u2 m7132 hm7132 (by omega) (by omega)
            · refine g_C ?_
              refine g_C ?_
              refine g_M (by omega) (by omega) ?_
              refine g_A (by omega) (by omega) ?_
              refine g_getr 20 346 rfl hS.k336 hm6844.f_336_20 (by decide) ?_
              refine g_C ?_
              refine g_A (by omega) (by omega) ?_
              refine g_ld (0) (99) hS.k346 hS.l346 (by omega) (by omega) (fam_346_12_5_0_4 hm6844 (a := u6843) (by omega) (by omega) (by omega)) (fun v7133 ev7133 bv7133 cv7133 => ?_)
              refine g_if (fun w7134 => ?_) (fun w7134 => ?_)
              · refine g_getr 20 346 rfl hS.k336 hm6844.f_336_20 (by decide) ?_
                refine g_C ?_
                refine g_A (by omega) (by omega) ?_
                refine g_ld (0) (99) hS.k346 hS.l346 (by omega) (by omega) (fam_346_12_5_0_4 hm6844 (a := u6843) (by omega) (by omega) (by omega)) (fun v7135 ev7135 bv7135 cv7135 => ?_)
                have qv7135 : v7135 = v7133 := ev7135.trans ev7133.symm
                refine g_C ?_
                refine g_S (by omega) (by omega) ?_
                refine u_X12_passes_122 ?_
                refine g_getr 20 346 rfl hS.k336 hm6844.f_336_20 (by decide) ?_
                refine g_C ?_
                refine g_A (by omega) (by omega) ?_
                refine ⟨hS.k336, ?_⟩
                refine z_X12_held hS hm6844 (by omega) (by omega) (fun v7136 bv7136 cv7136 => ?_)
                refine g_if (fun w7137 => ?_) (fun w7137 => ?_)
                · refine u_X12_passes_157 ?_
                  refine g_st hS.k346 hS.l346 (by omega) (by omega) (wfm_346_12_5_0_4 hm6844 (a := u6843) (by omega) (by omega) (by omega) (by omega) (by omega)) (fun m7138 em7138 hm7138 => ?_)
                  refine g_getr 20 346 rfl hS.k336 hm7138.f_336_20 (by decide) ?_
                  refine g_C ?_
                  refine g_A (by omega) (by omega) ?_
                  refine g_ld (0) (5) hS.k346 hS.l346 (by omega) (by omega) (fam_346_11_5_0_4 hm7138 (a := u6843) (by omega) (by omega) (by omega)) (fun v7139 ev7139 bv7139 cv7139 => ?_)
                  refine g_getr 20 346 rfl hS.k336 hm7138.f_336_20 (by decide) ?_
                  refine g_C ?_
                  refine g_A (by omega) (by omega) ?_
                  refine g_ld (0) (5) hS.k346 hS.l346 (by omega) (by omega) (fam_346_11_5_0_4 hm7138 (a := u6843) (by omega) (by omega) (by omega)) (fun v7140 ev7140 bv7140 cv7140 => ?_)
                  have qv7140 : v7140 = v7139 := ev7140.trans ev7139.symm
                  refine g_if (fun w7141 => ?_) (fun w7141 => ?_)
                  · refine g_C ?_
                    refine u_X12_passes_183 ?_
                    refine g_S (by omega) (by omega) ?_
                    refine g_st hS.k346 hS.l346 (by omega) (by omega) (wfm_346_11_5_0_4 hm7138 (a := u6843) (by omega) (by omega) (by omega) (by omega) (by omega)) (fun m7142 em7142 hm7142 => ?_)
                    refine g_A (by omega) (by omega) ?_
                    exact ih_n_l7127 (u6843 + 1) m7142 hm7142 (by omega) (by omega) (by omega)
                  · refine g_C ?_
                    refine u_X12_passes_183 ?_
                    refine g_S (by omega) (by omega) ?_
                    refine g_st hS.k346 hS.l346 (by omega) (by omega) (wfm_346_11_5_0_4 hm7138 (a := u6843) (by omega) (by omega) (by omega) (by omega) (by omega)) (fun m7143 em7143 hm7143 => ?_)
                    refine g_A (by omega) (by omega) ?_
                    exact ih_n_l7127 (u6843 + 1) m7143 hm7143 (by omega) (by omega) (by omega)
                · refine g_getr 20 346 rfl hS.k336 hm6844.f_336_20 (by decide) ?_
                  refine g_C ?_
                  refine g_A (by omega) (by omega) ?_
                  refine g_ld (0) (99) hS.k346 hS.l346 (by omega) (by omega) (fam_346_12_5_0_4 hm6844 (a := u6843) (by omega) (by omega) (by omega)) (fun v7144 ev7144 bv7144 cv7144 => ?_)
                  have qv7144 : v7144 = v7133 := ev7144.trans ev7133.symm
                  refine ⟨hS.k336, ?_⟩
                  refine u_X12_moreTired ?_
                  refine g_C ?_
                  refine ⟨hS.k336, ?_⟩
                  refine u_X12_handOf ?_
                  refine g_getr 20 346 rfl hS.k336 hm6844.f_336_20 (by decide) ?_
                  refine g_C ?_
                  refine g_C ?_
                  refine g_M (by omega) (by omega) ?_
                  refine g_A (by omega) (by omega) ?_
                  refine g_A (by omega) (by omega) ?_
                  refine g_ld (0) (5) hS.k346 hS.l346 (by omega) (by omega) (fam_346_14_5_0_4 hm6844 (a := u6843) (by omega) (by omega) (by omega)) (fun v7145 ev7145 bv7145 cv7145 => ?_)
                  refine g_A (by omega) (by omega) ?_
                  refine g_C ?_
                  refine u_X12_atMost ?_
                  refine g_if (fun w7146 => ?_) (fun w7146 => ?_)
                  · refine u_X12_passes_157 ?_
                    refine g_st hS.k346 hS.l346 (by omega) (by omega) (wfm_346_12_5_0_4 hm6844 (a := u6843) (by omega) (by omega) (by omega) (by omega) (by omega)) (fun m7147 em7147 hm7147 => ?_)
                    refine g_getr 20 346 rfl hS.k336 hm7147.f_336_20 (by decide) ?_
                    refine g_C ?_
                    refine g_A (by omega) (by omega) ?_
                    refine g_ld (0) (5) hS.k346 hS.l346 (by omega) (by omega) (fam_346_11_5_0_4 hm7147 (a := u6843) (by omega) (by omega) (by omega)) (fun v7148 ev7148 bv7148 cv7148 => ?_)
                    refine g_getr 20 346 rfl hS.k336 hm7147.f_336_20 (by decide) ?_
                    refine g_C ?_
                    refine g_A (by omega) (by omega) ?_
                    refine g_ld (0) (5) hS.k346 hS.l346 (by omega) (by omega) (fam_346_11_5_0_4 hm7147 (a := u6843) (by omega) (by omega) (by omega)) (fun v7149 ev7149 bv7149 cv7149 => ?_)
                    have qv7149 : v7149 = v7148 := ev7149.trans ev7148.symm
                    refine g_if (fun w7150 => ?_) (fun w7150 => ?_)
                    · refine g_C ?_
                      refine u_X12_passes_183 ?_
                      refine g_S (by omega) (by omega) ?_
                      refine g_st hS.k346 hS.l346 (by omega) (by omega) (wfm_346_11_5_0_4 hm7147 (a := u6843) (by omega) (by omega) (by omega) (by omega) (by omega)) (fun m7151 em7151 hm7151 => ?_)
                      refine g_A (by omega) (by omega) ?_
                      exact ih_n_l7127 (u6843 + 1) m7151 hm7151 (by omega) (by omega) (by omega)
                    · refine g_C ?_
                      refine u_X12_passes_183 ?_
                      refine g_S (by omega) (by omega) ?_
                      refine g_st hS.k346 hS.l346 (by omega) (by omega) (wfm_346_11_5_0_4 hm7147 (a := u6843) (by omega) (by omega) (by omega) (by omega) (by omega)) (fun m7152 em7152 hm7152 => ?_)
                      refine g_A (by omega) (by omega) ?_
                      exact ih_n_l7127 (u6843 + 1) m7152 hm7152 (by omega) (by omega) (by omega)
                  · refine u_X12_passes_157 ?_
                    refine g_st hS.k346 hS.l346 (by omega) (by omega) (wfm_346_12_5_0_4 hm6844 (a := u6843) (by omega) (by omega) (by omega) (by omega) (by omega)) (fun m7153 em7153 hm7153 => ?_)
                    refine g_getr 20 346 rfl hS.k336 hm7153.f_336_20 (by decide) ?_
                    refine g_C ?_
                    refine g_A (by omega) (by omega) ?_
                    refine g_ld (0) (5) hS.k346 hS.l346 (by omega) (by omega) (fam_346_11_5_0_4 hm7153 (a := u6843) (by omega) (by omega) (by omega)) (fun v7154 ev7154 bv7154 cv7154 => ?_)
                    refine g_getr 20 346 rfl hS.k336 hm7153.f_336_20 (by decide) ?_
                    refine g_C ?_
                    refine g_A (by omega) (by omega) ?_
                    refine g_ld (0) (5) hS.k346 hS.l346 (by omega) (by omega) (fam_346_11_5_0_4 hm7153 (a := u6843) (by omega) (by omega) (by omega)) (fun v7155 ev7155 bv7155 cv7155 => ?_)
                    have qv7155 : v7155 = v7154 := ev7155.trans ev7154.symm
                    refine g_if (fun w7156 => ?_) (fun w7156 => ?_)
                    · refine g_C ?_
                      refine u_X12_passes_183 ?_
                      refine g_S (by omega) (by omega) ?_
                      refine g_st hS.k346 hS.l346 (by omega) (by omega) (wfm_346_11_5_0_4 hm7153 (a := u6843) (by omega) (by omega) (by omega) (by omega) (by omega)) (fun m7157 em7157 hm7157 => ?_)
                      refine g_A (by omega) (by omega) ?_
                      exact ih_n_l7127 (u6843 + 1) m7157 hm7157 (by omega) (by omega) (by omega)
                    · refine g_C ?_
                      refine u_X12_passes_183 ?_
                      refine g_S (by omega) (by omega) ?_
                      refine g_st hS.k346 hS.l346 (by omega) (by omega) (wfm_346_11_5_0_4 hm7153 (a := u6843) (by omega) (by omega) (by omega) (by omega) (by omega)) (fun m7158 em7158 hm7158 => ?_)
                      refine g_A (by omega) (by omega) ?_
                      exact ih_n_l7127 (u6843 + 1) m7158 hm7158 (by omega) (by omega) (by omega)
              · refine g_C ?_
                refine u_X12_passes_122 ?_
                refine g_getr 20 346 rfl hS.k336 hm6844.f_336_20 (by decide) ?_
                refine g_C ?_
                refine g_A (by omega) (by omega) ?_
                refine ⟨hS.k336, ?_⟩
                refine z_X12_held hS hm6844 (by omega) (by omega) (fun v7159 bv7159 cv7159 => ?_)
                refine g_if (fun w7160 => ?_) (fun w7160 => ?_)
                · refine u_X12_passes_157 ?_
                  refine g_st hS.k346 hS.l346 (by omega) (by omega) (wfm_346_12_5_0_4 hm6844 (a := u6843) (by omega) (by omega) (by omega) (by omega) (by omega)) (fun m7161 em7161 hm7161 => ?_)
                  refine g_getr 20 346 rfl hS.k336 hm7161.f_336_20 (by decide) ?_
                  refine g_C ?_
                  refine g_A (by omega) (by omega) ?_
                  refine g_ld (0) (5) hS.k346 hS.l346 (by omega) (by omega) (fam_346_11_5_0_4 hm7161 (a := u6843) (by omega) (by omega) (by omega)) (fun v7162 ev7162 bv7162 cv7162 => ?_)
                  refine g_getr 20 346 rfl hS.k336 hm7161.f_336_20 (by decide) ?_
                  refine g_C ?_
                  refine g_A (by omega) (by omega) ?_
                  refine g_ld (0) (5) hS.k346 hS.l346 (by omega) (by omega) (fam_346_11_5_0_4 hm7161 (a := u6843) (by omega) (by omega) (by omega)) (fun v7163 ev7163 bv7163 cv7163 => ?_)
                  have qv7163 : v7163 = v7162 := ev7163.trans ev7162.symm
                  refine g_if (fun w7164 => ?_) (fun w7164 => ?_)
                  · refine g_C ?_
                    refine u_X12_passes_183 ?_
                    refine g_S (by omega) (by omega) ?_
                    refine g_st hS.k346 hS.l346 (by omega) (by omega) (wfm_346_11_5_0_4 hm7161 (a := u6843) (by omega) (by omega) (by omega) (by omega) (by omega)) (fun m7165 em7165 hm7165 => ?_)
                    refine g_A (by omega) (by omega) ?_
                    exact ih_n_l7127 (u6843 + 1) m7165 hm7165 (by omega) (by omega) (by omega)
                  · refine g_C ?_
                    refine u_X12_passes_183 ?_
                    refine g_S (by omega) (by omega) ?_
                    refine g_st hS.k346 hS.l346 (by omega) (by omega) (wfm_346_11_5_0_4 hm7161 (a := u6843) (by omega) (by omega) (by omega) (by omega) (by omega)) (fun m7166 em7166 hm7166 => ?_)
                    refine g_A (by omega) (by omega) ?_
                    exact ih_n_l7127 (u6843 + 1) m7166 hm7166 (by omega) (by omega) (by omega)
                · refine g_getr 20 346 rfl hS.k336 hm6844.f_336_20 (by decide) ?_
                  refine g_C ?_
                  refine g_A (by omega) (by omega) ?_
                  refine g_ld (0) (99) hS.k346 hS.l346 (by omega) (by omega) (fam_346_12_5_0_4 hm6844 (a := u6843) (by omega) (by omega) (by omega)) (fun v7167 ev7167 bv7167 cv7167 => ?_)
                  have qv7167 : v7167 = v7133 := ev7167.trans ev7133.symm
                  refine ⟨hS.k336, ?_⟩
                  refine u_X12_moreTired ?_
                  refine g_C ?_
                  refine ⟨hS.k336, ?_⟩
                  refine u_X12_handOf ?_
                  refine g_getr 20 346 rfl hS.k336 hm6844.f_336_20 (by decide) ?_
                  refine g_C ?_
                  refine g_C ?_
                  refine g_M (by omega) (by omega) ?_
                  refine g_A (by omega) (by omega) ?_
                  refine g_A (by omega) (by omega) ?_
                  refine g_ld (0) (5) hS.k346 hS.l346 (by omega) (by omega) (fam_346_14_5_0_4 hm6844 (a := u6843) (by omega) (by omega) (by omega)) (fun v7168 ev7168 bv7168 cv7168 => ?_)
                  refine g_A (by omega) (by omega) ?_
                  refine g_C ?_
                  refine u_X12_atMost ?_
                  refine g_ifT (by omega) ?_
                  refine u_X12_passes_157 ?_
                  refine g_st hS.k346 hS.l346 (by omega) (by omega) (wfm_346_12_5_0_4 hm6844 (a := u6843) (by omega) (by omega) (by omega) (by omega) (by omega)) (fun m7169 em7169 hm7169 => ?_)
                  refine g_getr 20 346 rfl hS.k336 hm7169.f_336_20 (by decide) ?_
                  refine g_C ?_
                  refine g_A (by omega) (by omega) ?_
                  refine g_ld (0) (5) hS.k346 hS.l346 (by omega) (by omega) (fam_346_11_5_0_4 hm7169 (a := u6843) (by omega) (by omega) (by omega)) (fun v7170 ev7170 bv7170 cv7170 => ?_)
                  refine g_getr 20 346 rfl hS.k336 hm7169.f_336_20 (by decide) ?_
                  refine g_C ?_
                  refine g_A (by omega) (by omega) ?_
                  refine g_ld (0) (5) hS.k346 hS.l346 (by omega) (by omega) (fam_346_11_5_0_4 hm7169 (a := u6843) (by omega) (by omega) (by omega)) (fun v7171 ev7171 bv7171 cv7171 => ?_)
                  have qv7171 : v7171 = v7170 := ev7171.trans ev7170.symm
                  refine g_if (fun w7172 => ?_) (fun w7172 => ?_)
                  · refine g_C ?_
                    refine u_X12_passes_183 ?_
                    refine g_S (by omega) (by omega) ?_
                    refine g_st hS.k346 hS.l346 (by omega) (by omega) (wfm_346_11_5_0_4 hm7169 (a := u6843) (by omega) (by omega) (by omega) (by omega) (by omega)) (fun m7173 em7173 hm7173 => ?_)
                    refine g_A (by omega) (by omega) ?_
                    exact ih_n_l7127 (u6843 + 1) m7173 hm7173 (by omega) (by omega) (by omega)
                  · refine g_C ?_
                    refine u_X12_passes_183 ?_
                    refine g_S (by omega) (by omega) ?_
                    refine g_st hS.k346 hS.l346 (by omega) (by omega) (wfm_346_11_5_0_4 hm7169 (a := u6843) (by omega) (by omega) (by omega) (by omega) (by omega)) (fun m7174 em7174 hm7174 => ?_)
                    refine g_A (by omega) (by omega) ?_
                    exact ih_n_l7127 (u6843 + 1) m7174 hm7174 (by omega) (by omega) (by omega)
        exact ⟨6, L_n_l7127 6 0 m4 hm4 (by omega) (by omega) (by omega)⟩
      · refine g_C ?_
        refine ⟨hS.k336, ?_⟩
        refine u_X12_jugOf ?_
        refine g_getr 20 346 rfl hS.k336 hm4.f_336_20 (by decide) ?_
        refine g_C ?_
        refine g_C ?_
        refine g_M (by omega) (by omega) ?_
        refine g_A (by omega) (by omega) ?_
        refine g_A (by omega) (by omega) ?_
        refine g_ld (0) (1) hS.k346 hS.l346 (by omega) (by omega) (fam_346_38_4_0_3 hm4 (a := u3) (by omega) (by omega) (by omega)) (fun v7175 ev7175 bv7175 cv7175 => ?_)
        refine g_C ?_
        refine g_if (fun w7176 => ?_) (fun w7176 => ?_)
        · refine g_C ?_
          refine ⟨hS.k336, ?_⟩
          refine u_X12_jugOf ?_
          refine g_getr 20 346 rfl hS.k336 hm4.f_336_20 (by decide) ?_
          refine g_C ?_
          refine g_C ?_
          refine g_M (by omega) (by omega) ?_
          refine g_A (by omega) (by omega) ?_
          refine g_A (by omega) (by omega) ?_
          refine g_ld (-2147483648) (2147483647) hS.k346 hS.l346 (by omega) (by omega) (fam_346_37_4_0_3 hm4 (a := u3) (by omega) (by omega) (by omega)) (fun v7177 ev7177 bv7177 cv7177 => ?_)
          refine ⟨hS.k336, ?_⟩
          refine z_X12_turns hS hm4 (by omega) (by omega) (fun m7178 hm7178 => ?_)
          refine g_getr 20 346 rfl hS.k336 hm7178.f_336_20 (by decide) ?_
          refine g_C ?_
          refine g_ld (0) (99) hS.k346 hS.l346 (by omega) (by omega) (hm7178.f_346_2) (fun v7179 ev7179 bv7179 cv7179 => ?_)
          refine g_if (fun w7180 => ?_) (fun w7180 => ?_)
          · refine u_X12_passes_69 ?_
            refine g_C ?_
            refine u_X12_passes_70 ?_
            refine g_A (by omega) (by omega) ?_
            refine u_X12_passes_72 ?_
            refine g_A (by omega) (by omega) ?_
            exact ih_n_l6838 (u2 + 0) (u3 + 1) m7178 hm7178 (by omega) (by omega) (by omega) (by omega) (by omega)
          · refine g_C ?_
            refine ⟨hS.k336, ?_⟩
            refine u_X12_jugOf ?_
            refine g_getr 20 346 rfl hS.k336 hm7178.f_336_20 (by decide) ?_
            refine g_C ?_
            refine g_C ?_
            refine g_M (by omega) (by omega) ?_
            refine g_A (by omega) (by omega) ?_
            refine g_A (by omega) (by omega) ?_
            refine g_ld (-2147483648) (2147483647) hS.k346 hS.l346 (by omega) (by omega) (fam_346_37_4_0_3 hm7178 (a := u3) (by omega) (by omega) (by omega)) (fun v7181 ev7181 bv7181 cv7181 => ?_)
            refine g_getr 20 346 rfl hS.k336 hm7178.f_336_20 (by decide) ?_
            refine g_C ?_
            refine g_ld (0) (99) hS.k346 hS.l346 (by omega) (by omega) (hm7178.f_346_2) (fun v7182 ev7182 bv7182 cv7182 => ?_)
            have qv7182 : v7182 = v7179 := (ev7182.trans (hm7178.g (by decide))).trans ((ev7179.trans (hm7178.g (by decide))).symm)
            refine g_if (fun w7183 => ?_) (fun w7183 => ?_)
            · refine u_X12_passes_69 ?_
              refine g_C ?_
              refine u_X12_passes_70 ?_
              refine g_A (by omega) (by omega) ?_
              refine u_X12_passes_72 ?_
              refine g_A (by omega) (by omega) ?_
              exact ih_n_l6838 (u2 + 0) (u3 + 1) m7178 hm7178 (by omega) (by omega) (by omega) (by omega) (by omega)
            · refine g_C ?_
              refine u_X12_passes_70 ?_
              refine g_Aw (fun v7184 bv7184 cv7184 => ?_)
              refine u_X12_passes_72 ?_
              refine g_A (by omega) (by omega) ?_
              exact ih_n_l6838 v7184 (u3 + 1) m7178 hm7178 (by omega) (by omega) (by omega) (by omega) (by omega)
        · refine u_X12_passes_72 ?_
          refine g_A (by omega) (by omega) ?_
          exact ih_n_l6838 u2 (u3 + 1) m4 hm4 (by omega) (by omega) (by omega) (by omega) (by omega)
  exact ⟨5, L_n_l6838 5 0 0 m0 hm0 (by omega) (by omega) (by omega) (by omega) (by omega)⟩
theorem z_X12_ahead {X : Mm} {S : Sh} {m0 : Mm} {K : Int → Mm → Prop} {u1 u2 u3 : Int} (hS : Shp S) (hm0 : Inv X S m0) (l_u1 : (-2147483648) ≤ u1) (h_u1 : u1 ≤ 2147483647) (l_u2 : (-2147483648) ≤ u2) (h_u2 : u2 ≤ 2147483647) (l_u3 : (-2147483648) ≤ u3) (h_u3 : u3 ≤ 2147483647) (hk : ∀ (r : Int) (M1 : Mm), Inv X S M1 → (-2147483648) ≤ r → r ≤ 2147483647 → K r M1) : wp_X12_ahead S m0 336 u1 u2 u3 K := by
  refine u_X12_ahead ?_
  refine g_C ?_
  refine g_C ?_
  refine g_C ?_
  refine z_in (fun aw1 bw1 => ?_) (fun cw1 => ?_)
  · refine g_ifF (by omega) ?_
    refine g_C ?_
    refine g_C ?_
    refine g_C ?_
    refine z_in (fun aw2 bw2 => ?_) (fun cw2 => ?_)
    · refine g_ifF (by omega) ?_
      refine g_if (fun w3 => ?_) (fun w3 => ?_)
      · refine ⟨hS.k336, ?_⟩
        refine u_X12_isHand ?_
        refine g_if (fun w4 => ?_) (fun w4 => ?_)
        · refine g_C ?_
          refine ⟨by omega, ?_⟩
          refine g_ifF (by omega) ?_
          refine g_C ?_
          exact hk (-2) m0 hm0 (by omega) (by omega)
        · refine g_getr 20 346 rfl hS.k336 hm0.f_336_20 (by decide) ?_
          refine g_C ?_
          refine g_ld (0) (5) hS.k346 hS.l346 (by omega) (by omega) (hm0.f_346_4) (fun v5 ev5 bv5 cv5 => ?_)
          refine g_if (fun w6 => ?_) (fun w6 => ?_)
          · refine g_C ?_
            refine ⟨by omega, ?_⟩
            refine g_ifF (by omega) ?_
            refine g_C ?_
            exact hk (-2) m0 hm0 (by omega) (by omega)
          · refine g_C ?_
            refine ⟨by omega, ?_⟩
            refine g_ifT (by omega) ?_
            refine u_X12_ahead_48 ?_
            refine ⟨hS.k336, ?_⟩
            refine z_X12_keeps hS hm0 (fun m7 hm7 fm7 => ?_)
            refine g_C ?_
            have L_n_l109 : ∀ (n_l109 : Nat) (u12 : Int) (m13 : Mm), Inv (up X (-1) 0 1) S m13 → 0 ≤ u12 → u12 ≤ 100 → 101 - u12 ≤ (n_l109 : Int) → wp_X12_ahead_55 S K n_l109 336 u1 u2 u3 u12 m13 := by
              intro n_l109
              induction n_l109 with
              | zero => intro u12 m13 hm13 bu12 cu12 zn_l109; exfalso; omega
              | succ n_l109 ih_n_l109 =>
                intro u12 m13 hm13 bu12 cu12 zn_l109
                refine u_X12_ahead_55 ?_
                refine g_if (fun w110 => ?_) (fun w110 => ?_)
                · refine g_C ?_
                  refine g_ifF (by omega) ?_
                  refine g_C ?_
                  refine ⟨hS.k336, ?_⟩
                  refine u_X12_handOf ?_
                  refine g_getr 20 346 rfl hS.k336 hm13.f_336_20 (by decide) ?_
                  refine g_C ?_
                  refine g_C ?_
                  refine g_M (by omega) (by omega) ?_
                  refine g_A (by omega) (by omega) ?_
                  refine g_A (by omega) (by omega) ?_
                  refine g_ld (0) (99) hS.k346 hS.l346 (by omega) (by omega) (fam_346_12_5_0_4 hm13 (a := u1) (by omega) (by omega) (by omega)) (fun v111 ev111 bv111 cv111 => ?_)
                  refine u_X12_ahead_106 ?_
                  refine ⟨hS.k336, ?_⟩
                  refine z_X12_laysBack hS hm13 (up_at _ _ _ _) (fun m112 hm112 => ?_)
                  exact hk v111 m112 hm112.unflag (by omega) (by omega)
                · refine ⟨hS.k336, ?_⟩
                  refine z_X12_passes hS hm13 (fun v113 m114 hm114 bv113 cv113 => ?_)
                  refine g_A (by omega) (by omega) ?_
                  exact ih_n_l109 (u12 + 1) m114 hm114 (by omega) (by omega) (by omega)
            exact ⟨101, L_n_l109 101 0 m7 hm7 (by omega) (by omega) (by omega)⟩
      · refine ⟨hS.k336, ?_⟩
        refine u_X12_isJug ?_
        refine g_if (fun w115 => ?_) (fun w115 => ?_)
        · refine g_C ?_
          refine ⟨by omega, ?_⟩
          refine g_ifF (by omega) ?_
          refine g_C ?_
          exact hk (-2) m0 hm0 (by omega) (by omega)
        · refine g_getr 20 346 rfl hS.k336 hm0.f_336_20 (by decide) ?_
          refine g_C ?_
          refine g_ld (0) (4) hS.k346 hS.l346 (by omega) (by omega) (hm0.f_346_5) (fun v116 ev116 bv116 cv116 => ?_)
          refine g_if (fun w117 => ?_) (fun w117 => ?_)
          · refine g_C ?_
            refine ⟨by omega, ?_⟩
            refine g_ifF (by omega) ?_
            refine g_C ?_
            exact hk (-2) m0 hm0 (by omega) (by omega)
          · refine g_C ?_
            refine ⟨by omega, ?_⟩
            refine g_ifT (by omega) ?_
            refine u_X12_ahead_48 ?_
            refine ⟨hS.k336, ?_⟩
            refine z_X12_keeps hS hm0 (fun m118 hm118 fm118 => ?_)
            refine g_C ?_
            have L_n_l277 : ∀ (n_l277 : Nat) (u123 : Int) (m124 : Mm), Inv (up X (-1) 0 1) S m124 → 0 ≤ u123 → u123 ≤ 100 → 101 - u123 ≤ (n_l277 : Int) → wp_X12_ahead_55 S K n_l277 336 u1 u2 u3 u123 m124 := by
              intro n_l277
              induction n_l277 with
              | zero => intro u123 m124 hm124 bu123 cu123 zn_l277; exfalso; omega
              | succ n_l277 ih_n_l277 =>
                intro u123 m124 hm124 bu123 cu123 zn_l277
                refine u_X12_ahead_55 ?_
                refine g_if (fun w278 => ?_) (fun w278 => ?_)
                · refine g_C ?_
                  refine g_ifT (by omega) ?_
                  refine g_C ?_
                  refine ⟨hS.k336, ?_⟩
                  refine u_X12_jugOf ?_
                  refine g_getr 20 346 rfl hS.k336 hm124.f_336_20 (by decide) ?_
                  refine g_C ?_
                  refine g_C ?_
                  refine g_M (by omega) (by omega) ?_
                  refine g_A (by omega) (by omega) ?_
                  refine g_A (by omega) (by omega) ?_
                  refine g_ld (0) (1) hS.k346 hS.l346 (by omega) (by omega) (fam_346_38_4_0_3 hm124 (a := u1) (by omega) (by omega) (by omega)) (fun v279 ev279 bv279 cv279 => ?_)
                  refine g_C ?_
                  refine g_if (fun w280 => ?_) (fun w280 => ?_)
                  · refine g_C ?_
                    refine ⟨hS.k336, ?_⟩
                    refine u_X12_jugOf ?_
                    refine g_getr 20 346 rfl hS.k336 hm124.f_336_20 (by decide) ?_
                    refine g_C ?_
                    refine g_C ?_
                    refine g_M (by omega) (by omega) ?_
                    refine g_A (by omega) (by omega) ?_
                    refine g_A (by omega) (by omega) ?_
                    refine g_ld (-2147483648) (2147483647) hS.k346 hS.l346 (by omega) (by omega) (fam_346_37_4_0_3 hm124 (a := u1) (by omega) (by omega) (by omega)) (fun v281 ev281 bv281 cv281 => ?_)
                    refine u_X12_ahead_106 ?_
                    refine ⟨hS.k336, ?_⟩
                    refine z_X12_laysBack hS hm124 (up_at _ _ _ _) (fun m282 hm282 => ?_)
                    exact hk v281 m282 hm282.unflag (by omega) (by omega)
                  · refine g_C ?_
                    refine u_X12_ahead_106 ?_
                    refine ⟨hS.k336, ?_⟩
                    refine z_X12_laysBack hS hm124 (up_at _ _ _ _) (fun m283 hm283 => ?_)
                    exact hk (-1) m283 hm283.unflag (by omega) (by omega)
                · refine ⟨hS.k336, ?_⟩
                  refine z_X12_passes hS hm124 (fun v284 m285 hm285 bv284 cv284 => ?_)
                  refine g_A (by omega) (by omega) ?_
                  exact ih_n_l277 (u123 + 1) m285 hm285 (by omega) (by omega) (by omega)
            exact ⟨101, L_n_l277 101 0 m118 hm118 (by omega) (by omega) (by omega)⟩
    · refine g_ifT (by omega) ?_
      refine g_C ?_
      exact hk (-2) m0 hm0 (by omega) (by omega)
  · refine g_ifT (by omega) ?_
    refine g_C ?_
    exact hk (-2) m0 hm0 (by omega) (by omega)
