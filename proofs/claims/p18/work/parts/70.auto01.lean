theorem z_X0_readHeat {X : Mm} {S : Sh} {m0 : Mm} {K : Int → Mm → Prop} (hS : Shp S) (hm0 : Inv X S m0) (p0 : m0 32 6 ≤ 3) (hk : ∀ (r : Int) (M1 : Mm), Inv X S M1 → 0 ≤ r → r ≤ 1 → K r M1) : wp_X0_readHeat S m0 31 K := by
  refine u_X0_readHeat ?_
  refine g_getr 0 1 rfl hS.k31 hm0.f_31_0 (by decide) ?_
  refine g_C ?_
  refine g_C ?_
  refine ⟨hS.k1, ?_⟩
  refine z_X7_takeNumber hS hm0 (by omega) (by omega) (by omega) (by omega) (fun v1 m2 hm2 fm2 bv1 cv1 yv1_0 yv1_1 yv1_2 => ?_)
  have zb3 := hm2.f_32_6
  have zb4 := hm2.f_32_0
  refine g_C ?_
  refine g_if (fun w5 => ?_) (fun w5 => ?_)
  · refine g_getr 0 1 rfl hS.k31 hm2.f_31_0 (by decide) ?_
    refine g_C ?_
    refine ⟨hS.k1, ?_⟩
    refine z_X7_takeNumber hS hm2 (by omega) (by omega) (by omega) (by omega) (fun v6 m7 hm7 fm7 bv6 cv6 yv6_0 yv6_1 yv6_2 => ?_)
    have zb8 := hm7.f_32_6
    have zb9 := hm7.f_32_0
    refine u_X0_readHeat_30 ?_
    refine g_C ?_
    refine g_if (fun w10 => ?_) (fun w10 => ?_)
    · refine g_getr 0 1 rfl hS.k31 hm7.f_31_0 (by decide) ?_
      refine g_C ?_
      refine g_C ?_
      refine ⟨hS.k1, ?_⟩
      refine z_X7_takeNumber hS hm7 (by omega) (by omega) (by omega) (by omega) (fun v11 m12 hm12 fm12 bv11 cv11 yv11_0 yv11_1 yv11_2 => ?_)
      have zb13 := hm12.f_32_6
      have zb14 := hm12.f_32_0
      refine u_X0_readHeat_49 ?_
      refine g_C ?_
      refine g_if (fun w15 => ?_) (fun w15 => ?_)
      · refine g_getr 1 32 rfl hS.k31 hm12.f_31_1 (by decide) ?_
        refine g_getr 12 37 rfl hS.k32 hm12.f_32_12 (by decide) ?_
        refine g_getr 1 32 rfl hS.k31 hm12.f_31_1 (by decide) ?_
        refine g_get 6 (0) (4) rfl hS.k32 hm12.f_32_6 (fun v16 ev16 bv16 cv16 => ?_)
        have qv16 : v16 = (m0 32 6) := ev16.trans ((fm12 _ _ (by omega)).trans ((fm7 _ _ (by omega)).trans ((fm2 _ _ (by omega)).trans (Eq.refl (m0 32 6)).symm)))
        refine g_st hS.k37 hS.l37 (by omega) (by omega) (hm12.wa_37 (by omega) (by omega) (by omega) (by omega)) (fun m17 em17 hm17 => ?_)
        refine g_getr 1 32 rfl hS.k31 hm17.f_31_1 (by decide) ?_
        refine g_getr 13 38 rfl hS.k32 hm17.f_32_13 (by decide) ?_
        refine g_getr 1 32 rfl hS.k31 hm17.f_31_1 (by decide) ?_
        refine g_get 6 (0) (4) rfl hS.k32 hm17.f_32_6 (fun v18 ev18 bv18 cv18 => ?_)
        have qv18 : v18 = (m0 32 6) := ev18.trans ((congrFun (congrFun em17 _) _).trans ((up_ne (by omega)).trans ((fm12 _ _ (by omega)).trans ((fm7 _ _ (by omega)).trans ((fm2 _ _ (by omega)).trans (Eq.refl (m0 32 6)).symm)))))
        refine g_st hS.k38 hS.l38 (by omega) (by omega) (hm17.wa_38 (by omega) (by omega) (by omega) (by omega)) (fun m19 em19 hm19 => ?_)
        refine g_getr 1 32 rfl hS.k31 hm19.f_31_1 (by decide) ?_
        refine g_getr 14 39 rfl hS.k32 hm19.f_32_14 (by decide) ?_
        refine g_getr 1 32 rfl hS.k31 hm19.f_31_1 (by decide) ?_
        refine g_get 6 (0) (4) rfl hS.k32 hm19.f_32_6 (fun v20 ev20 bv20 cv20 => ?_)
        have qv20 : v20 = (m0 32 6) := ev20.trans ((congrFun (congrFun em19 _) _).trans ((up_ne (by omega)).trans ((congrFun (congrFun em17 _) _).trans ((up_ne (by omega)).trans ((fm12 _ _ (by omega)).trans ((fm7 _ _ (by omega)).trans ((fm2 _ _ (by omega)).trans (Eq.refl (m0 32 6)).symm)))))))
        refine g_st hS.k39 hS.l39 (by omega) (by omega) (hm19.wa_39 (by omega) (by omega) (by omega) (by omega)) (fun m21 em21 hm21 => ?_)
        refine g_getr 1 32 rfl hS.k31 hm21.f_31_1 (by decide) ?_
        refine g_get 6 (0) (4) rfl hS.k32 hm21.f_32_6 (fun v22 ev22 bv22 cv22 => ?_)
        have qv22 : v22 = (m0 32 6) := ev22.trans ((congrFun (congrFun em21 _) _).trans ((up_ne (by omega)).trans ((congrFun (congrFun em19 _) _).trans ((up_ne (by omega)).trans ((congrFun (congrFun em17 _) _).trans ((up_ne (by omega)).trans ((fm12 _ _ (by omega)).trans ((fm7 _ _ (by omega)).trans ((fm2 _ _ (by omega)).trans (Eq.refl (m0 32 6)).symm)))))))))
        refine g_C ?_
        refine g_A (by omega) (by omega) ?_
        refine g_put 6 rfl hS.k32 (hm21.w_32_6 (by omega) (by omega)) (fun m23 em23 hm23 => ?_)
        refine g_C ?_
        refine ⟨by omega, ?_⟩
        have zb24 := hm23.f_32_6
        have q25 : m23 32 6 = (v22 + 1) := (Eq.refl (m23 32 6)).trans ((congrFun (congrFun em23 _) _).trans (up_ate (by omega)))
        have zb26 := hm23.f_32_0
        have q27 : m23 32 0 = (m0 32 0) := (Eq.refl (m23 32 0)).trans ((congrFun (congrFun em23 _) _).trans ((up_ne (by omega)).trans ((congrFun (congrFun em21 _) _).trans ((up_ne (by omega)).trans ((congrFun (congrFun em19 _) _).trans ((up_ne (by omega)).trans ((congrFun (congrFun em17 _) _).trans ((up_ne (by omega)).trans ((fm12 _ _ (by omega)).trans ((fm7 _ _ (by omega)).trans ((fm2 _ _ (by omega)).trans (Eq.refl (m0 32 0)).symm)))))))))))
        exact hk 1 m23 hm23 (by omega) (by omega)
      · refine g_C ?_
        refine ⟨by omega, ?_⟩
        have zb28 := hm12.f_32_6
        have q29 : m12 32 6 = (m0 32 6) := (Eq.refl (m12 32 6)).trans ((fm12 _ _ (by omega)).trans ((fm7 _ _ (by omega)).trans ((fm2 _ _ (by omega)).trans (Eq.refl (m0 32 6)).symm)))
        have zb30 := hm12.f_32_0
        have q31 : m12 32 0 = (m0 32 0) := (Eq.refl (m12 32 0)).trans ((fm12 _ _ (by omega)).trans ((fm7 _ _ (by omega)).trans ((fm2 _ _ (by omega)).trans (Eq.refl (m0 32 0)).symm)))
        exact hk 0 m12 hm12 (by omega) (by omega)
    · refine g_C ?_
      refine u_X0_readHeat_49 ?_
      refine g_C ?_
      refine g_ifF (by omega) ?_
      refine g_C ?_
      refine ⟨by omega, ?_⟩
      have zb32 := hm7.f_32_6
      have q33 : m7 32 6 = (m0 32 6) := (Eq.refl (m7 32 6)).trans ((fm7 _ _ (by omega)).trans ((fm2 _ _ (by omega)).trans (Eq.refl (m0 32 6)).symm))
      have zb34 := hm7.f_32_0
      have q35 : m7 32 0 = (m0 32 0) := (Eq.refl (m7 32 0)).trans ((fm7 _ _ (by omega)).trans ((fm2 _ _ (by omega)).trans (Eq.refl (m0 32 0)).symm))
      exact hk 0 m7 hm7 (by omega) (by omega)
  · refine g_C ?_
    refine u_X0_readHeat_30 ?_
    refine g_C ?_
    refine g_ifF (by omega) ?_
    refine g_C ?_
    refine u_X0_readHeat_49 ?_
    refine g_C ?_
    refine g_ifF (by omega) ?_
    refine g_C ?_
    refine ⟨by omega, ?_⟩
    have zb36 := hm2.f_32_6
    have q37 : m2 32 6 = (m0 32 6) := (Eq.refl (m2 32 6)).trans ((fm2 _ _ (by omega)).trans (Eq.refl (m0 32 6)).symm)
    have zb38 := hm2.f_32_0
    have q39 : m2 32 0 = (m0 32 0) := (Eq.refl (m2 32 0)).trans ((fm2 _ _ (by omega)).trans (Eq.refl (m0 32 0)).symm)
    exact hk 0 m2 hm2 (by omega) (by omega)
theorem z_X0_readJug {X : Mm} {S : Sh} {m0 : Mm} {K : Int → Mm → Prop} (hS : Shp S) (hm0 : Inv X S m0) (p0 : m0 32 5 ≤ 3) (hk : ∀ (r : Int) (M1 : Mm), Inv X S M1 → 0 ≤ r → r ≤ 1 → K r M1) : wp_X0_readJug S m0 31 K := by
  refine u_X0_readJug ?_
  refine ⟨hS.k31, ?_⟩
  refine z_X0_takePlace hS hm0 (fun v1 m2 hm2 fm2 bv1 cv1 yv1_0 => ?_)
  have zb3 := hm2.f_32_5
  have zb4 := hm2.f_32_0
  refine g_C ?_
  refine g_if (fun w5 => ?_) (fun w5 => ?_)
  · refine g_getr 0 1 rfl hS.k31 hm2.f_31_0 (by decide) ?_
    refine g_C ?_
    refine g_C ?_
    refine ⟨hS.k1, ?_⟩
    refine z_X7_takeNumber hS hm2 (by omega) (by omega) (by omega) (by omega) (fun v6 m7 hm7 fm7 bv6 cv6 yv6_0 yv6_1 yv6_2 => ?_)
    have zb8 := hm7.f_32_5
    have zb9 := hm7.f_32_0
    refine u_X0_readJug_24 ?_
    refine g_C ?_
    refine g_if (fun w10 => ?_) (fun w10 => ?_)
    · refine g_getr 2 44 rfl hS.k31 hm7.f_31_2 (by decide) ?_
      refine g_getr 5 48 rfl hS.k44 hm7.f_44_5 (by decide) ?_
      refine g_getr 1 32 rfl hS.k31 hm7.f_31_1 (by decide) ?_
      refine g_get 5 (0) (4) rfl hS.k32 hm7.f_32_5 (fun v11 ev11 bv11 cv11 => ?_)
      have qv11 : v11 = (m0 32 5) := ev11.trans ((fm7 _ _ (by omega)).trans ((fm2 _ _ (by omega)).trans (Eq.refl (m0 32 5)).symm))
      refine g_st hS.k48 hS.l48 (by omega) (by omega) (hm7.wa_48 (by omega) (by omega) (by omega) (by omega)) (fun m12 em12 hm12 => ?_)
      refine g_getr 2 44 rfl hS.k31 hm12.f_31_2 (by decide) ?_
      refine g_getr 7 50 rfl hS.k44 hm12.f_44_7 (by decide) ?_
      refine g_getr 1 32 rfl hS.k31 hm12.f_31_1 (by decide) ?_
      refine g_get 5 (0) (4) rfl hS.k32 hm12.f_32_5 (fun v13 ev13 bv13 cv13 => ?_)
      have qv13 : v13 = (m0 32 5) := ev13.trans ((congrFun (congrFun em12 _) _).trans ((up_ne (by omega)).trans ((fm7 _ _ (by omega)).trans ((fm2 _ _ (by omega)).trans (Eq.refl (m0 32 5)).symm))))
      refine g_st hS.k50 hS.l50 (by omega) (by omega) (hm12.wa_50 (by omega) (by omega) (by omega) (by omega)) (fun m14 em14 hm14 => ?_)
      refine g_getr 1 32 rfl hS.k31 hm14.f_31_1 (by decide) ?_
      refine g_get 5 (0) (4) rfl hS.k32 hm14.f_32_5 (fun v15 ev15 bv15 cv15 => ?_)
      have qv15 : v15 = (m0 32 5) := ev15.trans ((congrFun (congrFun em14 _) _).trans ((up_ne (by omega)).trans ((congrFun (congrFun em12 _) _).trans ((up_ne (by omega)).trans ((fm7 _ _ (by omega)).trans ((fm2 _ _ (by omega)).trans (Eq.refl (m0 32 5)).symm))))))
      refine g_C ?_
      refine g_A (by omega) (by omega) ?_
      refine g_put 5 rfl hS.k32 (hm14.w_32_5 (by omega) (by omega)) (fun m16 em16 hm16 => ?_)
      refine g_C ?_
      refine ⟨by omega, ?_⟩
      have zb17 := hm16.f_32_5
      have q18 : m16 32 5 = (v15 + 1) := (Eq.refl (m16 32 5)).trans ((congrFun (congrFun em16 _) _).trans (up_ate (by omega)))
      have zb19 := hm16.f_32_0
      have q20 : m16 32 0 = (m0 32 0) := (Eq.refl (m16 32 0)).trans ((congrFun (congrFun em16 _) _).trans ((up_ne (by omega)).trans ((congrFun (congrFun em14 _) _).trans ((up_ne (by omega)).trans ((congrFun (congrFun em12 _) _).trans ((up_ne (by omega)).trans ((fm7 _ _ (by omega)).trans ((fm2 _ _ (by omega)).trans (Eq.refl (m0 32 0)).symm))))))))
      exact hk 1 m16 hm16 (by omega) (by omega)
    · refine g_C ?_
      refine ⟨by omega, ?_⟩
      have zb21 := hm7.f_32_5
      have q22 : m7 32 5 = (m0 32 5) := (Eq.refl (m7 32 5)).trans ((fm7 _ _ (by omega)).trans ((fm2 _ _ (by omega)).trans (Eq.refl (m0 32 5)).symm))
      have zb23 := hm7.f_32_0
      have q24 : m7 32 0 = (m0 32 0) := (Eq.refl (m7 32 0)).trans ((fm7 _ _ (by omega)).trans ((fm2 _ _ (by omega)).trans (Eq.refl (m0 32 0)).symm))
      exact hk 0 m7 hm7 (by omega) (by omega)
  · refine g_C ?_
    refine u_X0_readJug_24 ?_
    refine g_C ?_
    refine g_ifF (by omega) ?_
    refine g_C ?_
    refine ⟨by omega, ?_⟩
    have zb25 := hm2.f_32_5
    have q26 : m2 32 5 = (m0 32 5) := (Eq.refl (m2 32 5)).trans ((fm2 _ _ (by omega)).trans (Eq.refl (m0 32 5)).symm)
    have zb27 := hm2.f_32_0
    have q28 : m2 32 0 = (m0 32 0) := (Eq.refl (m2 32 0)).trans ((fm2 _ _ (by omega)).trans (Eq.refl (m0 32 0)).symm)
    exact hk 0 m2 hm2 (by omega) (by omega)
theorem z_X0_readRoad {X : Mm} {S : Sh} {m0 : Mm} {K : Int → Mm → Prop} (hS : Shp S) (hm0 : Inv X S m0) (p0 : m0 32 3 ≤ 7) (hk : ∀ (r : Int) (M1 : Mm), Inv X S M1 → 0 ≤ r → r ≤ 1 → K r M1) : wp_X0_readRoad S m0 31 K := by
  refine u_X0_readRoad ?_
  refine ⟨hS.k31, ?_⟩
  refine z_X0_takePlace hS hm0 (fun v1 m2 hm2 fm2 bv1 cv1 yv1_0 => ?_)
  have zb3 := hm2.f_32_3
  have zb4 := hm2.f_32_0
  refine g_C ?_
  refine g_if (fun w5 => ?_) (fun w5 => ?_)
  · refine ⟨hS.k31, ?_⟩
    refine z_X0_takePlace hS hm2 (fun v6 m7 hm7 fm7 bv6 cv6 yv6_0 => ?_)
    have zb8 := hm7.f_32_3
    have zb9 := hm7.f_32_0
    refine u_X0_readRoad_18 ?_
    refine g_C ?_
    refine g_if (fun w10 => ?_) (fun w10 => ?_)
    · refine g_if (fun w11 => ?_) (fun w11 => ?_)
      · refine u_X0_readRoad_43 ?_
        refine g_getr 0 1 rfl hS.k31 hm7.f_31_0 (by decide) ?_
        refine g_C ?_
        refine ⟨hS.k1, ?_⟩
        refine z_X7_refuse hS hm7 (by omega) (by omega) (fun v12 m13 hm13 fm13 bv12 cv12 => ?_)
        have zb14 := hm13.f_32_3
        have zb15 := hm13.f_32_0
        refine ⟨by omega, ?_⟩
        have zb16 := hm13.f_32_3
        have q17 : m13 32 3 = (m0 32 3) := (Eq.refl (m13 32 3)).trans ((fm13 _ _ (by omega)).trans ((fm7 _ _ (by omega)).trans ((fm2 _ _ (by omega)).trans (Eq.refl (m0 32 3)).symm)))
        have zb18 := hm13.f_32_0
        have q19 : m13 32 0 = (m0 32 0) := (Eq.refl (m13 32 0)).trans ((fm13 _ _ (by omega)).trans ((fm7 _ _ (by omega)).trans ((fm2 _ _ (by omega)).trans (Eq.refl (m0 32 0)).symm)))
        exact hk v12 m13 hm13 (by omega) (by omega)
      · refine g_getr 1 32 rfl hS.k31 hm7.f_31_1 (by decide) ?_
        refine ⟨hS.k32, ?_⟩
        refine u_X8_roadHours ?_
        refine g_getr 8 33 rfl hS.k32 hm7.f_32_8 (by decide) ?_
        refine u_X8_pair ?_
        refine g_C ?_
        refine g_M (by omega) (by omega) ?_
        refine g_A (by omega) (by omega) ?_
        refine g_ld (0) (5) hS.k33 hS.l33 (by omega) (by omega) (hm7.a_33 (by omega) (by omega)) (fun v20 ev20 bv20 cv20 => ?_)
        refine g_if (fun w21 => ?_) (fun w21 => ?_)
        · refine g_getr 0 1 rfl hS.k31 hm7.f_31_0 (by decide) ?_
          refine g_C ?_
          refine g_C ?_
          refine ⟨hS.k1, ?_⟩
          refine z_X7_takeNumber hS hm7 (by omega) (by omega) (by omega) (by omega) (fun v22 m23 hm23 fm23 bv22 cv22 yv22_0 yv22_1 yv22_2 => ?_)
          have zb24 := hm23.f_32_3
          have zb25 := hm23.f_32_0
          refine g_C ?_
          refine g_if (fun w26 => ?_) (fun w26 => ?_)
          · refine g_getr 1 32 rfl hS.k31 hm23.f_31_1 (by decide) ?_
            refine ⟨hS.k32, ?_⟩
            refine u_X8_addRoad ?_
            refine g_getr 8 33 rfl hS.k32 hm23.f_32_8 (by decide) ?_
            refine u_X8_pair ?_
            refine g_C ?_
            refine g_M (by omega) (by omega) ?_
            refine g_A (by omega) (by omega) ?_
            refine g_st hS.k33 hS.l33 (by omega) (by omega) (hm23.wa_33 (by omega) (by omega) (by omega) (by omega)) (fun m27 em27 hm27 => ?_)
            refine g_getr 8 33 rfl hS.k32 hm27.f_32_8 (by decide) ?_
            refine u_X8_pair ?_
            refine g_C ?_
            refine g_M (by omega) (by omega) ?_
            refine g_A (by omega) (by omega) ?_
            refine g_st hS.k33 hS.l33 (by omega) (by omega) (hm27.wa_33 (by omega) (by omega) (by omega) (by omega)) (fun m28 em28 hm28 => ?_)
            refine g_get 3 (0) (8) rfl hS.k32 hm28.f_32_3 (fun v29 ev29 bv29 cv29 => ?_)
            have qv29 : v29 = (m0 32 3) := ev29.trans ((congrFun (congrFun em28 _) _).trans ((up_ne (by omega)).trans ((congrFun (congrFun em27 _) _).trans ((up_ne (by omega)).trans ((fm23 _ _ (by omega)).trans ((fm7 _ _ (by omega)).trans ((fm2 _ _ (by omega)).trans (Eq.refl (m0 32 3)).symm)))))))
            refine g_C ?_
            refine g_A (by omega) (by omega) ?_
            refine g_put 3 rfl hS.k32 (hm28.w_32_3 (by omega) (by omega)) (fun m30 em30 hm30 => ?_)
            refine g_C ?_
            refine ⟨by omega, ?_⟩
            have zb31 := hm30.f_32_3
            have q32 : m30 32 3 = (v29 + 1) := (Eq.refl (m30 32 3)).trans ((congrFun (congrFun em30 _) _).trans (up_ate (by omega)))
            have zb33 := hm30.f_32_0
            have q34 : m30 32 0 = (m0 32 0) := (Eq.refl (m30 32 0)).trans ((congrFun (congrFun em30 _) _).trans ((up_ne (by omega)).trans ((congrFun (congrFun em28 _) _).trans ((up_ne (by omega)).trans ((congrFun (congrFun em27 _) _).trans ((up_ne (by omega)).trans ((fm23 _ _ (by omega)).trans ((fm7 _ _ (by omega)).trans ((fm2 _ _ (by omega)).trans (Eq.refl (m0 32 0)).symm)))))))))
            exact hk 1 m30 hm30 (by omega) (by omega)
          · refine g_C ?_
            refine ⟨by omega, ?_⟩
            have zb35 := hm23.f_32_3
            have q36 : m23 32 3 = (m0 32 3) := (Eq.refl (m23 32 3)).trans ((fm23 _ _ (by omega)).trans ((fm7 _ _ (by omega)).trans ((fm2 _ _ (by omega)).trans (Eq.refl (m0 32 3)).symm)))
            have zb37 := hm23.f_32_0
            have q38 : m23 32 0 = (m0 32 0) := (Eq.refl (m23 32 0)).trans ((fm23 _ _ (by omega)).trans ((fm7 _ _ (by omega)).trans ((fm2 _ _ (by omega)).trans (Eq.refl (m0 32 0)).symm)))
            exact hk 0 m23 hm23 (by omega) (by omega)
        · refine u_X0_readRoad_43 ?_
          refine g_getr 0 1 rfl hS.k31 hm7.f_31_0 (by decide) ?_
          refine g_C ?_
          refine ⟨hS.k1, ?_⟩
          refine z_X7_refuse hS hm7 (by omega) (by omega) (fun v39 m40 hm40 fm40 bv39 cv39 => ?_)
          have zb41 := hm40.f_32_3
          have zb42 := hm40.f_32_0
          refine ⟨by omega, ?_⟩
          have zb43 := hm40.f_32_3
          have q44 : m40 32 3 = (m0 32 3) := (Eq.refl (m40 32 3)).trans ((fm40 _ _ (by omega)).trans ((fm7 _ _ (by omega)).trans ((fm2 _ _ (by omega)).trans (Eq.refl (m0 32 3)).symm)))
          have zb45 := hm40.f_32_0
          have q46 : m40 32 0 = (m0 32 0) := (Eq.refl (m40 32 0)).trans ((fm40 _ _ (by omega)).trans ((fm7 _ _ (by omega)).trans ((fm2 _ _ (by omega)).trans (Eq.refl (m0 32 0)).symm)))
          exact hk v39 m40 hm40 (by omega) (by omega)
    · refine g_C ?_
      refine ⟨by omega, ?_⟩
      have zb47 := hm7.f_32_3
      have q48 : m7 32 3 = (m0 32 3) := (Eq.refl (m7 32 3)).trans ((fm7 _ _ (by omega)).trans ((fm2 _ _ (by omega)).trans (Eq.refl (m0 32 3)).symm))
      have zb49 := hm7.f_32_0
      have q50 : m7 32 0 = (m0 32 0) := (Eq.refl (m7 32 0)).trans ((fm7 _ _ (by omega)).trans ((fm2 _ _ (by omega)).trans (Eq.refl (m0 32 0)).symm))
      exact hk 0 m7 hm7 (by omega) (by omega)
  · refine g_C ?_
    refine u_X0_readRoad_18 ?_
    refine g_C ?_
    refine g_ifF (by omega) ?_
    refine g_C ?_
    refine ⟨by omega, ?_⟩
    have zb51 := hm2.f_32_3
    have q52 : m2 32 3 = (m0 32 3) := (Eq.refl (m2 32 3)).trans ((fm2 _ _ (by omega)).trans (Eq.refl (m0 32 3)).symm)
    have zb53 := hm2.f_32_0
    have q54 : m2 32 0 = (m0 32 0) := (Eq.refl (m2 32 0)).trans ((fm2 _ _ (by omega)).trans (Eq.refl (m0 32 0)).symm)
    exact hk 0 m2 hm2 (by omega) (by omega)
theorem z_X0_readWant {X : Mm} {S : Sh} {m0 : Mm} {K : Int → Mm → Prop} (hS : Shp S) (hm0 : Inv X S m0) (p0 : m0 32 7 ≤ 5) (hk : ∀ (r : Int) (M1 : Mm), Inv X S M1 → 0 ≤ r → r ≤ 1 → K r M1) : wp_X0_readWant S m0 31 K := by
  refine u_X0_readWant ?_
  refine ⟨hS.k31, ?_⟩
  refine z_X0_takePlace hS hm0 (fun v1 m2 hm2 fm2 bv1 cv1 yv1_0 => ?_)
  have zb3 := hm2.f_32_7
  have zb4 := hm2.f_32_0
  refine g_C ?_
  refine g_if (fun w5 => ?_) (fun w5 => ?_)
  · refine g_getr 0 1 rfl hS.k31 hm2.f_31_0 (by decide) ?_
    refine g_C ?_
    refine g_C ?_
    refine ⟨hS.k1, ?_⟩
    refine z_X7_takeNumber hS hm2 (by omega) (by omega) (by omega) (by omega) (fun v6 m7 hm7 fm7 bv6 cv6 yv6_0 yv6_1 yv6_2 => ?_)
    have zb8 := hm7.f_32_7
    have zb9 := hm7.f_32_0
    refine u_X0_readWant_24 ?_
    refine g_C ?_
    refine g_if (fun w10 => ?_) (fun w10 => ?_)
    · refine g_getr 0 1 rfl hS.k31 hm7.f_31_0 (by decide) ?_
      refine g_C ?_
      refine ⟨hS.k1, ?_⟩
      refine z_X7_takeNumber hS hm7 (by omega) (by omega) (by omega) (by omega) (fun v11 m12 hm12 fm12 bv11 cv11 yv11_0 yv11_1 yv11_2 => ?_)
      have zb13 := hm12.f_32_7
      have zb14 := hm12.f_32_0
      refine u_X0_readWant_44 ?_
      refine g_C ?_
      refine g_if (fun w15 => ?_) (fun w15 => ?_)
      · refine g_getr 0 1 rfl hS.k31 hm12.f_31_0 (by decide) ?_
        refine g_C ?_
        refine g_C ?_
        refine ⟨hS.k1, ?_⟩
        refine z_X7_takeNumber hS hm12 (by omega) (by omega) (by omega) (by omega) (fun v16 m17 hm17 fm17 bv16 cv16 yv16_0 yv16_1 yv16_2 => ?_)
        have zb18 := hm17.f_32_7
        have zb19 := hm17.f_32_0
        refine u_X0_readWant_64 ?_
        refine g_C ?_
        refine g_if (fun w20 => ?_) (fun w20 => ?_)
        · refine g_getr 1 32 rfl hS.k31 hm17.f_31_1 (by decide) ?_
          refine g_getr 15 40 rfl hS.k32 hm17.f_32_15 (by decide) ?_
          refine g_getr 1 32 rfl hS.k31 hm17.f_31_1 (by decide) ?_
          refine g_get 7 (0) (6) rfl hS.k32 hm17.f_32_7 (fun v21 ev21 bv21 cv21 => ?_)
          have qv21 : v21 = (m0 32 7) := ev21.trans ((fm17 _ _ (by omega)).trans ((fm12 _ _ (by omega)).trans ((fm7 _ _ (by omega)).trans ((fm2 _ _ (by omega)).trans (Eq.refl (m0 32 7)).symm))))
          refine g_st hS.k40 hS.l40 (by omega) (by omega) (hm17.wa_40 (by omega) (by omega) (by omega) (by omega)) (fun m22 em22 hm22 => ?_)
          refine g_getr 1 32 rfl hS.k31 hm22.f_31_1 (by decide) ?_
          refine g_getr 16 41 rfl hS.k32 hm22.f_32_16 (by decide) ?_
          refine g_getr 1 32 rfl hS.k31 hm22.f_31_1 (by decide) ?_
          refine g_get 7 (0) (6) rfl hS.k32 hm22.f_32_7 (fun v23 ev23 bv23 cv23 => ?_)
          have qv23 : v23 = (m0 32 7) := ev23.trans ((congrFun (congrFun em22 _) _).trans ((up_ne (by omega)).trans ((fm17 _ _ (by omega)).trans ((fm12 _ _ (by omega)).trans ((fm7 _ _ (by omega)).trans ((fm2 _ _ (by omega)).trans (Eq.refl (m0 32 7)).symm))))))
          refine g_st hS.k41 hS.l41 (by omega) (by omega) (hm22.wa_41 (by omega) (by omega) (by omega) (by omega)) (fun m24 em24 hm24 => ?_)
          refine g_getr 1 32 rfl hS.k31 hm24.f_31_1 (by decide) ?_
          refine g_getr 17 42 rfl hS.k32 hm24.f_32_17 (by decide) ?_
          refine g_getr 1 32 rfl hS.k31 hm24.f_31_1 (by decide) ?_
          refine g_get 7 (0) (6) rfl hS.k32 hm24.f_32_7 (fun v25 ev25 bv25 cv25 => ?_)
          have qv25 : v25 = (m0 32 7) := ev25.trans ((congrFun (congrFun em24 _) _).trans ((up_ne (by omega)).trans ((congrFun (congrFun em22 _) _).trans ((up_ne (by omega)).trans ((fm17 _ _ (by omega)).trans ((fm12 _ _ (by omega)).trans ((fm7 _ _ (by omega)).trans ((fm2 _ _ (by omega)).trans (Eq.refl (m0 32 7)).symm))))))))
          refine g_st hS.k42 hS.l42 (by omega) (by omega) (hm24.wa_42 (by omega) (by omega) (by omega) (by omega)) (fun m26 em26 hm26 => ?_)
          refine g_getr 1 32 rfl hS.k31 hm26.f_31_1 (by decide) ?_
          refine g_getr 18 43 rfl hS.k32 hm26.f_32_18 (by decide) ?_
          refine g_getr 1 32 rfl hS.k31 hm26.f_31_1 (by decide) ?_
          refine g_get 7 (0) (6) rfl hS.k32 hm26.f_32_7 (fun v27 ev27 bv27 cv27 => ?_)
          have qv27 : v27 = (m0 32 7) := ev27.trans ((congrFun (congrFun em26 _) _).trans ((up_ne (by omega)).trans ((congrFun (congrFun em24 _) _).trans ((up_ne (by omega)).trans ((congrFun (congrFun em22 _) _).trans ((up_ne (by omega)).trans ((fm17 _ _ (by omega)).trans ((fm12 _ _ (by omega)).trans ((fm7 _ _ (by omega)).trans ((fm2 _ _ (by omega)).trans (Eq.refl (m0 32 7)).symm))))))))))
          refine g_st hS.k43 hS.l43 (by omega) (by omega) (hm26.wa_43 (by omega) (by omega) (by omega) (by omega)) (fun m28 em28 hm28 => ?_)
          refine g_getr 1 32 rfl hS.k31 hm28.f_31_1 (by decide) ?_
          refine g_get 7 (0) (6) rfl hS.k32 hm28.f_32_7 (fun v29 ev29 bv29 cv29 => ?_)
          have qv29 : v29 = (m0 32 7) := ev29.trans ((congrFun (congrFun em28 _) _).trans ((up_ne (by omega)).trans ((congrFun (congrFun em26 _) _).trans ((up_ne (by omega)).trans ((congrFun (congrFun em24 _) _).trans ((up_ne (by omega)).trans ((congrFun (congrFun em22 _) _).trans ((up_ne (by omega)).trans ((fm17 _ _ (by omega)).trans ((fm12 _ _ (by omega)).trans ((fm7 _ _ (by omega)).trans ((fm2 _ _ (by omega)).trans (Eq.refl (m0 32 7)).symm))))))))))))
          refine g_C ?_
          refine g_A (by omega) (by omega) ?_
          refine g_put 7 rfl hS.k32 (hm28.w_32_7 (by omega) (by omega)) (fun m30 em30 hm30 => ?_)
          refine g_C ?_
          refine ⟨by omega, ?_⟩
          have zb31 := hm30.f_32_7
          have q32 : m30 32 7 = (v29 + 1) := (Eq.refl (m30 32 7)).trans ((congrFun (congrFun em30 _) _).trans (up_ate (by omega)))
          have zb33 := hm30.f_32_0
          have q34 : m30 32 0 = (m0 32 0) := (Eq.refl (m30 32 0)).trans ((congrFun (congrFun em30 _) _).trans ((up_ne (by omega)).trans ((congrFun (congrFun em28 _) _).trans ((up_ne (by omega)).trans ((congrFun (congrFun em26 _) _).trans ((up_ne (by omega)).trans ((congrFun (congrFun em24 _) _).trans ((up_ne (by omega)).trans ((congrFun (congrFun em22 _) _).trans ((up_ne (by omega)).trans ((fm17 _ _ (by omega)).trans ((fm12 _ _ (by omega)).trans ((fm7 _ _ (by omega)).trans ((fm2 _ _ (by omega)).trans (Eq.refl (m0 32 0)).symm))))))))))))))
          exact hk 1 m30 hm30 (by omega) (by omega)
        · refine g_C ?_
          refine ⟨by omega, ?_⟩
          have zb35 := hm17.f_32_7
          have q36 : m17 32 7 = (m0 32 7) := (Eq.refl (m17 32 7)).trans ((fm17 _ _ (by omega)).trans ((fm12 _ _ (by omega)).trans ((fm7 _ _ (by omega)).trans ((fm2 _ _ (by omega)).trans (Eq.refl (m0 32 7)).symm))))
          have zb37 := hm17.f_32_0
          have q38 : m17 32 0 = (m0 32 0) := (Eq.refl (m17 32 0)).trans ((fm17 _ _ (by omega)).trans ((fm12 _ _ (by omega)).trans ((fm7 _ _ (by omega)).trans ((fm2 _ _ (by omega)).trans (Eq.refl (m0 32 0)).symm))))
          exact hk 0 m17 hm17 (by omega) (by omega)
      · refine g_C ?_
        refine u_X0_readWant_64 ?_
        refine g_C ?_
        refine g_ifF (by omega) ?_
        refine g_C ?_
        refine ⟨by omega, ?_⟩
        have zb39 := hm12.f_32_7
        have q40 : m12 32 7 = (m0 32 7) := (Eq.refl (m12 32 7)).trans ((fm12 _ _ (by omega)).trans ((fm7 _ _ (by omega)).trans ((fm2 _ _ (by omega)).trans (Eq.refl (m0 32 7)).symm)))
        have zb41 := hm12.f_32_0
        have q42 : m12 32 0 = (m0 32 0) := (Eq.refl (m12 32 0)).trans ((fm12 _ _ (by omega)).trans ((fm7 _ _ (by omega)).trans ((fm2 _ _ (by omega)).trans (Eq.refl (m0 32 0)).symm)))
        exact hk 0 m12 hm12 (by omega) (by omega)
    · refine g_C ?_
      refine u_X0_readWant_44 ?_
      refine g_C ?_
      refine g_ifF (by omega) ?_
      refine g_C ?_
      refine u_X0_readWant_64 ?_
      refine g_C ?_
      refine g_ifF (by omega) ?_
      refine g_C ?_
      refine ⟨by omega, ?_⟩
      have zb43 := hm7.f_32_7
      have q44 : m7 32 7 = (m0 32 7) := (Eq.refl (m7 32 7)).trans ((fm7 _ _ (by omega)).trans ((fm2 _ _ (by omega)).trans (Eq.refl (m0 32 7)).symm))
      have zb45 := hm7.f_32_0
      have q46 : m7 32 0 = (m0 32 0) := (Eq.refl (m7 32 0)).trans ((fm7 _ _ (by omega)).trans ((fm2 _ _ (by omega)).trans (Eq.refl (m0 32 0)).symm))
      exact hk 0 m7 hm7 (by omega) (by omega)
  · refine g_C ?_
    refine u_X0_readWant_24 ?_
    refine g_C ?_
    refine g_ifF (by omega) ?_
    refine g_C ?_
    refine u_X0_readWant_44 ?_
    refine g_C ?_
    refine g_ifF (by omega) ?_
    refine g_C ?_
    refine u_X0_readWant_64 ?_
    refine g_C ?_
    refine g_ifF (by omega) ?_
    refine g_C ?_
    refine ⟨by omega, ?_⟩
    have zb47 := hm2.f_32_7
    have q48 : m2 32 7 = (m0 32 7) := (Eq.refl (m2 32 7)).trans ((fm2 _ _ (by omega)).trans (Eq.refl (m0 32 7)).symm)
    have zb49 := hm2.f_32_0
    have q50 : m2 32 0 = (m0 32 0) := (Eq.refl (m2 32 0)).trans ((fm2 _ _ (by omega)).trans (Eq.refl (m0 32 0)).symm)
    exact hk 0 m2 hm2 (by omega) (by omega)
theorem z_X7_takesWord {X : Mm} {S : Sh} {m0 : Mm} {K : Int → Mm → Prop} {u1 : Int} (hS : Shp S) (hm0 : Inv X S m0) (l_u1 : (-8) ≤ u1) (h_u1 : u1 ≤ (-3)) (hk : ∀ (r : Int) (M1 : Mm), Inv X S M1 → (∀ c p : Int, ¬ (c = 1 ∧ 2 ≤ p ∧ p ≤ 3) → M1 c p = m0 c p) → 0 ≤ r → r ≤ 1 → (m0 1 2 ≤ M1 1 2) → (r = 0 ∨ m0 1 2 + 1 ≤ M1 1 2) → K r M1) : wp_X7_takesWord S m0 1 u1 K := by
  have Fm0 : ∀ c p : Int, ¬ (c = 1 ∧ 2 ≤ p ∧ p ≤ 3) → m0 c p = m0 c p := fun c p _ => rfl
  refine u_X7_takesWord ?_
  refine ⟨hS.k1, ?_⟩
  refine z_X7_look hS hm0 (fun v1 m2 hm2 fm2 bv1 cv1 yv1_0 yv1_1 yv1_2 => ?_)
  have zb3 := hm2.f_1_2
  have zb4 := hm2.f_1_1
  have Fm2 : ∀ c p : Int, ¬ (c = 1 ∧ 2 ≤ p ∧ p ≤ 3) → m2 c p = m0 c p := fun c p h => (fm2 c p (by omega)).trans (Fm0 c p h)
  refine g_slen (by omega) (by omega) (fun v5 ev5 bv5 cv5 => ?_)
  refine g_C ?_
  have L_n_l46 : ∀ (n_l46 : Nat) (u9 : Int), 0 ≤ u9 → u9 ≤ 6 → (m2 1 2 + u9 ≤ 400) → 7 - u9 ≤ (n_l46 : Int) → wp_X7_takesWord_12 S K n_l46 1 u1 v5 u9 m2 := by
    intro n_l46
    induction n_l46 with
    | zero => intro u9 bu9 cu9 xn_l46_0 zn_l46; exfalso; omega
    | succ n_l46 ih_n_l46 =>
      intro u9 bu9 cu9 xn_l46_0 zn_l46
      refine u_X7_takesWord_12 ?_
      refine g_if (fun w47 => ?_) (fun w47 => ?_)
      · refine g_get 2 (0) (400) rfl hS.k1 hm2.f_1_2 (fun v48 ev48 bv48 cv48 => ?_)
        have qv48 : v48 = (m2 1 2) := ev48.trans (Eq.refl (m2 1 2)).symm
        refine g_A (by omega) (by omega) ?_
        refine ⟨hS.k1, ?_⟩
        refine u_X7_byteAt ?_
        refine g_ifF (by omega) ?_
        refine g_get 1 (0) (400) rfl hS.k1 hm2.f_1_1 (fun v49 ev49 bv49 cv49 => ?_)
        have qv49 : v49 = (m0 1 1) := (ev49.trans (hm2.g (by decide))).trans (((Eq.refl (m0 1 1)).trans (hm0.g (by decide))).symm)
        refine g_if (fun w50 => ?_) (fun w50 => ?_)
        · refine g_C ?_
          refine g_C ?_
          refine g_ifT (by omega) ?_
          refine u_X7_takesWord_68 ?_
          refine g_get 2 (0) (400) rfl hS.k1 hm2.f_1_2 (fun v51 ev51 bv51 cv51 => ?_)
          have qv51 : v51 = (m2 1 2) := ev51.trans (Eq.refl (m2 1 2)).symm
          refine g_A (by omega) (by omega) ?_
          refine g_put 2 rfl hS.k1 (hm2.w_1_2 (by omega) (by omega)) (fun m52 em52 hm52 => ?_)
          have Fm52 : ∀ c p : Int, ¬ (c = 1 ∧ 2 ≤ p ∧ p ≤ 3) → m52 c p = m0 c p := fun c p h => (congrFun (congrFun em52 _) _).trans ((up_ne (by omega)).trans (Fm2 c p h))
          refine g_C ?_
          refine ⟨by omega, ?_⟩
          have zb53 := hm52.f_1_2
          have q54 : m52 1 2 = (v51 + v5) := (Eq.refl (m52 1 2)).trans ((congrFun (congrFun em52 _) _).trans (up_ate (by omega)))
          have zb55 := hm52.f_1_1
          have q56 : m52 1 1 = (m0 1 1) := (hm52.g (by decide)).trans (((Eq.refl (m0 1 1)).trans (hm0.g (by decide))).symm)
          exact hk 1 m52 hm52 Fm52 (by omega) (by omega) (by omega) (by omega)
        · refine g_C ?_
          refine g_if (fun w57 => ?_) (fun w57 => ?_)
          · refine g_C ?_
            refine g_C ?_
            refine g_ifT (by omega) ?_
            refine u_X7_takesWord_68 ?_
            refine g_get 2 (0) (400) rfl hS.k1 hm2.f_1_2 (fun v58 ev58 bv58 cv58 => ?_)
            have qv58 : v58 = (m2 1 2) := ev58.trans (Eq.refl (m2 1 2)).symm
            refine g_A (by omega) (by omega) ?_
            refine g_put 2 rfl hS.k1 (hm2.w_1_2 (by omega) (by omega)) (fun m59 em59 hm59 => ?_)
            have Fm59 : ∀ c p : Int, ¬ (c = 1 ∧ 2 ≤ p ∧ p ≤ 3) → m59 c p = m0 c p := fun c p h => (congrFun (congrFun em59 _) _).trans ((up_ne (by omega)).trans (Fm2 c p h))
            refine g_C ?_
            refine ⟨by omega, ?_⟩
            have zb60 := hm59.f_1_2
            have q61 : m59 1 2 = (v58 + v5) := (Eq.refl (m59 1 2)).trans ((congrFun (congrFun em59 _) _).trans (up_ate (by omega)))
            have zb62 := hm59.f_1_1
            have q63 : m59 1 1 = (m0 1 1) := (hm59.g (by decide)).trans (((Eq.refl (m0 1 1)).trans (hm0.g (by decide))).symm)
            exact hk 1 m59 hm59 Fm59 (by omega) (by omega) (by omega) (by omega)
          · refine g_getr 0 2 rfl hS.k1 hm2.f_1_0 (by decide) ?_
            refine g_ld (-128) (127) hS.k2 hS.l2 (by omega) (by omega) (hm2.a_2 (by omega) (by omega)) (fun v64 ev64 bv64 cv64 => ?_)
            refine g_C ?_
            refine g_iAndR (by omega) (by omega) (fun v65 dv65 bv65 cv65 => ?_)
            refine g_C ?_
            refine g_if (fun w66 => ?_) (fun w66 => ?_)
            · refine u_X7_takesWord_68 ?_
              refine g_get 2 (0) (400) rfl hS.k1 hm2.f_1_2 (fun v67 ev67 bv67 cv67 => ?_)
              have qv67 : v67 = (m2 1 2) := ev67.trans (Eq.refl (m2 1 2)).symm
              refine g_A (by omega) (by omega) ?_
              refine g_put 2 rfl hS.k1 (hm2.w_1_2 (by omega) (by omega)) (fun m68 em68 hm68 => ?_)
              have Fm68 : ∀ c p : Int, ¬ (c = 1 ∧ 2 ≤ p ∧ p ≤ 3) → m68 c p = m0 c p := fun c p h => (congrFun (congrFun em68 _) _).trans ((up_ne (by omega)).trans (Fm2 c p h))
              refine g_C ?_
              refine ⟨by omega, ?_⟩
              have zb69 := hm68.f_1_2
              have q70 : m68 1 2 = (v67 + v5) := (Eq.refl (m68 1 2)).trans ((congrFun (congrFun em68 _) _).trans (up_ate (by omega)))
              have zb71 := hm68.f_1_1
              have q72 : m68 1 1 = (m0 1 1) := (hm68.g (by decide)).trans (((Eq.refl (m0 1 1)).trans (hm0.g (by decide))).symm)
              exact hk 1 m68 hm68 Fm68 (by omega) (by omega) (by omega) (by omega)
            · refine g_C ?_
              refine g_if (fun w73 => ?_) (fun w73 => ?_)
              · refine u_X7_takesWord_68 ?_
                refine g_get 2 (0) (400) rfl hS.k1 hm2.f_1_2 (fun v74 ev74 bv74 cv74 => ?_)
                have qv74 : v74 = (m2 1 2) := ev74.trans (Eq.refl (m2 1 2)).symm
                refine g_A (by omega) (by omega) ?_
                refine g_put 2 rfl hS.k1 (hm2.w_1_2 (by omega) (by omega)) (fun m75 em75 hm75 => ?_)
                have Fm75 : ∀ c p : Int, ¬ (c = 1 ∧ 2 ≤ p ∧ p ≤ 3) → m75 c p = m0 c p := fun c p h => (congrFun (congrFun em75 _) _).trans ((up_ne (by omega)).trans (Fm2 c p h))
                refine g_C ?_
                refine ⟨by omega, ?_⟩
                have zb76 := hm75.f_1_2
                have q77 : m75 1 2 = (v74 + v5) := (Eq.refl (m75 1 2)).trans ((congrFun (congrFun em75 _) _).trans (up_ate (by omega)))
                have zb78 := hm75.f_1_1
                have q79 : m75 1 1 = (m0 1 1) := (hm75.g (by decide)).trans (((Eq.refl (m0 1 1)).trans (hm0.g (by decide))).symm)
                exact hk 1 m75 hm75 Fm75 (by omega) (by omega) (by omega) (by omega)
              · refine g_C ?_
                refine ⟨by omega, ?_⟩
                have zb80 := hm2.f_1_2
                have zb82 := hm2.f_1_1
                have q83 : m2 1 1 = (m0 1 1) := (hm2.g (by decide)).trans (((Eq.refl (m0 1 1)).trans (hm0.g (by decide))).symm)
                exact hk 0 m2 hm2 Fm2 (by omega) (by omega) (by omega) (by omega)
      · refine g_get 2 (0) (400) rfl hS.k1 hm2.f_1_2 (fun v84 ev84 bv84 cv84 => ?_)
        have qv84 : v84 = (m2 1 2) := ev84.trans (Eq.refl (m2 1 2)).symm
        refine g_A (by omega) (by omega) ?_
        refine ⟨hS.k1, ?_⟩
        refine u_X7_byteAt ?_
        refine g_ifF (by omega) ?_
        refine g_get 1 (0) (400) rfl hS.k1 hm2.f_1_1 (fun v85 ev85 bv85 cv85 => ?_)
        have qv85 : v85 = (m0 1 1) := (ev85.trans (hm2.g (by decide))).trans (((Eq.refl (m0 1 1)).trans (hm0.g (by decide))).symm)
        refine g_if (fun w86 => ?_) (fun w86 => ?_)
        · refine g_C ?_
          refine g_sch (by omega) (by omega) (by omega) (by omega) (fun v87 bv87 cv87 => ?_)
          refine g_ifF (by omega) ?_
          refine g_C ?_
          refine ⟨by omega, ?_⟩
          have zb88 := hm2.f_1_2
          have zb90 := hm2.f_1_1
          have q91 : m2 1 1 = (m0 1 1) := (hm2.g (by decide)).trans (((Eq.refl (m0 1 1)).trans (hm0.g (by decide))).symm)
          exact hk 0 m2 hm2 Fm2 (by omega) (by omega) (by omega) (by omega)
        · refine g_C ?_
          refine g_if (fun w92 => ?_) (fun w92 => ?_)
          · refine g_C ?_
            refine g_sch (by omega) (by omega) (by omega) (by omega) (fun v93 bv93 cv93 => ?_)
            refine g_ifF (by omega) ?_
            refine g_C ?_
            refine ⟨by omega, ?_⟩
            have zb94 := hm2.f_1_2
            have zb96 := hm2.f_1_1
            have q97 : m2 1 1 = (m0 1 1) := (hm2.g (by decide)).trans (((Eq.refl (m0 1 1)).trans (hm0.g (by decide))).symm)
            exact hk 0 m2 hm2 Fm2 (by omega) (by omega) (by omega) (by omega)
          · refine g_getr 0 2 rfl hS.k1 hm2.f_1_0 (by decide) ?_
            refine g_ld (-128) (127) hS.k2 hS.l2 (by omega) (by omega) (hm2.a_2 (by omega) (by omega)) (fun v98 ev98 bv98 cv98 => ?_)
            refine g_C ?_
            refine g_iAndR (by omega) (by omega) (fun v99 dv99 bv99 cv99 => ?_)
            refine g_sch (by omega) (by omega) (by omega) (by omega) (fun v100 bv100 cv100 => ?_)
            refine g_if (fun w101 => ?_) (fun w101 => ?_)
            · refine g_A (by omega) (by omega) ?_
              have zb102 := hm2.f_1_2
              have zb104 := hm2.f_1_1
              have q105 : m2 1 1 = (m0 1 1) := (hm2.g (by decide)).trans (((Eq.refl (m0 1 1)).trans (hm0.g (by decide))).symm)
              exact ih_n_l46 (u9 + 1) (by omega) (by omega) (by omega) (by omega)
            · refine g_C ?_
              refine ⟨by omega, ?_⟩
              have zb106 := hm2.f_1_2
              have zb108 := hm2.f_1_1
              have q109 : m2 1 1 = (m0 1 1) := (hm2.g (by decide)).trans (((Eq.refl (m0 1 1)).trans (hm0.g (by decide))).symm)
              exact hk 0 m2 hm2 Fm2 (by omega) (by omega) (by omega) (by omega)
  have zb110 := hm2.f_1_2
  have zb112 := hm2.f_1_1
  have q113 : m2 1 1 = (m0 1 1) := (hm2.g (by decide)).trans (((Eq.refl (m0 1 1)).trans (hm0.g (by decide))).symm)
  exact ⟨7, L_n_l46 7 0 (by omega) (by omega) (by omega) (by omega)⟩
theorem z_X0_takeKind {X : Mm} {S : Sh} {m0 : Mm} {K : Int → Mm → Prop} (hS : Shp S) (hm0 : Inv X S m0)  (hk : ∀ (r : Int) (M1 : Mm), Inv X S M1 → (∀ c p : Int, ¬ (c = 1 ∧ 2 ≤ p ∧ p ≤ 4) → M1 c p = m0 c p) → (-1) ≤ r → r ≤ 5 → K r M1) : wp_X0_takeKind S m0 31 K := by
  have Fm0 : ∀ c p : Int, ¬ (c = 1 ∧ 2 ≤ p ∧ p ≤ 4) → m0 c p = m0 c p := fun c p _ => rfl
  refine u_X0_takeKind ?_
  refine g_C ?_
  have L_n_l106 : ∀ (n_l106 : Nat) (u2 : Int) (m3 : Mm), Inv X S m3 → (∀ c p : Int, ¬ (c = 1 ∧ 2 ≤ p ∧ p ≤ 4) → m3 c p = m0 c p) → 0 ≤ u2 → u2 ≤ 6 → 7 - u2 ≤ (n_l106 : Int) → wp_X0_takeKind_2 S K n_l106 31 u2 m3 := by
    intro n_l106
    induction n_l106 with
    | zero => intro u2 m3 hm3 Fm3 bu2 cu2 zn_l106; exfalso; omega
    | succ n_l106 ih_n_l106 =>
      intro u2 m3 hm3 Fm3 bu2 cu2 zn_l106
      refine u_X0_takeKind_2 ?_
      refine g_C ?_
      refine g_if (fun w107 => ?_) (fun w107 => ?_)
      · refine g_C ?_
        exact hk (-1) m3 hm3 Fm3 (by omega) (by omega)
      · refine g_getr 0 1 rfl hS.k31 hm3.f_31_0 (by decide) ?_
        refine u_X0_nameOf ?_
        refine g_if (fun w108 => ?_) (fun w108 => ?_)
        · refine g_C ?_
          refine ⟨hS.k1, ?_⟩
          refine z_X7_takesWord hS hm3 (by omega) (by omega) (fun v109 m110 hm110 fm110 bv109 cv109 yv109_0 yv109_1 => ?_)
          have Fm110 : ∀ c p : Int, ¬ (c = 1 ∧ 2 ≤ p ∧ p ≤ 4) → m110 c p = m0 c p := fun c p h => (fm110 c p (by omega)).trans (Fm3 c p h)
          refine g_if (fun w111 => ?_) (fun w111 => ?_)
          · refine g_A (by omega) (by omega) ?_
            exact ih_n_l106 (u2 + 1) m110 hm110 Fm110 (by omega) (by omega) (by omega)
          · exact hk u2 m110 hm110 Fm110 (by omega) (by omega)
        · refine g_if (fun w112 => ?_) (fun w112 => ?_)
          · refine g_C ?_
            refine ⟨hS.k1, ?_⟩
            refine z_X7_takesWord hS hm3 (by omega) (by omega) (fun v113 m114 hm114 fm114 bv113 cv113 yv113_0 yv113_1 => ?_)
            have Fm114 : ∀ c p : Int, ¬ (c = 1 ∧ 2 ≤ p ∧ p ≤ 4) → m114 c p = m0 c p := fun c p h => (fm114 c p (by omega)).trans (Fm3 c p h)
            refine g_if (fun w115 => ?_) (fun w115 => ?_)
            · refine g_A (by omega) (by omega) ?_
              exact ih_n_l106 (u2 + 1) m114 hm114 Fm114 (by omega) (by omega) (by omega)
            · exact hk u2 m114 hm114 Fm114 (by omega) (by omega)
          · refine g_if (fun w116 => ?_) (fun w116 => ?_)
            · refine g_C ?_
              refine ⟨hS.k1, ?_⟩
              refine z_X7_takesWord hS hm3 (by omega) (by omega) (fun v117 m118 hm118 fm118 bv117 cv117 yv117_0 yv117_1 => ?_)
              have Fm118 : ∀ c p : Int, ¬ (c = 1 ∧ 2 ≤ p ∧ p ≤ 4) → m118 c p = m0 c p := fun c p h => (fm118 c p (by omega)).trans (Fm3 c p h)
              refine g_if (fun w119 => ?_) (fun w119 => ?_)
              · refine g_A (by omega) (by omega) ?_
                exact ih_n_l106 (u2 + 1) m118 hm118 Fm118 (by omega) (by omega) (by omega)
              · exact hk u2 m118 hm118 Fm118 (by omega) (by omega)
            · refine g_if (fun w120 => ?_) (fun w120 => ?_)
              · refine g_C ?_
                refine ⟨hS.k1, ?_⟩
                refine z_X7_takesWord hS hm3 (by omega) (by omega) (fun v121 m122 hm122 fm122 bv121 cv121 yv121_0 yv121_1 => ?_)
                have Fm122 : ∀ c p : Int, ¬ (c = 1 ∧ 2 ≤ p ∧ p ≤ 4) → m122 c p = m0 c p := fun c p h => (fm122 c p (by omega)).trans (Fm3 c p h)
                refine g_if (fun w123 => ?_) (fun w123 => ?_)
                · refine g_A (by omega) (by omega) ?_
                  exact ih_n_l106 (u2 + 1) m122 hm122 Fm122 (by omega) (by omega) (by omega)
                · exact hk u2 m122 hm122 Fm122 (by omega) (by omega)
              · refine g_if (fun w124 => ?_) (fun w124 => ?_)
                · refine g_C ?_
                  refine ⟨hS.k1, ?_⟩
                  refine z_X7_takesWord hS hm3 (by omega) (by omega) (fun v125 m126 hm126 fm126 bv125 cv125 yv125_0 yv125_1 => ?_)
                  have Fm126 : ∀ c p : Int, ¬ (c = 1 ∧ 2 ≤ p ∧ p ≤ 4) → m126 c p = m0 c p := fun c p h => (fm126 c p (by omega)).trans (Fm3 c p h)
                  refine g_if (fun w127 => ?_) (fun w127 => ?_)
                  · refine g_A (by omega) (by omega) ?_
                    exact ih_n_l106 (u2 + 1) m126 hm126 Fm126 (by omega) (by omega) (by omega)
                  · exact hk u2 m126 hm126 Fm126 (by omega) (by omega)
                · refine g_C ?_
                  refine ⟨hS.k1, ?_⟩
                  refine z_X7_takesWord hS hm3 (by omega) (by omega) (fun v128 m129 hm129 fm129 bv128 cv128 yv128_0 yv128_1 => ?_)
                  have Fm129 : ∀ c p : Int, ¬ (c = 1 ∧ 2 ≤ p ∧ p ≤ 4) → m129 c p = m0 c p := fun c p h => (fm129 c p (by omega)).trans (Fm3 c p h)
                  refine g_if (fun w130 => ?_) (fun w130 => ?_)
                  · refine g_A (by omega) (by omega) ?_
                    exact ih_n_l106 (u2 + 1) m129 hm129 Fm129 (by omega) (by omega) (by omega)
                  · exact hk u2 m129 hm129 Fm129 (by omega) (by omega)
  exact ⟨7, L_n_l106 7 0 m0 hm0 Fm0 (by omega) (by omega) (by omega)⟩
theorem z_X0_readClause {X : Mm} {S : Sh} {m0 : Mm} {K : Int → Mm → Prop} {u1 : Int} (hS : Shp S) (hm0 : Inv X S m0) (l_u1 : 0 ≤ u1) (h_u1 : u1 ≤ 40) (hk : ∀ (r : Int) (M1 : Mm), Inv X S M1 → 0 ≤ r → r ≤ 1 → K r M1) : wp_X0_readClause S m0 31 u1 K := by
  refine u_X0_readClause ?_
  refine ⟨hS.k31, ?_⟩
  refine z_X0_takeKind hS hm0 (fun v1 m2 hm2 fm2 bv1 cv1 => ?_)
  refine g_C ?_
  refine g_if (fun w3 => ?_) (fun w3 => ?_)
  · refine g_if (fun w4 => ?_) (fun w4 => ?_)
    · refine g_C ?_
      refine u_X0_readClause_28 ?_
      refine g_if (fun w5 => ?_) (fun w5 => ?_)
      · refine g_C ?_
        refine u_X0_readClause_37 ?_
        refine g_ifF (by omega) ?_
        refine g_C ?_
        refine u_X0_readClause_45 ?_
        refine g_C ?_
        refine g_if (fun w6 => ?_) (fun w6 => ?_)
        · refine u_X0_readClause_64 ?_
          refine g_getr 0 1 rfl hS.k31 hm2.f_31_0 (by decide) ?_
          refine g_C ?_
          refine ⟨hS.k1, ?_⟩
          refine z_X7_refuse hS hm2 (by omega) (by omega) (fun v7 m8 hm8 fm8 bv7 cv7 => ?_)
          refine ⟨by omega, ?_⟩
          exact hk v7 m8 hm8 (by omega) (by omega)
        · refine g_ifF (by omega) ?_
          refine ⟨hS.k31, ?_⟩
          refine u_X0_hasRoomFor ?_
          refine g_ifF (by omega) ?_
          refine g_if (fun w9 => ?_) (fun w9 => ?_)
          · refine g_getr 1 32 rfl hS.k31 hm2.f_31_1 (by decide) ?_
            refine g_get 3 (0) (8) rfl hS.k32 hm2.f_32_3 (fun v10 ev10 bv10 cv10 => ?_)
            refine g_C ?_
            refine g_if (fun w11 => ?_) (fun w11 => ?_)
            · refine g_C ?_
              refine ⟨by omega, ?_⟩
              refine g_ifF (by omega) ?_
              refine u_X0_readClause_64 ?_
              refine g_getr 0 1 rfl hS.k31 hm2.f_31_0 (by decide) ?_
              refine g_C ?_
              refine ⟨hS.k1, ?_⟩
              refine z_X7_refuse hS hm2 (by omega) (by omega) (fun v12 m13 hm13 fm13 bv12 cv12 => ?_)
              refine ⟨by omega, ?_⟩
              exact hk v12 m13 hm13 (by omega) (by omega)
            · refine g_C ?_
              refine ⟨by omega, ?_⟩
              refine g_ifT (by omega) ?_
              refine g_ifF (by omega) ?_
              refine g_ifT (by omega) ?_
              refine ⟨hS.k31, ?_⟩
              refine z_X0_readRoad hS hm2 (by omega) (fun v14 m15 hm15 bv14 cv14 => ?_)
              refine ⟨by omega, ?_⟩
              exact hk v14 m15 hm15 (by omega) (by omega)
          · refine g_if (fun w16 => ?_) (fun w16 => ?_)
            · refine g_getr 1 32 rfl hS.k31 hm2.f_31_1 (by decide) ?_
              refine g_get 4 (0) (5) rfl hS.k32 hm2.f_32_4 (fun v17 ev17 bv17 cv17 => ?_)
              refine g_C ?_
              refine g_if (fun w18 => ?_) (fun w18 => ?_)
              · refine g_C ?_
                refine ⟨by omega, ?_⟩
                refine g_ifF (by omega) ?_
                refine u_X0_readClause_64 ?_
                refine g_getr 0 1 rfl hS.k31 hm2.f_31_0 (by decide) ?_
                refine g_C ?_
                refine ⟨hS.k1, ?_⟩
                refine z_X7_refuse hS hm2 (by omega) (by omega) (fun v19 m20 hm20 fm20 bv19 cv19 => ?_)
                refine ⟨by omega, ?_⟩
                exact hk v19 m20 hm20 (by omega) (by omega)
              · refine g_C ?_
                refine ⟨by omega, ?_⟩
                refine g_ifT (by omega) ?_
                refine g_ifF (by omega) ?_
                refine g_ifF (by omega) ?_
                refine g_ifT (by omega) ?_
                refine ⟨hS.k31, ?_⟩
                refine z_X0_readHand hS hm2 (by omega) (fun v21 m22 hm22 bv21 cv21 => ?_)
                refine ⟨by omega, ?_⟩
                exact hk v21 m22 hm22 (by omega) (by omega)
            · refine g_if (fun w23 => ?_) (fun w23 => ?_)
              · refine g_getr 1 32 rfl hS.k31 hm2.f_31_1 (by decide) ?_
                refine g_get 5 (0) (4) rfl hS.k32 hm2.f_32_5 (fun v24 ev24 bv24 cv24 => ?_)
                refine g_C ?_
                refine g_if (fun w25 => ?_) (fun w25 => ?_)
                · refine g_C ?_
                  refine ⟨by omega, ?_⟩
                  refine g_ifF (by omega) ?_
                  refine u_X0_readClause_64 ?_
                  refine g_getr 0 1 rfl hS.k31 hm2.f_31_0 (by decide) ?_
                  refine g_C ?_
                  refine ⟨hS.k1, ?_⟩
                  refine z_X7_refuse hS hm2 (by omega) (by omega) (fun v26 m27 hm27 fm27 bv26 cv26 => ?_)
                  refine ⟨by omega, ?_⟩
                  exact hk v26 m27 hm27 (by omega) (by omega)
                · refine g_C ?_
                  refine ⟨by omega, ?_⟩
                  refine g_ifT (by omega) ?_
                  refine g_ifF (by omega) ?_
                  refine g_ifF (by omega) ?_
                  refine g_ifF (by omega) ?_
                  refine g_ifT (by omega) ?_
                  refine ⟨hS.k31, ?_⟩
                  refine z_X0_readJug hS hm2 (by omega) (fun v28 m29 hm29 bv28 cv28 => ?_)
                  refine ⟨by omega, ?_⟩
                  exact hk v28 m29 hm29 (by omega) (by omega)
              · refine g_if (fun w30 => ?_) (fun w30 => ?_)
                · refine g_getr 1 32 rfl hS.k31 hm2.f_31_1 (by decide) ?_
                  refine g_get 6 (0) (4) rfl hS.k32 hm2.f_32_6 (fun v31 ev31 bv31 cv31 => ?_)
                  refine g_C ?_
                  refine g_if (fun w32 => ?_) (fun w32 => ?_)
                  · refine g_C ?_
                    refine ⟨by omega, ?_⟩
                    refine g_ifF (by omega) ?_
                    refine u_X0_readClause_64 ?_
                    refine g_getr 0 1 rfl hS.k31 hm2.f_31_0 (by decide) ?_
                    refine g_C ?_
                    refine ⟨hS.k1, ?_⟩
                    refine z_X7_refuse hS hm2 (by omega) (by omega) (fun v33 m34 hm34 fm34 bv33 cv33 => ?_)
                    refine ⟨by omega, ?_⟩
                    exact hk v33 m34 hm34 (by omega) (by omega)
                  · refine g_C ?_
                    refine ⟨by omega, ?_⟩
                    refine g_ifT (by omega) ?_
                    refine g_ifF (by omega) ?_
                    refine g_ifF (by omega) ?_
                    refine g_ifF (by omega) ?_
                    refine g_ifF (by omega) ?_
                    refine g_ifT (by omega) ?_
                    refine ⟨hS.k31, ?_⟩
                    refine z_X0_readHeat hS hm2 (by omega) (fun v35 m36 hm36 bv35 cv35 => ?_)
                    refine ⟨by omega, ?_⟩
                    exact hk v35 m36 hm36 (by omega) (by omega)
                · refine g_getr 1 32 rfl hS.k31 hm2.f_31_1 (by decide) ?_
                  refine g_get 7 (0) (6) rfl hS.k32 hm2.f_32_7 (fun v37 ev37 bv37 cv37 => ?_)
                  refine g_C ?_
                  refine g_if (fun w38 => ?_) (fun w38 => ?_)
                  · refine g_C ?_
                    refine ⟨by omega, ?_⟩
                    refine g_ifF (by omega) ?_
                    refine u_X0_readClause_64 ?_
                    refine g_getr 0 1 rfl hS.k31 hm2.f_31_0 (by decide) ?_
                    refine g_C ?_
                    refine ⟨hS.k1, ?_⟩
                    refine z_X7_refuse hS hm2 (by omega) (by omega) (fun v39 m40 hm40 fm40 bv39 cv39 => ?_)
                    refine ⟨by omega, ?_⟩
                    exact hk v39 m40 hm40 (by omega) (by omega)
                  · refine g_C ?_
                    refine ⟨by omega, ?_⟩
                    refine g_ifT (by omega) ?_
                    refine g_ifF (by omega) ?_
                    refine g_ifF (by omega) ?_
                    refine g_ifF (by omega) ?_
                    refine g_ifF (by omega) ?_
                    refine g_ifF (by omega) ?_
                    refine ⟨hS.k31, ?_⟩
                    refine z_X0_readWant hS hm2 (by omega) (fun v41 m42 hm42 bv41 cv41 => ?_)
                    refine ⟨by omega, ?_⟩
                    exact hk v41 m42 hm42 (by omega) (by omega)
      · refine g_C ?_
        refine u_X0_readClause_37 ?_
        refine g_ifT (by omega) ?_
        refine g_C ?_
        refine u_X0_readClause_45 ?_
        refine g_C ?_
        refine g_ifF (by omega) ?_
        refine g_ifT (by omega) ?_
        refine u_X0_readClause_64 ?_
        refine g_getr 0 1 rfl hS.k31 hm2.f_31_0 (by decide) ?_
        refine g_C ?_
        refine ⟨hS.k1, ?_⟩
        refine z_X7_refuse hS hm2 (by omega) (by omega) (fun v43 m44 hm44 fm44 bv43 cv43 => ?_)
        refine ⟨by omega, ?_⟩
        exact hk v43 m44 hm44 (by omega) (by omega)
    · refine g_C ?_
      refine u_X0_readClause_28 ?_
      refine g_if (fun w45 => ?_) (fun w45 => ?_)
      · refine g_C ?_
        refine u_X0_readClause_37 ?_
        refine g_ifT (by omega) ?_
        refine g_C ?_
        refine u_X0_readClause_45 ?_
        refine g_C ?_
        refine g_if (fun w46 => ?_) (fun w46 => ?_)
        · refine u_X0_readClause_64 ?_
          refine g_getr 0 1 rfl hS.k31 hm2.f_31_0 (by decide) ?_
          refine g_C ?_
          refine ⟨hS.k1, ?_⟩
          refine z_X7_refuse hS hm2 (by omega) (by omega) (fun v47 m48 hm48 fm48 bv47 cv47 => ?_)
          refine ⟨by omega, ?_⟩
          exact hk v47 m48 hm48 (by omega) (by omega)
        · refine g_ifT (by omega) ?_
          refine u_X0_readClause_64 ?_
          refine g_getr 0 1 rfl hS.k31 hm2.f_31_0 (by decide) ?_
          refine g_C ?_
          refine ⟨hS.k1, ?_⟩
          refine z_X7_refuse hS hm2 (by omega) (by omega) (fun v49 m50 hm50 fm50 bv49 cv49 => ?_)
          refine ⟨by omega, ?_⟩
          exact hk v49 m50 hm50 (by omega) (by omega)
      · refine g_C ?_
        refine u_X0_readClause_37 ?_
        refine g_ifF (by omega) ?_
        refine g_C ?_
        refine u_X0_readClause_45 ?_
        refine g_C ?_
        refine g_ifF (by omega) ?_
        refine g_ifF (by omega) ?_
        refine ⟨hS.k31, ?_⟩
        refine u_X0_hasRoomFor ?_
        refine g_ifT (by omega) ?_
        refine g_C ?_
        refine ⟨by omega, ?_⟩
        refine g_ifT (by omega) ?_
        refine g_ifT (by omega) ?_
        refine ⟨hS.k31, ?_⟩
        refine z_X0_readDairy hS hm2 (fun v51 m52 hm52 bv51 cv51 => ?_)
        refine ⟨by omega, ?_⟩
        exact hk v51 m52 hm52 (by omega) (by omega)
  · refine g_getr 0 1 rfl hS.k31 hm2.f_31_0 (by decide) ?_
    refine g_C ?_
    refine ⟨hS.k1, ?_⟩
    refine z_X7_refuse hS hm2 (by omega) (by omega) (fun v53 m54 hm54 fm54 bv53 cv53 => ?_)
    refine ⟨by omega, ?_⟩
    exact hk v53 m54 hm54 (by omega) (by omega)
