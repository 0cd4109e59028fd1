section
theorem z_X2_visit_d1 {X : Mm} {S : Sh} {m0 : Mm} {K : Mm → Prop} {u1 u2 : Int} (hS : Shp S) (hm0 : Inv X S m0) (l_u1 : 4 ≤ u1) (h_u1 : u1 ≤ 4) (l_u2 : 0 ≤ u2) (h_u2 : u2 ≤ 999) (hk : ∀ (M1 : Mm), Inv X S M1 → K M1) : wp_X2_visit_d1 S m0 58 u1 u2 K := by
  refine u_X2_visit_d1 ?_
  refine g_C ?_
  refine g_M (by omega) (by omega) ?_
  refine g_A (by omega) (by omega) ?_
  refine g_C ?_
  refine g_ifF (by omega) ?_
  refine g_getr 4 61 rfl hS.k58 hm0.f_58_4 (by decide) ?_
  refine g_ld (-2147483648) (2147483647) hS.k61 hS.l61 (by omega) (by omega) (hm0.a_61 (by omega) (by omega)) (fun v1 ev1 bv1 cv1 => ?_)
  refine g_C ?_
  refine g_if (fun w2 => ?_) (fun w2 => ?_)
  · refine g_get 6 (0) (5) rfl hS.k58 hm0.f_58_6 (fun v3 ev3 bv3 cv3 => ?_)
    refine g_if (fun w4 => ?_) (fun w4 => ?_)
    · refine g_C ?_
      refine g_C ?_
      refine g_C ?_
      have L_n_l78 : ∀ (n_l78 : Nat) (u9 : Int) (u10 : Int) (u11 : Int) (m12 : Mm), Inv X S m12 → (-2147483648) ≤ u9 → u9 ≤ 2147483647 → (-2147483648) ≤ u10 → u10 ≤ 999 → 0 ≤ u11 → u11 ≤ 5 → 6 - u11 ≤ (n_l78 : Int) → wp_X2_visit_d1_78 S K n_l78 58 u1 u2 ((u1 * 1000) + u2) u9 u10 u11 m12 := by
        intro n_l78
        induction n_l78 with
        | zero => intro u9 u10 u11 m12 hm12 bu9 cu9 bu10 cu10 bu11 cu11 zn_l78; exfalso; omega
        | succ n_l78 ih_n_l78 =>
          intro u9 u10 u11 m12 hm12 bu9 cu9 bu10 cu10 bu11 cu11 zn_l78
          refine u_X2_visit_d1_78 ?_
          refine g_getr 1 4 rfl hS.k58 hm12.f_58_1 (by decide) ?_
          refine g_get 4 (0) (5) rfl hS.k4 hm12.f_4_4 (fun v79 ev79 bv79 cv79 => ?_)
          refine g_if (fun w80 => ?_) (fun w80 => ?_)
          · refine g_getr 4 61 rfl hS.k58 hm12.f_58_4 (by decide) ?_
            refine g_st hS.k61 hS.l61 (by omega) (by omega) (hm12.wa_61 (by omega) (by omega) (by omega) (by omega)) (fun m81 em81 hm81 => ?_)
            refine g_getr 5 62 rfl hS.k58 hm81.f_58_5 (by decide) ?_
            refine g_st hS.k62 hS.l62 (by omega) (by omega) (hm81.wa_62 (by omega) (by omega) (by omega) (by omega)) (fun m82 em82 hm82 => ?_)
            exact hk m82 hm82
          · refine ⟨hS.k58, ?_⟩
            refine z_X2_carried hS hm12 (by omega) (by omega) (by omega) (by omega) (by omega) (by omega) (fun v83 m84 hm84 bv83 cv83 => ?_)
            refine g_C ?_
            refine g_A (by omega) (by omega) ?_
            refine ⟨hS.k58, ?_⟩
            refine z_X2_visit_d0 hS hm84 (by omega) (by omega) (by omega) (by omega) (fun m85 hm85 => ?_)
            refine g_getr 4 61 rfl hS.k58 hm85.f_58_4 (by decide) ?_
            refine g_C ?_
            refine g_A (by omega) (by omega) ?_
            refine g_C ?_
            refine g_M (by omega) (by omega) ?_
            refine g_A (by omega) (by omega) ?_
            refine g_ld (-2147483648) (2147483647) hS.k61 hS.l61 (by omega) (by omega) (hm85.a_61 (by omega) (by omega)) (fun v86 ev86 bv86 cv86 => ?_)
            refine g_Aw (fun v87 bv87 cv87 => ?_)
            refine g_getr 5 62 rfl hS.k58 hm85.f_58_5 (by decide) ?_
            refine g_C ?_
            refine g_A (by omega) (by omega) ?_
            refine g_C ?_
            refine g_M (by omega) (by omega) ?_
            refine g_A (by omega) (by omega) ?_
            refine g_ld (-2147483648) (2147483647) hS.k62 hS.l62 (by omega) (by omega) (hm85.a_62 (by omega) (by omega)) (fun v88 ev88 bv88 cv88 => ?_)
            refine g_min (fun v89 bv89 cv89 dv89 => ?_)
            refine g_A (by omega) (by omega) ?_
            exact ih_n_l78 v87 v89 (u11 + 1) m85 hm85 (by omega) (by omega) (by omega) (by omega) (by omega) (by omega) (by omega)
      exact ⟨6, L_n_l78 6 0 999 0 m0 hm0 (by omega) (by omega) (by omega) (by omega) (by omega) (by omega) (by omega)⟩
    · refine g_getr 4 61 rfl hS.k58 hm0.f_58_4 (by decide) ?_
      refine g_get 9 (-2147483648) (2147483647) rfl hS.k58 hm0.f_58_9 (fun v90 ev90 bv90 cv90 => ?_)
      refine g_if (fun w91 => ?_) (fun w91 => ?_)
      · refine u_X2_visit_d1_57 ?_
        refine g_C ?_
        refine u_X2_visit_d1_58 ?_
        refine g_st hS.k61 hS.l61 (by omega) (by omega) (hm0.wa_61 (by omega) (by omega) (by omega) (by omega)) (fun m92 em92 hm92 => ?_)
        refine g_getr 5 62 rfl hS.k58 hm92.f_58_5 (by decide) ?_
        refine g_st hS.k62 hS.l62 (by omega) (by omega) (hm92.wa_62 (by omega) (by omega) (by omega) (by omega)) (fun m93 em93 hm93 => ?_)
        exact hk m93 hm93
      · refine g_get 10 (-2147483648) (2147483647) rfl hS.k58 hm0.f_58_10 (fun v94 ev94 bv94 cv94 => ?_)
        refine g_if (fun w95 => ?_) (fun w95 => ?_)
        · refine u_X2_visit_d1_57 ?_
          refine g_C ?_
          refine u_X2_visit_d1_58 ?_
          refine g_st hS.k61 hS.l61 (by omega) (by omega) (hm0.wa_61 (by omega) (by omega) (by omega) (by omega)) (fun m96 em96 hm96 => ?_)
          refine g_getr 5 62 rfl hS.k58 hm96.f_58_5 (by decide) ?_
          refine g_st hS.k62 hS.l62 (by omega) (by omega) (hm96.wa_62 (by omega) (by omega) (by omega) (by omega)) (fun m97 em97 hm97 => ?_)
          exact hk m97 hm97
        · refine g_C ?_
          refine u_X2_visit_d1_58 ?_
          refine g_st hS.k61 hS.l61 (by omega) (by omega) (hm0.wa_61 (by omega) (by omega) (by omega) (by omega)) (fun m98 em98 hm98 => ?_)
          refine g_getr 5 62 rfl hS.k58 hm98.f_58_5 (by decide) ?_
          refine g_st hS.k62 hS.l62 (by omega) (by omega) (hm98.wa_62 (by omega) (by omega) (by omega) (by omega)) (fun m99 em99 hm99 => ?_)
          exact hk m99 hm99
  · exact hk m0 hm0
theorem z_X2_visit_d2 {X : Mm} {S : Sh} {m0 : Mm} {K : Mm → Prop} {u1 u2 : Int} (hS : Shp S) (hm0 : Inv X S m0) (l_u1 : 3 ≤ u1) (h_u1 : u1 ≤ 3) (l_u2 : 0 ≤ u2) (h_u2 : u2 ≤ 999) (hk : ∀ (M1 : Mm), Inv X S M1 → K M1) : wp_X2_visit_d2 S m0 58 u1 u2 K := by
  refine u_X2_visit_d2 ?_
  refine g_C ?_
  refine g_M (by omega) (by omega) ?_
  refine g_A (by omega) (by omega) ?_
  refine g_C ?_
  refine g_ifF (by omega) ?_
  refine g_getr 4 61 rfl hS.k58 hm0.f_58_4 (by decide) ?_
  refine g_ld (-2147483648) (2147483647) hS.k61 hS.l61 (by omega) (by omega) (hm0.a_61 (by omega) (by omega)) (fun v1 ev1 bv1 cv1 => ?_)
  refine g_C ?_
  refine g_if (fun w2 => ?_) (fun w2 => ?_)
  · refine g_get 6 (0) (5) rfl hS.k58 hm0.f_58_6 (fun v3 ev3 bv3 cv3 => ?_)
    refine g_if (fun w4 => ?_) (fun w4 => ?_)
    · refine g_C ?_
      refine g_C ?_
      refine g_C ?_
      have L_n_l78 : ∀ (n_l78 : Nat) (u9 : Int) (u10 : Int) (u11 : Int) (m12 : Mm), Inv X S m12 → (-2147483648) ≤ u9 → u9 ≤ 2147483647 → (-2147483648) ≤ u10 → u10 ≤ 999 → 0 ≤ u11 → u11 ≤ 5 → 6 - u11 ≤ (n_l78 : Int) → wp_X2_visit_d2_78 S K n_l78 58 u1 u2 ((u1 * 1000) + u2) u9 u10 u11 m12 := by
        intro n_l78
        induction n_l78 with
        | zero => intro u9 u10 u11 m12 hm12 bu9 cu9 bu10 cu10 bu11 cu11 zn_l78; exfalso; omega
        | succ n_l78 ih_n_l78 =>
          intro u9 u10 u11 m12 hm12 bu9 cu9 bu10 cu10 bu11 cu11 zn_l78
          refine u_X2_visit_d2_78 ?_
          refine g_getr 1 4 rfl hS.k58 hm12.f_58_1 (by decide) ?_
          refine g_get 4 (0) (5) rfl hS.k4 hm12.f_4_4 (fun v79 ev79 bv79 cv79 => ?_)
          refine g_if (fun w80 => ?_) (fun w80 => ?_)
          · refine g_getr 4 61 rfl hS.k58 hm12.f_58_4 (by decide) ?_
            refine g_st hS.k61 hS.l61 (by omega) (by omega) (hm12.wa_61 (by omega) (by omega) (by omega) (by omega)) (fun m81 em81 hm81 => ?_)
            refine g_getr 5 62 rfl hS.k58 hm81.f_58_5 (by decide) ?_
            refine g_st hS.k62 hS.l62 (by omega) (by omega) (hm81.wa_62 (by omega) (by omega) (by omega) (by omega)) (fun m82 em82 hm82 => ?_)
            exact hk m82 hm82
          · refine ⟨hS.k58, ?_⟩
            refine z_X2_carried hS hm12 (by omega) (by omega) (by omega) (by omega) (by omega) (by omega) (fun v83 m84 hm84 bv83 cv83 => ?_)
            refine g_C ?_
            refine g_A (by omega) (by omega) ?_
            refine ⟨hS.k58, ?_⟩
            refine z_X2_visit_d1 hS hm84 (by omega) (by omega) (by omega) (by omega) (fun m85 hm85 => ?_)
            refine g_getr 4 61 rfl hS.k58 hm85.f_58_4 (by decide) ?_
            refine g_C ?_
            refine g_A (by omega) (by omega) ?_
            refine g_C ?_
            refine g_M (by omega) (by omega) ?_
            refine g_A (by omega) (by omega) ?_
            refine g_ld (-2147483648) (2147483647) hS.k61 hS.l61 (by omega) (by omega) (hm85.a_61 (by omega) (by omega)) (fun v86 ev86 bv86 cv86 => ?_)
            refine g_Aw (fun v87 bv87 cv87 => ?_)
            refine g_getr 5 62 rfl hS.k58 hm85.f_58_5 (by decide) ?_
            refine g_C ?_
            refine g_A (by omega) (by omega) ?_
            refine g_C ?_
            refine g_M (by omega) (by omega) ?_
            refine g_A (by omega) (by omega) ?_
            refine g_ld (-2147483648) (2147483647) hS.k62 hS.l62 (by omega) (by omega) (hm85.a_62 (by omega) (by omega)) (fun v88 ev88 bv88 cv88 => ?_)
            refine g_min (fun v89 bv89 cv89 dv89 => ?_)
            refine g_A (by omega) (by omega) ?_
            exact ih_n_l78 v87 v89 (u11 + 1) m85 hm85 (by omega) (by omega) (by omega) (by omega) (by omega) (by omega) (by omega)
      exact ⟨6, L_n_l78 6 0 999 0 m0 hm0 (by omega) (by omega) (by omega) (by omega) (by omega) (by omega) (by omega)⟩
    · refine g_getr 4 61 rfl hS.k58 hm0.f_58_4 (by decide) ?_
      refine g_get 9 (-2147483648) (2147483647) rfl hS.k58 hm0.f_58_9 (fun v90 ev90 bv90 cv90 => ?_)
      refine g_if (fun w91 => ?_) (fun w91 => ?_)
      · refine u_X2_visit_d2_57 ?_
        refine g_C ?_
        refine u_X2_visit_d2_58 ?_
        refine g_st hS.k61 hS.l61 (by omega) (by omega) (hm0.wa_61 (by omega) (by omega) (by omega) (by omega)) (fun m92 em92 hm92 => ?_)
        refine g_getr 5 62 rfl hS.k58 hm92.f_58_5 (by decide) ?_
        refine g_st hS.k62 hS.l62 (by omega) (by omega) (hm92.wa_62 (by omega) (by omega) (by omega) (by omega)) (fun m93 em93 hm93 => ?_)
        exact hk m93 hm93
      · refine g_get 10 (-2147483648) (2147483647) rfl hS.k58 hm0.f_58_10 (fun v94 ev94 bv94 cv94 => ?_)
        refine g_if (fun w95 => ?_) (fun w95 => ?_)
        · refine u_X2_visit_d2_57 ?_
          refine g_C ?_
          refine u_X2_visit_d2_58 ?_
          refine g_st hS.k61 hS.l61 (by omega) (by omega) (hm0.wa_61 (by omega) (by omega) (by omega) (by omega)) (fun m96 em96 hm96 => ?_)
          refine g_getr 5 62 rfl hS.k58 hm96.f_58_5 (by decide) ?_
          refine g_st hS.k62 hS.l62 (by omega) (by omega) (hm96.wa_62 (by omega) (by omega) (by omega) (by omega)) (fun m97 em97 hm97 => ?_)
          exact hk m97 hm97
        · refine g_C ?_
          refine u_X2_visit_d2_58 ?_
          refine g_st hS.k61 hS.l61 (by omega) (by omega) (hm0.wa_61 (by omega) (by omega) (by omega) (by omega)) (fun m98 em98 hm98 => ?_)
          refine g_getr 5 62 rfl hS.k58 hm98.f_58_5 (by decide) ?_
          refine g_st hS.k62 hS.l62 (by omega) (by omega) (hm98.wa_62 (by omega) (by omega) (by omega) (by omega)) (fun m99 em99 hm99 => ?_)
          exact hk m99 hm99
  · exact hk m0 hm0
theorem z_X2_visit_d3 {X : Mm} {S : Sh} {m0 : Mm} {K : Mm → Prop} {u1 u2 : Int} (hS : Shp S) (hm0 : Inv X S m0) (l_u1 : 2 ≤ u1) (h_u1 : u1 ≤ 2) (l_u2 : 0 ≤ u2) (h_u2 : u2 ≤ 999) (hk : ∀ (M1 : Mm), Inv X S M1 → K M1) : wp_X2_visit_d3 S m0 58 u1 u2 K := by
  refine u_X2_visit_d3 ?_
  refine g_C ?_
  refine g_M (by omega) (by omega) ?_
  refine g_A (by omega) (by omega) ?_
  refine g_C ?_
  refine g_ifF (by omega) ?_
  refine g_getr 4 61 rfl hS.k58 hm0.f_58_4 (by decide) ?_
  refine g_ld (-2147483648) (2147483647) hS.k61 hS.l61 (by omega) (by omega) (hm0.a_61 (by omega) (by omega)) (fun v1 ev1 bv1 cv1 => ?_)
  refine g_C ?_
  refine g_if (fun w2 => ?_) (fun w2 => ?_)
  · refine g_get 6 (0) (5) rfl hS.k58 hm0.f_58_6 (fun v3 ev3 bv3 cv3 => ?_)
    refine g_if (fun w4 => ?_) (fun w4 => ?_)
    · refine g_C ?_
      refine g_C ?_
      refine g_C ?_
      have L_n_l78 : ∀ (n_l78 : Nat) (u9 : Int) (u10 : Int) (u11 : Int) (m12 : Mm), Inv X S m12 → (-2147483648) ≤ u9 → u9 ≤ 2147483647 → (-2147483648) ≤ u10 → u10 ≤ 999 → 0 ≤ u11 → u11 ≤ 5 → 6 - u11 ≤ (n_l78 : Int) → wp_X2_visit_d3_78 S K n_l78 58 u1 u2 ((u1 * 1000) + u2) u9 u10 u11 m12 := by
        intro n_l78
        induction n_l78 with
        | zero => intro u9 u10 u11 m12 hm12 bu9 cu9 bu10 cu10 bu11 cu11 zn_l78; exfalso; omega
        | succ n_l78 ih_n_l78 =>
          intro u9 u10 u11 m12 hm12 bu9 cu9 bu10 cu10 bu11 cu11 zn_l78
          refine u_X2_visit_d3_78 ?_
          refine g_getr 1 4 rfl hS.k58 hm12.f_58_1 (by decide) ?_
          refine g_get 4 (0) (5) rfl hS.k4 hm12.f_4_4 (fun v79 ev79 bv79 cv79 => ?_)
          refine g_if (fun w80 => ?_) (fun w80 => ?_)
          · refine g_getr 4 61 rfl hS.k58 hm12.f_58_4 (by decide) ?_
            refine g_st hS.k61 hS.l61 (by omega) (by omega) (hm12.wa_61 (by omega) (by omega) (by omega) (by omega)) (fun m81 em81 hm81 => ?_)
            refine g_getr 5 62 rfl hS.k58 hm81.f_58_5 (by decide) ?_
            refine g_st hS.k62 hS.l62 (by omega) (by omega) (hm81.wa_62 (by omega) (by omega) (by omega) (by omega)) (fun m82 em82 hm82 => ?_)
            exact hk m82 hm82
          · refine ⟨hS.k58, ?_⟩
            refine z_X2_carried hS hm12 (by omega) (by omega) (by omega) (by omega) (by omega) (by omega) (fun v83 m84 hm84 bv83 cv83 => ?_)
            refine g_C ?_
            refine g_A (by omega) (by omega) ?_
            refine ⟨hS.k58, ?_⟩
            refine z_X2_visit_d2 hS hm84 (by omega) (by omega) (by omega) (by omega) (fun m85 hm85 => ?_)
            refine g_getr 4 61 rfl hS.k58 hm85.f_58_4 (by decide) ?_
            refine g_C ?_
            refine g_A (by omega) (by omega) ?_
            refine g_C ?_
            refine g_M (by omega) (by omega) ?_
            refine g_A (by omega) (by omega) ?_
            refine g_ld (-2147483648) (2147483647) hS.k61 hS.l61 (by omega) (by omega) (hm85.a_61 (by omega) (by omega)) (fun v86 ev86 bv86 cv86 => ?_)
            refine g_Aw (fun v87 bv87 cv87 => ?_)
            refine g_getr 5 62 rfl hS.k58 hm85.f_58_5 (by decide) ?_
            refine g_C ?_
            refine g_A (by omega) (by omega) ?_
            refine g_C ?_
            refine g_M (by omega) (by omega) ?_
            refine g_A (by omega) (by omega) ?_
            refine g_ld (-2147483648) (2147483647) hS.k62 hS.l62 (by omega) (by omega) (hm85.a_62 (by omega) (by omega)) (fun v88 ev88 bv88 cv88 => ?_)
            refine g_min (fun v89 bv89 cv89 dv89 => ?_)
            refine g_A (by omega) (by omega) ?_
            exact ih_n_l78 v87 v89 (u11 + 1) m85 hm85 (by omega) (by omega) (by omega) (by omega) (by omega) (by omega) (by omega)
      exact ⟨6, L_n_l78 6 0 999 0 m0 hm0 (by omega) (by omega) (by omega) (by omega) (by omega) (by omega) (by omega)⟩
    · refine g_getr 4 61 rfl hS.k58 hm0.f_58_4 (by decide) ?_
      refine g_get 9 (-2147483648) (2147483647) rfl hS.k58 hm0.f_58_9 (fun v90 ev90 bv90 cv90 => ?_)
      refine g_if (fun w91 => ?_) (fun w91 => ?_)
      · refine u_X2_visit_d3_57 ?_
        refine g_C ?_
        refine u_X2_visit_d3_58 ?_
        refine g_st hS.k61 hS.l61 (by omega) (by omega) (hm0.wa_61 (by omega) (by omega) (by omega) (by omega)) (fun m92 em92 hm92 => ?_)
        refine g_getr 5 62 rfl hS.k58 hm92.f_58_5 (by decide) ?_
        refine g_st hS.k62 hS.l62 (by omega) (by omega) (hm92.wa_62 (by omega) (by omega) (by omega) (by omega)) (fun m93 em93 hm93 => ?_)
        exact hk m93 hm93
      · refine g_get 10 (-2147483648) (2147483647) rfl hS.k58 hm0.f_58_10 (fun v94 ev94 bv94 cv94 => ?_)
        refine g_if (fun w95 => ?_) (fun w95 => ?_)
        · refine u_X2_visit_d3_57 ?_
          refine g_C ?_
          refine u_X2_visit_d3_58 ?_
          refine g_st hS.k61 hS.l61 (by omega) (by omega) (hm0.wa_61 (by omega) (by omega) (by omega) (by omega)) (fun m96 em96 hm96 => ?_)
          refine g_getr 5 62 rfl hS.k58 hm96.f_58_5 (by decide) ?_
          refine g_st hS.k62 hS.l62 (by omega) (by omega) (hm96.wa_62 (by omega) (by omega) (by omega) (by omega)) (fun m97 em97 hm97 => ?_)
          exact hk m97 hm97
        · refine g_C ?_
          refine u_X2_visit_d3_58 ?_
          refine g_st hS.k61 hS.l61 (by omega) (by omega) (hm0.wa_61 (by omega) (by omega) (by omega) (by omega)) (fun m98 em98 hm98 => ?_)
          refine g_getr 5 62 rfl hS.k58 hm98.f_58_5 (by decide) ?_
          refine g_st hS.k62 hS.l62 (by omega) (by omega) (hm98.wa_62 (by omega) (by omega) (by omega) (by omega)) (fun m99 em99 hm99 => ?_)
          exact hk m99 hm99
  · exact hk m0 hm0
theorem z_X2_visit_d4 {X : Mm} {S : Sh} {m0 : Mm} {K : Mm → Prop} {u1 u2 : Int} (hS : Shp S) (hm0 : Inv X S m0) (l_u1 : 1 ≤ u1) (h_u1 : u1 ≤ 1) (l_u2 : 0 ≤ u2) (h_u2 : u2 ≤ 999) (hk : ∀ (M1 : Mm), Inv X S M1 → K M1) : wp_X2_visit_d4 S m0 58 u1 u2 K := by
  refine u_X2_visit_d4 ?_
  refine g_C ?_
  refine g_M (by omega) (by omega) ?_
  refine g_A (by omega) (by omega) ?_
  refine g_C ?_
  refine g_ifF (by omega) ?_
  refine g_getr 4 61 rfl hS.k58 hm0.f_58_4 (by decide) ?_
  refine g_ld (-2147483648) (2147483647) hS.k61 hS.l61 (by omega) (by omega) (hm0.a_61 (by omega) (by omega)) (fun v1 ev1 bv1 cv1 => ?_)
  refine g_C ?_
  refine g_if (fun w2 => ?_) (fun w2 => ?_)
  · refine g_get 6 (0) (5) rfl hS.k58 hm0.f_58_6 (fun v3 ev3 bv3 cv3 => ?_)
    refine g_if (fun w4 => ?_) (fun w4 => ?_)
    · refine g_C ?_
      refine g_C ?_
      refine g_C ?_
      have L_n_l78 : ∀ (n_l78 : Nat) (u9 : Int) (u10 : Int) (u11 : Int) (m12 : Mm), Inv X S m12 → (-2147483648) ≤ u9 → u9 ≤ 2147483647 → (-2147483648) ≤ u10 → u10 ≤ 999 → 0 ≤ u11 → u11 ≤ 5 → 6 - u11 ≤ (n_l78 : Int) → wp_X2_visit_d4_78 S K n_l78 58 u1 u2 ((u1 * 1000) + u2) u9 u10 u11 m12 := by
        intro n_l78
        induction n_l78 with
        | zero => intro u9 u10 u11 m12 hm12 bu9 cu9 bu10 cu10 bu11 cu11 zn_l78; exfalso; omega
        | succ n_l78 ih_n_l78 =>
          intro u9 u10 u11 m12 hm12 bu9 cu9 bu10 cu10 bu11 cu11 zn_l78
          refine u_X2_visit_d4_78 ?_
          refine g_getr 1 4 rfl hS.k58 hm12.f_58_1 (by decide) ?_
          refine g_get 4 (0) (5) rfl hS.k4 hm12.f_4_4 (fun v79 ev79 bv79 cv79 => ?_)
          refine g_if (fun w80 => ?_) (fun w80 => ?_)
          · refine g_getr 4 61 rfl hS.k58 hm12.f_58_4 (by decide) ?_
            refine g_st hS.k61 hS.l61 (by omega) (by omega) (hm12.wa_61 (by omega) (by omega) (by omega) (by omega)) (fun m81 em81 hm81 => ?_)
            refine g_getr 5 62 rfl hS.k58 hm81.f_58_5 (by decide) ?_
            refine g_st hS.k62 hS.l62 (by omega) (by omega) (hm81.wa_62 (by omega) (by omega) (by omega) (by omega)) (fun m82 em82 hm82 => ?_)
            exact hk m82 hm82
          · refine ⟨hS.k58, ?_⟩
            refine z_X2_carried hS hm12 (by omega) (by omega) (by omega) (by omega) (by omega) (by omega) (fun v83 m84 hm84 bv83 cv83 => ?_)
            refine g_C ?_
            refine g_A (by omega) (by omega) ?_
            refine ⟨hS.k58, ?_⟩
            refine z_X2_visit_d3 hS hm84 (by omega) (by omega) (by omega) (by omega) (fun m85 hm85 => ?_)
            refine g_getr 4 61 rfl hS.k58 hm85.f_58_4 (by decide) ?_
            refine g_C ?_
            refine g_A (by omega) (by omega) ?_
            refine g_C ?_
            refine g_M (by omega) (by omega) ?_
            refine g_A (by omega) (by omega) ?_
            refine g_ld (-2147483648) (2147483647) hS.k61 hS.l61 (by omega) (by omega) (hm85.a_61 (by omega) (by omega)) (fun v86 ev86 bv86 cv86 => ?_)
            refine g_Aw (fun v87 bv87 cv87 => ?_)
            refine g_getr 5 62 rfl hS.k58 hm85.f_58_5 (by decide) ?_
            refine g_C ?_
            refine g_A (by omega) (by omega) ?_
            refine g_C ?_
            refine g_M (by omega) (by omega) ?_
            refine g_A (by omega) (by omega) ?_
            refine g_ld (-2147483648) (2147483647) hS.k62 hS.l62 (by omega) (by omega) (hm85.a_62 (by omega) (by omega)) (fun v88 ev88 bv88 cv88 => ?_)
            refine g_min (fun v89 bv89 cv89 dv89 => ?_)
            refine g_A (by omega) (by omega) ?_
            exact ih_n_l78 v87 v89 (u11 + 1) m85 hm85 (by omega) (by omega) (by omega) (by omega) (by omega) (by omega) (by omega)
      exact ⟨6, L_n_l78 6 0 999 0 m0 hm0 (by omega) (by omega) (by omega) (by omega) (by omega) (by omega) (by omega)⟩
    · refine g_getr 4 61 rfl hS.k58 hm0.f_58_4 (by decide) ?_
      refine g_get 9 (-2147483648) (2147483647) rfl hS.k58 hm0.f_58_9 (fun v90 ev90 bv90 cv90 => ?_)
      refine g_if (fun w91 => ?_) (fun w91 => ?_)
      · refine u_X2_visit_d4_57 ?_
        refine g_C ?_
        refine u_X2_visit_d4_58 ?_
        refine g_st hS.k61 hS.l61 (by omega) (by omega) (hm0.wa_61 (by omega) (by omega) (by omega) (by omega)) (fun m92 em92 hm92 => ?_)
        refine g_getr 5 62 rfl hS.k58 hm92.f_58_5 (by decide) ?_
        refine g_st hS.k62 hS.l62 (by omega) (by omega) (hm92.wa_62 (by omega) (by omega) (by omega) (by omega)) (fun m93 em93 hm93 => ?_)
        exact hk m93 hm93
      · refine g_get 10 (-2147483648) (2147483647) rfl hS.k58 hm0.f_58_10 (fun v94 ev94 bv94 cv94 => ?_)
        refine g_if (fun w95 => ?_) (fun w95 => ?_)
        · refine u_X2_visit_d4_57 ?_
          refine g_C ?_
          refine u_X2_visit_d4_58 ?_
          refine g_st hS.k61 hS.l61 (by omega) (by omega) (hm0.wa_61 (by omega) (by omega) (by omega) (by omega)) (fun m96 em96 hm96 => ?_)
          refine g_getr 5 62 rfl hS.k58 hm96.f_58_5 (by decide) ?_
          refine g_st hS.k62 hS.l62 (by omega) (by omega) (hm96.wa_62 (by omega) (by omega) (by omega) (by omega)) (fun m97 em97 hm97 => ?_)
          exact hk m97 hm97
        · refine g_C ?_
          refine u_X2_visit_d4_58 ?_
          refine g_st hS.k61 hS.l61 (by omega) (by omega) (hm0.wa_61 (by omega) (by omega) (by omega) (by omega)) (fun m98 em98 hm98 => ?_)
          refine g_getr 5 62 rfl hS.k58 hm98.f_58_5 (by decide) ?_
          refine g_st hS.k62 hS.l62 (by omega) (by omega) (hm98.wa_62 (by omega) (by omega) (by omega) (by omega)) (fun m99 em99 hm99 => ?_)
          exact hk m99 hm99
  · exact hk m0 hm0
theorem z_X2_visit_d5 {X : Mm} {S : Sh} {m0 : Mm} {K : Mm → Prop} {u1 u2 : Int} (hS : Shp S) (hm0 : Inv X S m0) (l_u1 : 0 ≤ u1) (h_u1 : u1 ≤ 0) (l_u2 : 0 ≤ u2) (h_u2 : u2 ≤ 999) (hk : ∀ (M1 : Mm), Inv X S M1 → K M1) : wp_X2_visit_d5 S m0 58 u1 u2 K := by
  refine u_X2_visit_d5 ?_
  refine g_C ?_
  refine g_M (by omega) (by omega) ?_
  refine g_A (by omega) (by omega) ?_
  refine g_C ?_
  refine g_ifF (by omega) ?_
  refine g_getr 4 61 rfl hS.k58 hm0.f_58_4 (by decide) ?_
  refine g_ld (-2147483648) (2147483647) hS.k61 hS.l61 (by omega) (by omega) (hm0.a_61 (by omega) (by omega)) (fun v1 ev1 bv1 cv1 => ?_)
  refine g_C ?_
  refine g_if (fun w2 => ?_) (fun w2 => ?_)
  · refine g_get 6 (0) (5) rfl hS.k58 hm0.f_58_6 (fun v3 ev3 bv3 cv3 => ?_)
    refine g_if (fun w4 => ?_) (fun w4 => ?_)
    · refine g_C ?_
      refine g_C ?_
      refine g_C ?_
      have L_n_l78 : ∀ (n_l78 : Nat) (u9 : Int) (u10 : Int) (u11 : Int) (m12 : Mm), Inv X S m12 → (-2147483648) ≤ u9 → u9 ≤ 2147483647 → (-2147483648) ≤ u10 → u10 ≤ 999 → 0 ≤ u11 → u11 ≤ 5 → 6 - u11 ≤ (n_l78 : Int) → wp_X2_visit_d5_78 S K n_l78 58 u1 u2 ((u1 * 1000) + u2) u9 u10 u11 m12 := by
        intro n_l78
        induction n_l78 with
        | zero => intro u9 u10 u11 m12 hm12 bu9 cu9 bu10 cu10 bu11 cu11 zn_l78; exfalso; omega
        | succ n_l78 ih_n_l78 =>
          intro u9 u10 u11 m12 hm12 bu9 cu9 bu10 cu10 bu11 cu11 zn_l78
          refine u_X2_visit_d5_78 ?_
          refine g_getr 1 4 rfl hS.k58 hm12.f_58_1 (by decide) ?_
          refine g_get 4 (0) (5) rfl hS.k4 hm12.f_4_4 (fun v79 ev79 bv79 cv79 => ?_)
          refine g_if (fun w80 => ?_) (fun w80 => ?_)
          · refine g_getr 4 61 rfl hS.k58 hm12.f_58_4 (by decide) ?_
            refine g_st hS.k61 hS.l61 (by omega) (by omega) (hm12.wa_61 (by omega) (by omega) (by omega) (by omega)) (fun m81 em81 hm81 => ?_)
            refine g_getr 5 62 rfl hS.k58 hm81.f_58_5 (by decide) ?_
            refine g_st hS.k62 hS.l62 (by omega) (by omega) (hm81.wa_62 (by omega) (by omega) (by omega) (by omega)) (fun m82 em82 hm82 => ?_)
            exact hk m82 hm82
          · refine ⟨hS.k58, ?_⟩
            refine z_X2_carried hS hm12 (by omega) (by omega) (by omega) (by omega) (by omega) (by omega) (fun v83 m84 hm84 bv83 cv83 => ?_)
            refine g_C ?_
            refine g_A (by omega) (by omega) ?_
            refine ⟨hS.k58, ?_⟩
            refine z_X2_visit_d4 hS hm84 (by omega) (by omega) (by omega) (by omega) (fun m85 hm85 => ?_)
            refine g_getr 4 61 rfl hS.k58 hm85.f_58_4 (by decide) ?_
            refine g_C ?_
            refine g_A (by omega) (by omega) ?_
            refine g_C ?_
            refine g_M (by omega) (by omega) ?_
            refine g_A (by omega) (by omega) ?_
            refine g_ld (-2147483648) (2147483647) hS.k61 hS.l61 (by omega) (by omega) (hm85.a_61 (by omega) (by omega)) (fun v86 ev86 bv86 cv86 => ?_)
            refine g_Aw (fun v87 bv87 cv87 => ?_)
            refine g_getr 5 62 rfl hS.k58 hm85.f_58_5 (by decide) ?_
            refine g_C ?_
            refine g_A (by omega) (by omega) ?_
            refine g_C ?_
            refine g_M (by omega) (by omega) ?_
            refine g_A (by omega) (by omega) ?_
            refine g_ld (-2147483648) (2147483647) hS.k62 hS.l62 (by omega) (by omega) (hm85.a_62 (by omega) (by omega)) (fun v88 ev88 bv88 cv88 => ?_)
            refine g_min (fun v89 bv89 cv89 dv89 => ?_)
            refine g_A (by omega) (by omega) ?_
            exact ih_n_l78 v87 v89 (u11 + 1) m85 hm85 (by omega) (by omega) (by omega) (by omega) (by omega) (by omega) (by omega)
      exact ⟨6, L_n_l78 6 0 999 0 m0 hm0 (by omega) (by omega) (by omega) (by omega) (by omega) (by omega) (by omega)⟩
    · refine g_getr 4 61 rfl hS.k58 hm0.f_58_4 (by decide) ?_
      refine g_get 9 (-2147483648) (2147483647) rfl hS.k58 hm0.f_58_9 (fun v90 ev90 bv90 cv90 => ?_)
      refine g_if (fun w91 => ?_) (fun w91 => ?_)
      · refine u_X2_visit_d5_57 ?_
        refine g_C ?_
        refine u_X2_visit_d5_58 ?_
        refine g_st hS.k61 hS.l61 (by omega) (by omega) (hm0.wa_61 (by omega) (by omega) (by omega) (by omega)) (fun m92 em92 hm92 => ?_)
        refine g_getr 5 62 rfl hS.k58 hm92.f_58_5 (by decide) ?_
        refine g_st hS.k62 hS.l62 (by omega) (by omega) (hm92.wa_62 (by omega) (by omega) (by omega) (by omega)) (fun m93 em93 hm93 => ?_)
        exact hk m93 hm93
      · refine g_get 10 (-2147483648) (2147483647) rfl hS.k58 hm0.f_58_10 (fun v94 ev94 bv94 cv94 => ?_)
        refine g_if (fun w95 => ?_) (fun w95 => ?_)
        · refine u_X2_visit_d5_57 ?_
          refine g_C ?_
          refine u_X2_visit_d5_58 ?_
          refine g_st hS.k61 hS.l61 (by omega) (by omega) (hm0.wa_61 (by omega) (by omega) (by omega) (by omega)) (fun m96 em96 hm96 => ?_)
          refine g_getr 5 62 rfl hS.k58 hm96.f_58_5 (by decide) ?_
          refine g_st hS.k62 hS.l62 (by omega) (by omega) (hm96.wa_62 (by omega) (by omega) (by omega) (by omega)) (fun m97 em97 hm97 => ?_)
          exact hk m97 hm97
        · refine g_C ?_
          refine u_X2_visit_d5_58 ?_
          refine g_st hS.k61 hS.l61 (by omega) (by omega) (hm0.wa_61 (by omega) (by omega) (by omega) (by omega)) (fun m98 em98 hm98 => ?_)
          refine g_getr 5 62 rfl hS.k58 hm98.f_58_5 (by decide) ?_
          refine g_st hS.k62 hS.l62 (by omega) (by omega) (hm98.wa_62 (by omega) (by omega) (by omega) (by omega)) (fun m99 em99 hm99 => ?_)
          exact hk m99 hm99
  · exact hk m0 hm0
theorem z_X11_relay {X : Mm} {S : Sh} {m0 : Mm} {K : Int → Mm → Prop} {u1 u2 u3 u4 u5 : Int} (hS : Shp S) (hm0 : Inv X S m0) (l_u1 : (-2147483648) ≤ u1) (h_u1 : u1 ≤ 2147483647) (l_u2 : (-2147483648) ≤ u2) (h_u2 : u2 ≤ 2147483647) (l_u3 : (-2147483648) ≤ u3) (h_u3 : u3 ≤ 2147483647) (l_u4 : (-2147483648) ≤ u4) (h_u4 : u4 ≤ 2147483647) (l_u5 : (-2147483648) ≤ u5) (h_u5 : u5 ≤ 2147483647) (hk : ∀ (r : Int) (M1 : Mm), Inv X S M1 → (-2147483648) ≤ r → r ≤ 2147483647 → K r M1) : wp_X11_relay S m0 0 u1 u2 u3 u4 u5 K := by
  refine u_X11_relay ?_
  refine ⟨hS.k0, ?_⟩
  refine u_X11_isStandingJug ?_
  refine ⟨hS.k0, ?_⟩
  refine u_X11_isJug ?_
  refine g_if (fun w1 => ?_) (fun w1 => ?_)
  · refine g_C ?_
    refine ⟨by omega, ?_⟩
    refine g_ifT (by omega) ?_
    refine g_C ?_
    refine ⟨by omega, ?_⟩
    refine g_ifT (by omega) ?_
    refine g_C ?_
    exact hk (-3) m0 hm0 (by omega) (by omega)
  · refine g_getr 1 3 rfl hS.k0 hm0.f_0_1 (by decide) ?_
    refine g_getr 0 4 rfl hS.k3 hm0.f_3_0 (by decide) ?_
    refine g_get 5 (0) (4) rfl hS.k4 hm0.f_4_5 (fun v2 ev2 bv2 cv2 => ?_)
    refine g_if (fun w3 => ?_) (fun w3 => ?_)
    · refine g_C ?_
      refine ⟨by omega, ?_⟩
      refine g_ifT (by omega) ?_
      refine g_C ?_
      refine ⟨by omega, ?_⟩
      refine g_ifT (by omega) ?_
      refine g_C ?_
      exact hk (-3) m0 hm0 (by omega) (by omega)
    · refine g_C ?_
      refine ⟨by omega, ?_⟩
      refine g_ifF (by omega) ?_
      refine g_getr 1 3 rfl hS.k0 hm0.f_0_1 (by decide) ?_
      refine g_getr 1 16 rfl hS.k3 hm0.f_3_1 (by decide) ?_
      refine ⟨hS.k16, ?_⟩
      refine u_X5_stands ?_
      refine g_getr 5 20 rfl hS.k16 hm0.f_16_5 (by decide) ?_
      refine g_ld (-1) (5) hS.k20 hS.l20 (by omega) (by omega) (hm0.a_20 (by omega) (by omega)) (fun v4 ev4 bv4 cv4 => ?_)
      refine g_C ?_
      refine g_if (fun w5 => ?_) (fun w5 => ?_)
      · refine g_C ?_
        refine ⟨by omega, ?_⟩
        refine g_ifT (by omega) ?_
        refine g_C ?_
        refine ⟨by omega, ?_⟩
        refine g_ifT (by omega) ?_
        refine g_C ?_
        exact hk (-3) m0 hm0 (by omega) (by omega)
      · refine g_C ?_
        refine ⟨by omega, ?_⟩
        refine g_ifF (by omega) ?_
        refine g_C ?_
        refine ⟨by omega, ?_⟩
        refine g_ifF (by omega) ?_
        refine ⟨hS.k0, ?_⟩
        refine u_X11_isPlace ?_
        refine g_if (fun w6 => ?_) (fun w6 => ?_)
        · refine g_C ?_
          refine ⟨by omega, ?_⟩
          refine g_ifT (by omega) ?_
          refine g_C ?_
          exact hk (-3) m0 hm0 (by omega) (by omega)
        · refine g_getr 1 3 rfl hS.k0 hm0.f_0_1 (by decide) ?_
          refine g_getr 0 4 rfl hS.k3 hm0.f_3_0 (by decide) ?_
          refine g_get 0 (0) (6) rfl hS.k4 hm0.f_4_0 (fun v7 ev7 bv7 cv7 => ?_)
          refine g_if (fun w8 => ?_) (fun w8 => ?_)
          · refine g_C ?_
            refine ⟨by omega, ?_⟩
            refine g_ifT (by omega) ?_
            refine g_C ?_
            exact hk (-3) m0 hm0 (by omega) (by omega)
          · refine g_C ?_
            refine ⟨by omega, ?_⟩
            refine g_ifF (by omega) ?_
            refine g_if (fun w9 => ?_) (fun w9 => ?_)
            · refine g_C ?_
              exact hk (-3) m0 hm0 (by omega) (by omega)
            · refine g_C ?_
              refine g_if (fun w10 => ?_) (fun w10 => ?_)
              · refine u_X11_isTurned ?_
                refine g_if (fun w11 => ?_) (fun w11 => ?_)
                · refine g_C ?_
                  refine ⟨by omega, ?_⟩
                  refine g_ifT (by omega) ?_
                  refine g_C ?_
                  exact hk (-3) m0 hm0 (by omega) (by omega)
                · refine g_C ?_
                  refine g_if (fun w12 => ?_) (fun w12 => ?_)
                  · refine g_C ?_
                    refine ⟨by omega, ?_⟩
                    refine g_ifT (by omega) ?_
                    refine g_C ?_
                    exact hk (-3) m0 hm0 (by omega) (by omega)
                  · refine g_C ?_
                    refine ⟨by omega, ?_⟩
                    refine g_ifF (by omega) ?_
                    refine u_X11_isTurned ?_
                    refine g_if (fun w13 => ?_) (fun w13 => ?_)
                    · refine g_C ?_
                      refine ⟨by omega, ?_⟩
                      refine g_ifT (by omega) ?_
                      refine g_C ?_
                      exact hk (-3) m0 hm0 (by omega) (by omega)
                    · refine g_C ?_
                      refine g_if (fun w14 => ?_) (fun w14 => ?_)
                      · refine g_C ?_
                        refine ⟨by omega, ?_⟩
                        refine g_ifT (by omega) ?_
                        refine g_C ?_
                        exact hk (-3) m0 hm0 (by omega) (by omega)
                      · refine g_C ?_
                        refine ⟨by omega, ?_⟩
                        refine g_ifF (by omega) ?_
                        refine g_if (fun w15 => ?_) (fun w15 => ?_)
                        · refine g_getr 1 3 rfl hS.k0 hm0.f_0_1 (by decide) ?_
                          refine g_getr 1 16 rfl hS.k3 hm0.f_3_1 (by decide) ?_
                          refine g_getr 5 20 rfl hS.k16 hm0.f_16_5 (by decide) ?_
                          refine g_ld (-1) (5) hS.k20 hS.l20 (by omega) (by omega) (hm0.a_20 (by omega) (by omega)) (fun v16 ev16 bv16 cv16 => ?_)
                          have qv16 : v16 = v4 := ev16.trans ev4.symm
                          refine g_getr 1 3 rfl hS.k0 hm0.f_0_1 (by decide) ?_
                          refine g_getr 0 4 rfl hS.k3 hm0.f_3_0 (by decide) ?_
                          refine ⟨hS.k4, ?_⟩
                          refine u_X8_hasWay ?_
                          refine g_getr 9 6 rfl hS.k4 hm0.f_4_9 (by decide) ?_
                          refine u_X8_pair ?_
                          refine g_C ?_
                          refine g_M (by omega) (by omega) ?_
                          refine g_A (by omega) (by omega) ?_
                          refine g_ld (0) (1000) hS.k6 hS.l6 (by omega) (by omega) (hm0.a_6 (by omega) (by omega)) (fun v17 ev17 bv17 cv17 => ?_)
                          refine g_C ?_
                          refine g_if (fun w18 => ?_) (fun w18 => ?_)
                          · refine g_C ?_
                            refine ⟨by omega, ?_⟩
                            refine g_ifT (by omega) ?_
                            refine g_C ?_
                            exact hk (-2) m0 hm0 (by omega) (by omega)
                          · refine g_C ?_
                            refine ⟨by omega, ?_⟩
                            refine g_ifF (by omega) ?_
                            refine g_if (fun w19 => ?_) (fun w19 => ?_)
                            · refine u_X11_relay_107 ?_
                              refine g_getr 12 58 rfl hS.k0 hm0.f_0_12 (by decide) ?_
                              refine g_getr 1 3 rfl hS.k0 hm0.f_0_1 (by decide) ?_
                              refine g_getr 1 16 rfl hS.k3 hm0.f_3_1 (by decide) ?_
                              refine g_get 0 (0) (999) rfl hS.k16 hm0.f_16_0 (fun v20 ev20 bv20 cv20 => ?_)
                              refine ⟨hS.k58, ?_⟩
                              refine z_X2_setOut hS hm0 (by omega) (by omega) (by omega) (by omega) (by omega) (by omega) (by omega) (by omega) (fun m21 hm21 => ?_)
                              refine g_getr 12 58 rfl hS.k0 hm21.f_0_12 (by decide) ?_
                              refine g_getr 1 3 rfl hS.k0 hm21.f_0_1 (by decide) ?_
                              refine g_getr 1 16 rfl hS.k3 hm21.f_3_1 (by decide) ?_
                              refine g_getr 7 22 rfl hS.k16 hm21.f_16_7 (by decide) ?_
                              refine g_ld (0) (999) hS.k22 hS.l22 (by omega) (by omega) (hm21.a_22 (by omega) (by omega)) (fun v22 ev22 bv22 cv22 => ?_)
                              refine ⟨hS.k58, ?_⟩
                              refine u_X2_solve ?_
                              refine g_put 8 rfl hS.k58 (hm21.w_58_8 (by omega) (by omega)) (fun m23 em23 hm23 => ?_)
                              refine g_put 9 rfl hS.k58 (hm23.w_58_9 (by omega) (by omega)) (fun m24 em24 hm24 => ?_)
                              refine g_put 10 rfl hS.k58 (hm24.w_58_10 (by omega) (by omega)) (fun m25 em25 hm25 => ?_)
                              refine g_getr 4 61 rfl hS.k58 hm25.f_58_4 (by decide) ?_
                              refine g_C ?_
                              refine g_get 6 (0) (5) rfl hS.k58 hm25.f_58_6 (fun v26 ev26 bv26 cv26 => ?_)
                              refine g_C ?_
                              refine g_A (by omega) (by omega) ?_
                              refine g_C ?_
                              refine g_M (by omega) (by omega) ?_
                              refine g_C ?_
                              refine s_fill2 hm25 hS.k61 hS.l61 (by decide) (by omega) (by omega) (by omega) (fun M i h0 h1 h2 => h0.wa_61 h1 h2 (by omega) (by omega)) (fun m27 hm27 => ?_)
                              refine g_C ?_
                              refine ⟨hS.k58, ?_⟩
                              refine z_X2_visit_d5 hS hm27 (by omega) (by omega) (by omega) (by omega) (fun m28 hm28 => ?_)
                              refine g_if (fun w29 => ?_) (fun w29 => ?_)
                              · refine g_getr 12 58 rfl hS.k0 hm28.f_0_12 (by decide) ?_
                                refine ⟨hS.k58, ?_⟩
                                refine u_X2_howMany ?_
                                refine g_getr 4 61 rfl hS.k58 hm28.f_58_4 (by decide) ?_
                                refine g_get 8 (0) (999) rfl hS.k58 hm28.f_58_8 (fun v30 ev30 bv30 cv30 => ?_)
                                refine g_ld (-2147483648) (2147483647) hS.k61 hS.l61 (by omega) (by omega) (hm28.a_61 (by omega) (by omega)) (fun v31 ev31 bv31 cv31 => ?_)
                                exact hk v31 m28 hm28 (by omega) (by omega)
                              · refine g_if (fun w32 => ?_) (fun w32 => ?_)
                                · refine g_getr 12 58 rfl hS.k0 hm28.f_0_12 (by decide) ?_
                                  refine ⟨hS.k58, ?_⟩
                                  refine u_X2_leastTurned ?_
                                  refine g_getr 5 62 rfl hS.k58 hm28.f_58_5 (by decide) ?_
                                  refine g_get 8 (0) (999) rfl hS.k58 hm28.f_58_8 (fun v33 ev33 bv33 cv33 => ?_)
                                  refine g_ld (-2147483648) (2147483647) hS.k62 hS.l62 (by omega) (by omega) (hm28.a_62 (by omega) (by omega)) (fun v34 ev34 bv34 cv34 => ?_)
                                  exact hk v34 m28 hm28 (by omega) (by omega)
                                · refine g_getr 12 58 rfl hS.k0 hm28.f_0_12 (by decide) ?_
                                  refine g_C ?_
                                  refine g_S (by omega) (by omega) ?_
                                  refine ⟨hS.k58, ?_⟩
                                  refine z_X2_handOfFirst hS hm28 (by omega) (by omega) (fun v35 m36 hm36 bv35 cv35 => ?_)
                                  exact hk v35 m36 hm36 (by omega) (by omega)
                            · refine g_getr 1 3 rfl hS.k0 hm0.f_0_1 (by decide) ?_
                              refine g_getr 0 4 rfl hS.k3 hm0.f_3_0 (by decide) ?_
                              refine g_get 4 (0) (5) rfl hS.k4 hm0.f_4_4 (fun v37 ev37 bv37 cv37 => ?_)
                              refine g_if (fun w38 => ?_) (fun w38 => ?_)
                              · refine u_X11_relay_107 ?_
                                refine g_getr 12 58 rfl hS.k0 hm0.f_0_12 (by decide) ?_
                                refine g_getr 1 3 rfl hS.k0 hm0.f_0_1 (by decide) ?_
                                refine g_getr 1 16 rfl hS.k3 hm0.f_3_1 (by decide) ?_
                                refine g_get 0 (0) (999) rfl hS.k16 hm0.f_16_0 (fun v39 ev39 bv39 cv39 => ?_)
                                refine ⟨hS.k58, ?_⟩
                                refine z_X2_setOut hS hm0 (by omega) (by omega) (by omega) (by omega) (by omega) (by omega) (by omega) (by omega) (fun m40 hm40 => ?_)
                                refine g_getr 12 58 rfl hS.k0 hm40.f_0_12 (by decide) ?_
                                refine g_getr 1 3 rfl hS.k0 hm40.f_0_1 (by decide) ?_
                                refine g_getr 1 16 rfl hS.k3 hm40.f_3_1 (by decide) ?_
                                refine g_getr 7 22 rfl hS.k16 hm40.f_16_7 (by decide) ?_
                                refine g_ld (0) (999) hS.k22 hS.l22 (by omega) (by omega) (hm40.a_22 (by omega) (by omega)) (fun v41 ev41 bv41 cv41 => ?_)
                                refine ⟨hS.k58, ?_⟩
                                refine u_X2_solve ?_
                                refine g_put 8 rfl hS.k58 (hm40.w_58_8 (by omega) (by omega)) (fun m42 em42 hm42 => ?_)
                                refine g_put 9 rfl hS.k58 (hm42.w_58_9 (by omega) (by omega)) (fun m43 em43 hm43 => ?_)
                                refine g_put 10 rfl hS.k58 (hm43.w_58_10 (by omega) (by omega)) (fun m44 em44 hm44 => ?_)
                                refine g_getr 4 61 rfl hS.k58 hm44.f_58_4 (by decide) ?_
                                refine g_C ?_
                                refine g_get 6 (0) (5) rfl hS.k58 hm44.f_58_6 (fun v45 ev45 bv45 cv45 => ?_)
                                refine g_C ?_
                                refine g_A (by omega) (by omega) ?_
                                refine g_C ?_
                                refine g_M (by omega) (by omega) ?_
                                refine g_C ?_
                                refine s_fill2 hm44 hS.k61 hS.l61 (by decide) (by omega) (by omega) (by omega) (fun M i h0 h1 h2 => h0.wa_61 h1 h2 (by omega) (by omega)) (fun m46 hm46 => ?_)
                                refine g_C ?_
                                refine ⟨hS.k58, ?_⟩
                                refine z_X2_visit_d5 hS hm46 (by omega) (by omega) (by omega) (by omega) (fun m47 hm47 => ?_)
                                refine g_if (fun w48 => ?_) (fun w48 => ?_)
                                · refine g_getr 12 58 rfl hS.k0 hm47.f_0_12 (by decide) ?_
                                  refine ⟨hS.k58, ?_⟩
                                  refine u_X2_howMany ?_
                                  refine g_getr 4 61 rfl hS.k58 hm47.f_58_4 (by decide) ?_
                                  refine g_get 8 (0) (999) rfl hS.k58 hm47.f_58_8 (fun v49 ev49 bv49 cv49 => ?_)
                                  refine g_ld (-2147483648) (2147483647) hS.k61 hS.l61 (by omega) (by omega) (hm47.a_61 (by omega) (by omega)) (fun v50 ev50 bv50 cv50 => ?_)
                                  exact hk v50 m47 hm47 (by omega) (by omega)
                                · refine g_if (fun w51 => ?_) (fun w51 => ?_)
                                  · refine g_getr 12 58 rfl hS.k0 hm47.f_0_12 (by decide) ?_
                                    refine ⟨hS.k58, ?_⟩
                                    refine u_X2_leastTurned ?_
                                    refine g_getr 5 62 rfl hS.k58 hm47.f_58_5 (by decide) ?_
                                    refine g_get 8 (0) (999) rfl hS.k58 hm47.f_58_8 (fun v52 ev52 bv52 cv52 => ?_)
                                    refine g_ld (-2147483648) (2147483647) hS.k62 hS.l62 (by omega) (by omega) (hm47.a_62 (by omega) (by omega)) (fun v53 ev53 bv53 cv53 => ?_)
                                    exact hk v53 m47 hm47 (by omega) (by omega)
                                  · refine g_getr 12 58 rfl hS.k0 hm47.f_0_12 (by decide) ?_
                                    refine g_C ?_
                                    refine g_S (by omega) (by omega) ?_
                                    refine ⟨hS.k58, ?_⟩
                                    refine z_X2_handOfFirst hS hm47 (by omega) (by omega) (fun v54 m55 hm55 bv54 cv54 => ?_)
                                    exact hk v54 m55 hm55 (by omega) (by omega)
                              · refine g_C ?_
                                exact hk (-2) m0 hm0 (by omega) (by omega)
                        · refine g_C ?_
                          exact hk (-3) m0 hm0 (by omega) (by omega)
              · refine g_C ?_
                exact hk (-3) m0 hm0 (by omega) (by omega)
theorem z_X9_turnedByTurns {X : Mm} {S : Sh} {m0 : Mm} {K : Int → Mm → Prop} {u1 u2 u3 : Int} (hS : Shp S) (hm0 : Inv X S m0) (l_u1 : 0 ≤ u1) (h_u1 : u1 ≤ 4) (l_u2 : 1 ≤ u2) (h_u2 : u2 ≤ 10) (l_u3 : 0 ≤ u3) (h_u3 : u3 ≤ 1023) (hk : ∀ (r : Int) (M1 : Mm), Inv X S M1 → 0 ≤ r → r ≤ 999 → K r M1) : wp_X9_turnedByTurns S m0 66 u1 u2 u3 K := by
  refine u_X9_turnedByTurns ?_
  refine g_getr 1 55 rfl hS.k66 hm0.f_66_1 (by decide) ?_
  refine g_C ?_
  refine g_C ?_
  refine g_getr 0 3 rfl hS.k66 hm0.f_66_0 (by decide) ?_
  refine g_getr 1 16 rfl hS.k3 hm0.f_3_1 (by decide) ?_
  refine g_get 0 (0) (999) rfl hS.k16 hm0.f_16_0 (fun v1 ev1 bv1 cv1 => ?_)
  refine ⟨hS.k55, ?_⟩
  refine u_X10_suppose ?_
  refine g_put 4 rfl hS.k55 (hm0.w_55_4 (by omega) (by omega)) (fun m2 em2 hm2 => ?_)
  refine g_put 5 rfl hS.k55 (hm2.w_55_5 (by omega) (by omega)) (fun m3 em3 hm3 => ?_)
  refine g_put 6 rfl hS.k55 (hm3.w_55_6 (by omega) (by omega)) (fun m4 em4 hm4 => ?_)
  refine g_C ?_
  refine g_put 7 rfl hS.k55 (hm4.w_55_7 (by omega) (by omega)) (fun m5 em5 hm5 => ?_)
  refine g_put 8 rfl hS.k55 (hm5.w_55_8 (by omega) (by omega)) (fun m6 em6 hm6 => ?_)
  refine g_C ?_
  refine g_put 10 rfl hS.k55 (hm6.w_55_10 (by omega) (by omega)) (fun m7 em7 hm7 => ?_)
  refine g_C ?_
  refine g_put 11 rfl hS.k55 (hm7.w_55_11 (by omega) (by omega)) (fun m8 em8 hm8 => ?_)
  refine g_getr 1 55 rfl hS.k66 hm8.f_66_1 (by decide) ?_
  refine g_getr 0 3 rfl hS.k66 hm8.f_66_0 (by decide) ?_
  refine g_getr 1 16 rfl hS.k3 hm8.f_3_1 (by decide) ?_
  refine g_getr 4 19 rfl hS.k16 hm8.f_16_4 (by decide) ?_
  refine g_ld (0) (99) hS.k19 hS.l19 (by omega) (by omega) (hm8.a_19 (by omega) (by omega)) (fun v9 ev9 bv9 cv9 => ?_)
  refine g_put 7 rfl hS.k55 (hm8.w_55_7 (by omega) (by omega)) (fun m10 em10 hm10 => ?_)
  refine g_C ?_
  have L_n_l301 : ∀ (n_l301 : Nat) (u15 : Int) (m16 : Mm), Inv X S m16 → 0 ≤ u15 → u15 ≤ 10 → 11 - u15 ≤ (n_l301 : Int) → wp_X9_turnedByTurns_42 S K n_l301 66 u1 u2 u3 u15 m16 := by
    intro n_l301
    induction n_l301 with
    | zero => intro u15 m16 hm16 bu15 cu15 zn_l301; exfalso; omega
    | succ n_l301 ih_n_l301 =>
      intro u15 m16 hm16 bu15 cu15 zn_l301
      refine u_X9_turnedByTurns_42 ?_
      refine g_if (fun w302 => ?_) (fun w302 => ?_)
      · refine g_getr 1 55 rfl hS.k66 hm16.f_66_1 (by decide) ?_
        refine g_get 6 (0) (999) rfl hS.k55 hm16.f_55_6 (fun v303 ev303 bv303 cv303 => ?_)
        exact hk v303 m16 hm16 (by omega) (by omega)
      · refine g_getr 1 55 rfl hS.k66 hm16.f_66_1 (by decide) ?_
        refine g_getr 0 3 rfl hS.k66 hm16.f_66_0 (by decide) ?_
        refine g_getr 1 16 rfl hS.k3 hm16.f_3_1 (by decide) ?_
        refine g_getr 3 18 rfl hS.k16 hm16.f_16_3 (by decide) ?_
        refine g_ld (0) (5) hS.k18 hS.l18 (by omega) (by omega) (hm16.a_18 (by omega) (by omega)) (fun v304 ev304 bv304 cv304 => ?_)
        refine g_if (fun w305 => ?_) (fun w305 => ?_)
        · refine g_C ?_
          refine u_X9_turnedByTurns_74 ?_
          refine g_put 10 rfl hS.k55 (hm16.w_55_10 (by omega) (by omega)) (fun m306 em306 hm306 => ?_)
          refine g_iShr (by omega) (by omega) (fun v307 bv307 cv307 => ?_)
          refine g_C ?_
          refine g_iAndR (by omega) (by omega) (fun v308 dv308 bv308 cv308 => ?_)
          refine g_C ?_
          refine g_if (fun w309 => ?_) (fun w309 => ?_)
          · refine g_getr 1 55 rfl hS.k66 hm306.f_66_1 (by decide) ?_
            refine ⟨hS.k55, ?_⟩
            refine u_X10_restAnHour ?_
            refine g_C ?_
            refine g_get 7 (0) (99) rfl hS.k55 hm306.f_55_7 (fun v310 ev310 bv310 cv310 => ?_)
            refine g_C ?_
            refine g_S (by omega) (by omega) ?_
            refine g_max (fun v311 bv311 cv311 dv311 => ?_)
            refine g_put 7 rfl hS.k55 (hm306.w_55_7 (by omega) (by omega)) (fun m312 em312 hm312 => ?_)
            refine g_C ?_
            refine g_get 8 (0) (999) rfl hS.k55 hm312.f_55_8 (fun v313 ev313 bv313 cv313 => ?_)
            refine g_C ?_
            refine g_A (by omega) (by omega) ?_
            refine g_min (fun v314 bv314 cv314 dv314 => ?_)
            refine g_put 8 rfl hS.k55 (hm312.w_55_8 (by omega) (by omega)) (fun m315 em315 hm315 => ?_)
            refine u_X9_turnedByTurns_105 ?_
            refine g_A (by omega) (by omega) ?_
            exact ih_n_l301 (u15 + 1) m315 hm315 (by omega) (by omega) (by omega)
          · refine g_getr 1 55 rfl hS.k66 hm306.f_66_1 (by decide) ?_
            refine g_C ?_
            refine ⟨hS.k55, ?_⟩
            refine z_X10_holdFor hS hm306 (by omega) (by omega) (fun m316 hm316 => ?_)
            refine u_X9_turnedByTurns_105 ?_
            refine g_A (by omega) (by omega) ?_
            exact ih_n_l301 (u15 + 1) m316 hm316 (by omega) (by omega) (by omega)
        · refine g_C ?_
          refine u_X9_turnedByTurns_74 ?_
          refine g_put 10 rfl hS.k55 (hm16.w_55_10 (by omega) (by omega)) (fun m317 em317 hm317 => ?_)
          refine g_iShr (by omega) (by omega) (fun v318 bv318 cv318 => ?_)
          refine g_C ?_
          refine g_iAndR (by omega) (by omega) (fun v319 dv319 bv319 cv319 => ?_)
          refine g_C ?_
          refine g_if (fun w320 => ?_) (fun w320 => ?_)
          · refine g_getr 1 55 rfl hS.k66 hm317.f_66_1 (by decide) ?_
            refine ⟨hS.k55, ?_⟩
            refine u_X10_restAnHour ?_
            refine g_C ?_
            refine g_get 7 (0) (99) rfl hS.k55 hm317.f_55_7 (fun v321 ev321 bv321 cv321 => ?_)
            refine g_C ?_
            refine g_S (by omega) (by omega) ?_
            refine g_max (fun v322 bv322 cv322 dv322 => ?_)
            refine g_put 7 rfl hS.k55 (hm317.w_55_7 (by omega) (by omega)) (fun m323 em323 hm323 => ?_)
            refine g_C ?_
            refine g_get 8 (0) (999) rfl hS.k55 hm323.f_55_8 (fun v324 ev324 bv324 cv324 => ?_)
            refine g_C ?_
            refine g_A (by omega) (by omega) ?_
            refine g_min (fun v325 bv325 cv325 dv325 => ?_)
            refine g_put 8 rfl hS.k55 (hm323.w_55_8 (by omega) (by omega)) (fun m326 em326 hm326 => ?_)
            refine u_X9_turnedByTurns_105 ?_
            refine g_A (by omega) (by omega) ?_
            exact ih_n_l301 (u15 + 1) m326 hm326 (by omega) (by omega) (by omega)
          · refine g_getr 1 55 rfl hS.k66 hm317.f_66_1 (by decide) ?_
            refine g_C ?_
            refine ⟨hS.k55, ?_⟩
            refine z_X10_holdFor hS hm317 (by omega) (by omega) (fun m327 hm327 => ?_)
            refine u_X9_turnedByTurns_105 ?_
            refine g_A (by omega) (by omega) ?_
            exact ih_n_l301 (u15 + 1) m327 hm327 (by omega) (by omega) (by omega)
  exact ⟨11, L_n_l301 11 0 m10 hm10 (by omega) (by omega) (by omega)⟩
end
section
theorem z_X11_rest {X : Mm} {S : Sh} {m0 : Mm} {K : Int → Mm → Prop} {u1 u2 u3 u4 : Int} (hS : Shp S) (hm0 : Inv X S m0) (l_u1 : (-2147483648) ≤ u1) (h_u1 : u1 ≤ 2147483647) (l_u2 : (-2147483648) ≤ u2) (h_u2 : u2 ≤ 2147483647) (l_u3 : (-2147483648) ≤ u3) (h_u3 : u3 ≤ 2147483647) (l_u4 : (-2147483648) ≤ u4) (h_u4 : u4 ≤ 2147483647) (hk : ∀ (r : Int) (M1 : Mm), Inv X S M1 → (-1) ≤ r → r ≤ 2147483647 → K r M1) : wp_X11_rest S m0 0 u1 u2 u3 u4 K := by
  refine u_X11_rest ?_
  refine ⟨hS.k0, ?_⟩
  refine u_X11_isHand ?_
  refine g_if (fun w1 => ?_) (fun w1 => ?_)
  · refine g_C ?_
    refine ⟨by omega, ?_⟩
    refine g_ifT (by omega) ?_
    refine g_C ?_
    exact hk (-1) m0 hm0 (by omega) (by omega)
  · refine g_getr 1 3 rfl hS.k0 hm0.f_0_1 (by decide) ?_
    refine g_getr 0 4 rfl hS.k3 hm0.f_3_0 (by decide) ?_
    refine g_get 4 (0) (5) rfl hS.k4 hm0.f_4_4 (fun v2 ev2 bv2 cv2 => ?_)
    refine g_if (fun w3 => ?_) (fun w3 => ?_)
    · refine g_C ?_
      refine ⟨by omega, ?_⟩
      refine g_ifT (by omega) ?_
      refine g_C ?_
      exact hk (-1) m0 hm0 (by omega) (by omega)
    · refine g_C ?_
      refine ⟨by omega, ?_⟩
      refine g_ifF (by omega) ?_
      refine g_C ?_
      refine g_if (fun w4 => ?_) (fun w4 => ?_)
      · refine g_C ?_
        exact hk (-1) m0 hm0 (by omega) (by omega)
      · refine g_C ?_
        refine g_if (fun w5 => ?_) (fun w5 => ?_)
        · refine g_C ?_
          exact hk (-1) m0 hm0 (by omega) (by omega)
        · refine g_if (fun w6 => ?_) (fun w6 => ?_)
          · refine g_C ?_
            exact hk (-1) m0 hm0 (by omega) (by omega)
          · refine g_if (fun w7 => ?_) (fun w7 => ?_)
            · refine g_C ?_
              exact hk (-1) m0 hm0 (by omega) (by omega)
            · refine g_if (fun w8 => ?_) (fun w8 => ?_)
              · refine g_C ?_
                exact hk (-1) m0 hm0 (by omega) (by omega)
              · refine g_C ?_
                refine g_if (fun w9 => ?_) (fun w9 => ?_)
                · refine g_C ?_
                  refine g_C ?_
                  refine g_C ?_
                  have L_n_l192 : ∀ (n_l192 : Nat) (u15 : Int) (u16 : Int) (u17 : Int) (m18 : Mm), Inv X S m18 → 0 ≤ u15 → u15 ≤ 6000 → 0 ≤ u16 → u16 ≤ 2147483647 → 0 ≤ u17 → u17 ≤ 1024 → 1025 - u17 ≤ (n_l192 : Int) → wp_X11_rest_52 S K n_l192 0 u1 u2 u3 u4 u15 u16 u17 m18 := by
                    intro n_l192
                    induction n_l192 with
                    | zero => intro u15 u16 u17 m18 hm18 bu15 cu15 bu16 cu16 bu17 cu17 zn_l192; exfalso; omega
                    | succ n_l192 ih_n_l192 =>
                      intro u15 u16 u17 m18 hm18 bu15 cu15 bu16 cu16 bu17 cu17 zn_l192
                      refine u_X11_rest_52 ?_
                      refine g_C ?_
                      refine g_iShl 10 (by omega) (by omega) (by decide) (fun v193 bv193 cv193 => ?_)
                      refine g_if (fun w194 => ?_) (fun w194 => ?_)
                      · refine g_if (fun w195 => ?_) (fun w195 => ?_)
                        · exact hk u16 m18 hm18 (by omega) (by omega)
                        · exact hk u15 m18 hm18 (by omega) (by omega)
                      · refine z_J6_bitCount_0f7a4 hS hm18 (by omega) (by omega) (fun v196 bv196 cv196 => ?_)
                        refine g_if (fun w197 => ?_) (fun w197 => ?_)
                        · refine u_X11_rest_97 ?_
                          refine g_A (by omega) (by omega) ?_
                          exact ih_n_l192 u15 u16 (u17 + 1) m18 hm18 (by omega) (by omega) (by omega) (by omega) (by omega) (by omega) (by omega)
                        · refine g_getr 14 66 rfl hS.k0 hm18.f_0_14 (by decide) ?_
                          refine ⟨hS.k66, ?_⟩
                          refine z_X9_turnedByTurns hS hm18 (by omega) (by omega) (by omega) (by omega) (by omega) (by omega) (fun v198 m199 hm199 bv198 cv198 => ?_)
                          refine g_if (fun w200 => ?_) (fun w200 => ?_)
                          · refine u_X11_rest_97 ?_
                            refine g_A (by omega) (by omega) ?_
                            exact ih_n_l192 u15 u16 (u17 + 1) m199 hm199 (by omega) (by omega) (by omega) (by omega) (by omega) (by omega) (by omega)
                          · refine u_X11_rest_97 ?_
                            refine g_A (by omega) (by omega) ?_
                            exact ih_n_l192 u17 v198 (u17 + 1) m199 hm199 (by omega) (by omega) (by omega) (by omega) (by omega) (by omega) (by omega)
                  exact ⟨1025, L_n_l192 1025 0 2147483647 0 m0 hm0 (by omega) (by omega) (by omega) (by omega) (by omega) (by omega) (by omega)⟩
                · refine g_C ?_
                  exact hk (-1) m0 hm0 (by omega) (by omega)
end
