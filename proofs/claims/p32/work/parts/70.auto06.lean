section
theorem z_X2_visit_d1 {X : Mm} {S : Sh} {m0 : Mm} {K : Mm → Prop} {u1 u2 : Int} (hS : Shp S) (hm0 : Inv X S m0) (l_u1 : 4 ≤ u1) (h_u1 : u1 ≤ 4) (l_u2 : 0 ≤ u2) (h_u2 : u2 ≤ 999) (hk : ∀ (M1 : Mm), Inv X S M1 → K M1) : wp_X2_visit_d1 S m0 58 u1 u2 K := by
  refine u_X2_visit_d1 ?_
  refine g_C ?_
  refine g_M (by omega) (by omega) ?_
  refine g_A (by omega) (by omega) ?_
  refine g_C ?_
  refine g_ifF (by omega) ?_
  refine g_getr 4 61 rfl hS.k58 hm0.f_58_4 (by decide) ?_
  refine g_ld (-2147483648) (2147483647) hS.k61 hS.l61 (by omega) (by omega) (hm0.a_61 (by omega) (by omega)) (fun v1 ev1 bv1 cv1 => ?_)
  refine g_C ?_
  refine g_if (fun w2 => ?_) (fun w2 => ?_)
  · refine g_get 6 (0) (5) rfl hS.k58 hm0.f_58_6 (fun v3 ev3 bv3 cv3 => ?_)
    refine g_if (fun w4 => ?_) (fun w4 => ?_)
    · refine g_C ?_
      refine g_C ?_
      refine g_C ?_
      have L_n_l78 : ∀ (n_l78 : Nat) (u9 : Int) (u10 : Int) (u11 : Int) (m12 : Mm), Inv X S m12 → (-2147483648) ≤ u9 → u9 ≤ 2147483647 → (-2147483648) ≤ u10 → u10 ≤ 999 → 0 ≤ u11 → u11 ≤ 5 → 6 - u11 ≤ (n_l78 : Int) → wp_X2_visit_d1_78 S K n_l78 58 u1 u2 ((u1 * 1000) + u2) u9 u10 u11 m12 := by
        intro n_l78
        induction n_l78 with
        | zero => intro u9 u10 u11 m12 hm12 bu9 cu9 bu10 cu10 bu11 cu11 zn_l78; exfalso; omega
        | succ n_l78 ih_n_l78 =>
          intro u9 u10 u11 m12 hm12 bu9 cu9 bu10 cu10 bu11 cu11 zn_l78
          refine u_X2_visit_d1_78 ?_
          refine g_getr 1 4 rfl hS.k58 hm12.f_58_1 (by decide) ?_
          refine g_get 4 (0) (5) rfl hS.k4 hm12.f_4_4 (fun v79 ev79 bv79 cv79 => ?_)
          refine g_if (fun w80 => ?_) (fun w80 => ?_)
          · refine g_getr 4 61 rfl hS.k58 hm12.f_58_4 (by decide) ?_
            refine g_st hS.k61 hS.l61 (by omega) (by omega) (hm12.wa_61 (by omega) (by omega) (by omega) (by omega)) (fun m81 em81 hm81 => ?_)
            refine g_getr 5 62 rfl hS.k58 hm81.f_58_5 (by decide) ?_
            refine g_st hS.k62 hS.l62 (by omega) (by omega) (hm81.wa_62 (by omega) (by omega) (by omega) (by omega)) (fun m82 em82 hm82 => ?_)
            exact hk m82 hm82
          · refine ⟨hS.k58, ?_⟩
            refine z_X2_carried hS hm12 (by omega) (by omega) (by omega) (by omega) (by omega) (by omega) (fun v83 m84 hm84 bv83 cv83 => ?_)
            refine g_C ?_
            refine g_A (by omega) (by omega) ?_
            refine ⟨hS.k58, ?_⟩
            refine z_X2_visit_d0 hS hm84 (by omega) (by omega) (by omega) (by omega) (fun m85 hm85 => ?_)
            refine g_getr 4 61 rfl hS.k58 hm85.f_58_4 (by decide) ?_
            refine g_C ?_
            refine g_A (by omega) (by omega) ?_
            refine g_C ?_
            refine g_M (by omega) (by omega) ?_
            refine g_A (by omega) (by omega) ?_
            refine g_ld (-2147483648) (2147483647) hS.k61 hS.l61 (by omega) (by omega) (hm85.a_61 (by omega) (by omega)) (fun v86 ev86 bv86 cv86 => ?_)
            refine g_Aw (fun v87 bv87 cv87 => ?_)
            refine g_getr 5 62 rfl hS.k58 hm85.f_58_5 (by decide) ?_
            refine g_C ?_
            refine g_A (by omega) (by omega) ?_
            refine g_C ?_
            refine g_M (by omega) (by omega) ?_
            refine g_A (by omega) (by omega) ?_
            refine g_ld (-2147483648) (2147483647) hS.k62 hS.l62 (by omega) (by omega) (hm85.a_62 (by omega) (by omega)) (fun v88 ev88 bv88 cv88 => ?_)
            refine g_min (fun v89 bv89 cv89 dv89 => ?_)
            refine g_A (by omega) (by omega) ?_
            exact ih_n_l78 v87 v89 (u11 + 1) m85 hm85 (by omega) (by omega) (by omega) (by omega) (by omega) (by omega) (by omega)
      exact ⟨6, L_n_l78 6 0 999 0 m0 hm0 (by omega) (by omega) (by omega) (by omega) (by omega) (by omega) (by omega)⟩
    · refine g_getr 4 61 rfl hS.k58 hm0.f_58_4 (by decide) ?_
      refine g_get 9 (-2147483648) (2147483647) rfl hS.k58 hm0.f_58_9 (fun v90 ev90 bv90 cv90 => ?_)
      refine g_if (fun w91 => ?_) (fun w91 => ?_)
      · refine u_X2_visit_d1_57 ?_
        refine g_C ?_
        refine u_X2_visit_d1_58 ?_
        refine g_st hS.k61 hS.l61 (by omega) (by omega) (hm0.wa_61 (by omega) (by omega) (by omega) (by omega)) (fun m92 em92 hm92 => ?_)
        refine g_getr 5 62 rfl hS.k58 hm92.f_58_5 (by decide) ?_
        refine g_st hS.k62 hS.l62 (by omega) (by omega) (hm92.wa_62 (by omega) (by omega) (by omega) (by omega)) (fun m93 em93 hm93 => ?_)
        exact hk m93 hm93
      · refine g_get 10 (-2147483648) (2147483647) rfl hS.k58 hm0.f_58_10 (fun v94 ev94 bv94 cv94 => ?_)
        refine g_if (fun w95 => ?_) (fun w95 => ?_)
        · refine u_X2_visit_d1_57 ?_
          refine g_C ?_
          refine u_X2_visit_d1_58 ?_
          refine g_st hS.k61 hS.l61 (by omega) (by omega) (hm0.wa_61 (by omega) (by omega) (by omega) (by omega)) (fun m96 em96 hm96 => ?_)
          refine g_getr 5 62 rfl hS.k58 hm96.f_58_5 (by decide) ?_
          refine g_st hS.k62 hS.l62 (by omega) (by omega) (hm96.wa_62 (by omega) (by omega) (by omega) (by omega)) (fun m97 em97 hm97 => ?_)
          exact hk m97 hm97
        · refine g_C ?_
          refine u_X2_visit_d1_58 ?_
          refine g_st hS.k61 hS.l61 (by omega) (by omega) (hm0.wa_61 (by omega) (by omega) (by omega) (by omega)) (fun m98 em98 hm98 => ?_)
          refine g_getr 5 62 rfl hS.k58 hm98.f_58_5 (by decide) ?_
          refine g_st hS.k62 hS.l62 (by omega) (by omega) (hm98.wa_62 (by omega) (by omega) (by omega) (by omega)) (fun m99 em99 hm99 => ?_)
          exact hk m99 hm99
  · exact hk m0 hm0
theorem z_X2_visit_d2 {X : Mm} {S : Sh} {m0 : Mm} {K : Mm → Prop} {u1 u2 : Int} (hS : Shp S) (hm0 : Inv X S m0) (l_u1 : 3 ≤ u1) (h_u1 : u1 ≤ 3) (l_u2 : 0 ≤ u2) (h_u2 : u2 ≤ 999) (hk : ∀ (M1 : Mm), Inv X S M1 → K M1) : wp_X2_visit_d2 S m0 58 u1 u2 K := by
  refine u_X2_visit_d2 ?_
  refine g_C ?_
  refine g_M (by omega) (by omega) ?_
  refine g_A (by omega) (by omega) ?_
  refine g_C ?_
  refine g_ifF (by omega) ?_
  refine g_getr 4 61 rfl hS.k58 hm0.f_58_4 (by decide) ?_
  refine g_ld (-2147483648) (2147483647) hS.k61 hS.l61 (by omega) (by omega) (hm0.a_61 (by omega) (by omega)) (fun v1 ev1 bv1 cv1 => ?_)
  refine g_C ?_
  refine g_if (fun w2 => ?_) (fun w2 => ?_)
  · refine g_get 6 (0) (5) rfl hS.k58 hm0.f_58_6 (fun v3 ev3 bv3 cv3 => ?_)
    refine g_if (fun w4 => ?_) (fun w4 => ?_)
    · refine g_C ?_
      refine g_C ?_
      refine g_C ?_
      have L_n_l78 : ∀ (n_l78 : Nat) (u9 : Int) (u10 : Int) (u11 : Int) (m12 : Mm), Inv X S m12 → (-2147483648) ≤ u9 → u9 ≤ 2147483647 → (-2147483648) ≤ u10 → u10 ≤ 999 → 0 ≤ u11 → u11 ≤ 5 → 6 - u11 ≤ (n_l78 : Int) → wp_X2_visit_d2_78 S K n_l78 58 u1 u2 ((u1 * 1000) + u2) u9 u10 u11 m12 := by
        intro n_l78
        induction n_l78 with
        | zero => intro u9 u10 u11 m12 hm12 bu9 cu9 bu10 cu10 bu11 cu11 zn_l78; exfalso; omega
        | succ n_l78 ih_n_l78 =>
          intro u9 u10 u11 m12 hm12 bu9 cu9 bu10 cu10 bu11 cu11 zn_l78
          refine u_X2_visit_d2_78 ?_
          refine g_getr 1 4 rfl hS.k58 hm12.f_58_1 (by decide) ?_
          refine g_get 4 (0) (5) rfl hS.k4 hm12.f_4_4 (fun v79 ev79 bv79 cv79 => ?_)
          refine g_if (fun w80 => ?_) (fun w80 => ?_)
          · refine g_getr 4 61 rfl hS.k58 hm12.f_58_4 (by decide) ?_
            refine g_st hS.k61 hS.l61 (by omega) (by omega) (hm12.wa_61 (by omega) (by omega) (by omega) (by omega)) (fun m81 em81 hm81 => ?_)
            refine g_getr 5 62 rfl hS.k58 hm81.f_58_5 (by decide) ?_
            refine g_st hS.k62 hS.l62 (by omega) (by omega) (hm81.wa_62 (by omega) (by omega) (by omega) (by omega)) (fun m82 em82 hm82 => ?_)
            exact hk m82 hm82
          · refine ⟨hS.k58, ?_⟩
            refine z_X2_carried hS hm12 (by omega) (by omega) (by omega) (by omega) (by omega) (by omega) (fun v83 m84 hm84 bv83 cv83 => ?_)
            refine g_C ?_
            refine g_A (by omega) (by omega) ?_
            refine ⟨hS.k58, ?_⟩
            refine z_X2_visit_d1 hS hm84 (by omega) (by omega) (by omega) (by omega) (fun m85 hm85 => ?_)
            refine g_getr 4 61 rfl hS.k58 hm85.f_58_4 (by decide) ?_
            refine g_C ?_
            refine g_A (by omega) (by omega) ?_
            refine g_C ?_
            refine g_M (by omega) (by omega) ?_
            refine g_A (by omega) (by omega) ?_
            refine g_ld (-2147483648) (2147483647) hS.k61 hS.l61 (by omega) (by omega) (hm85.a_61 (by omega) (by omega)) (fun v86 ev86 bv86 cv86 => ?_)
            refine g_Aw (fun v87 bv87 cv87 => ?_)
            refine g_getr 5 62 rfl hS.k58 hm85.f_58_5 (by decide) ?_
            refine g_C ?_
            refine g_A (by omega) (by omega) ?_
            refine g_C ?_
            refine g_M (by omega) (by omega) ?_
            refine g_A (by omega) (by omega) ?_
            refine g_ld (-2147483648) (2147483647) hS.k62 hS.l62 (by omega) (by omega) (hm85.a_62 (by omega) (by omega)) (fun v88 ev88 bv88 cv88 => ?_)
            refine g_min (fun v89 bv89 cv89 dv89 => ?_)
            refine g_A (by omega) (by omega) ?_
            exact ih_n_l78 v87 v89 (u11 + 1) m85 hm85 (by omega) (by omega) (by omega) (by omega) (by omega) (by omega) (by omega)
      exact ⟨6, L_n_l78 6 0 999 0 m0 hm0 (by omega) (by omega) (by omega) (by omega) (by omega) (by omega) (by omega)⟩
    · refine g_getr 4 61 rfl hS.k58 hm0.f_58_4 (by decide) ?_
      refine g_get 9 (-2147483648) (2147483647) rfl hS.k58 hm0.f_58_9 (fun v90 ev90 bv90 cv90 => ?_)
      refine g_if (fun w91 => ?_) (fun w91 => ?_)
      · refine u_X2_visit_d2_57 ?_
        refine g_C ?_
        refine u_X2_visit_d2_58 ?_
        refine g_st hS.k61 hS.l61 (by omega) (by omega) (hm0.wa_61 (by omega) (by omega) (by omega) (by omega)) (fun m92 em92 hm92 => ?_)
        refine g_getr 5 62 rfl hS.k58 hm92.f_58_5 (by decide) ?_
        refine g_st hS.k62 hS.l62 (by omega) (by omega) (hm92.wa_62 (by omega) (by omega) (by omega) (by omega)) (fun m93 em93 hm93 => ?_)
        exact hk m93 hm93
      · refine g_get 10 (-2147483648) (2147483647) rfl hS.k58 hm0.f_58_10 (fun v94 ev94 bv94 cv94 => ?_)
        refine g_if (fun w95 => ?_) (fun w95 => ?_)
        · refine u_X2_visit_d2_57 ?_
          refine g_C ?_
          refine u_X2_visit_d2_58 ?_
          refine g_st hS.k61 hS.l61 (by omega) (by omega) (hm0.wa_61 (by omega) (by omega) (by omega) (by omega)) (fun m96 em96 hm96 => ?_)
          refine g_getr 5 62 rfl hS.k58 hm96.f_58_5 (by decide) ?_
          refine g_st hS.k62 hS.l62 (by omega) (by omega) (hm96.wa_62 (by omega) (by omega) (by omega) (by omega)) (fun m97 em97 hm97 => ?_)
          exact hk m97 hm97
        · refine g_C ?_
          refine u_X2_visit_d2_58 ?_
          refine g_st hS.k61 hS.l61 (by omega) (by omega) (hm0.wa_61 (by omega) (by omega) (by omega) (by omega)) (fun m98 em98 hm98 => ?_)
          refine g_getr 5 62 rfl hS.k58 hm98.f_58_5 (by decide) ?_
          refine g_st hS.k62 hS.l62 (by omega) (by omega) (hm98.wa_62 (by omega) (by omega) (by omega) (by omega)) (fun m99 em99 hm99 => ?_)
          exact hk m99 hm99
  · exact hk m0 hm0
theorem z_X2_visit_d3 {X : Mm} {S : Sh} {m0 : Mm} {K : Mm → Prop} {u1 u2 : Int} (hS : Shp S) (hm0 : Inv X S m0) (l_u1 : 2 ≤ u1) (h_u1 : u1 ≤ 2) (l_u2 : 0 ≤ u2) (h_u2 : u2 ≤ 999) (hk : ∀ (M1 : Mm), Inv X S M1 → K M1) : wp_X2_visit_d3 S m0 58 u1 u2 K := by
  refine u_X2_visit_d3 ?_
  refine g_C ?_
  refine g_M (by omega) (by omega) ?_
  refine g_A (by omega) (by omega) ?_
  refine g_C ?_
  refine g_ifF (by omega) ?_
  refine g_getr 4 61 rfl hS.k58 hm0.f_58_4 (by decide) ?_
  refine g_ld (-2147483648) (2147483647) hS.k61 hS.l61 (by omega) (by omega) (hm0.a_61 (by omega) (by omega)) (fun v1 ev1 bv1 cv1 => ?_)
  refine g_C ?_
  refine g_if (fun w2 => ?_) (fun w2 => ?_)
  · refine g_get 6 (0) (5) rfl hS.k58 hm0.f_58_6 (fun v3 ev3 bv3 cv3 => ?_)
    refine g_if (fun w4 => ?_) (fun w4 => ?_)
    · refine g_C ?_
      refine g_C ?_
      refine g_C ?_
      have L_n_l78 : ∀ (n_l78 : Nat) (u9 : Int) (u10 : Int) (u11 : Int) (m12 : Mm), Inv X S m12 → (-2147483648) ≤ u9 → u9 ≤ 2147483647 → (-2147483648) ≤ u10 → u10 ≤ 999 → 0 ≤ u11 → u11 ≤ 5 → 6 - u11 ≤ (n_l78 : Int) → wp_X2_visit_d3_78 S K n_l78 58 u1 u2 ((u1 * 1000) + u2) u9 u10 u11 m12 := by
        intro n_l78
        induction n_l78 with
        | zero => intro u9 u10 u11 m12 hm12 bu9 cu9 bu10 cu10 bu11 cu11 zn_l78; exfalso; omega
        | succ n_l78 ih_n_l78 =>
          intro u9 u10 u11 m12 hm12 bu9 cu9 bu10 cu10 bu11 cu11 zn_l78
          refine u_X2_visit_d3_78 ?_
          refine g_getr 1 4 rfl hS.k58 hm12.f_58_1 (by decide) ?_
          refine g_get 4 (0) (5) rfl hS.k4 hm12.f_4_4 (fun v79 ev79 bv79 cv79 => ?_)
          refine g_if (fun w80 => ?_) (fun w80 => ?_)
          · refine g_getr 4 61 rfl hS.k58 hm12.f_58_4 (by decide) ?_
            refine g_st hS.k61 hS.l61 (by omega) (by omega) (hm12.wa_61 (by omega) (by omega) (by omega) (by omega)) (fun m81 em81 hm81 => ?_)
            refine g_getr 5 62 rfl hS.k58 hm81.f_58_5 (by decide) ?_
            refine g_st hS.k62 hS.l62 (by omega) (by omega) (hm81.wa_62 (by omega) (by omega) (by omega) (by omega)) (fun m82 em82 hm82 => ?_)
            exact hk m82 hm82
          · refine ⟨hS.k58, ?_⟩
            refine z_X2_carried hS hm12 (by omega) (by omega) (by omega) (by omega) (by omega) (by omega) (fun v83 m84 hm84 bv83 cv83 => ?_)
            refine g_C ?_
            refine g_A (by omega) (by omega) ?_
            refine ⟨hS.k58, ?_⟩
            refine z_X2_visit_d2 hS hm84 (by omega) (by omega) (by omega) (by omega) (fun m85 hm85 => ?_)
            refine g_getr 4 61 rfl hS.k58 hm85.f_58_4 (by decide) ?_
            refine g_C ?_
            refine g_A (by omega) (by omega) ?_
            refine g_C ?_
            refine g_M (by omega) (by omega) ?_
            refine g_A (by omega) (by omega) ?_
            refine g_ld (-2147483648) (2147483647) hS.k61 hS.l61 (by omega) (by omega) (hm85.a_61 (by omega) (by omega)) (fun v86 ev86 bv86 cv86 => ?_)
            refine g_Aw (fun v87 bv87 cv87 => ?_)
            refine g_getr 5 62 rfl hS.k58 hm85.f_58_5 (by decide) ?_
            refine g_C ?_
            refine g_A (by omega) (by omega) ?_
            refine g_C ?_
            refine g_M (by omega) (by omega) ?_
            refine g_A (by omega) (by omega) ?_
            refine g_ld (-2147483648) (2147483647) hS.k62 hS.l62 (by omega) (by omega) (hm85.a_62 (by omega) (by omega)) (fun v88 ev88 bv88 cv88 => ?_)
            refine g_min (fun v89 bv89 cv89 dv89 => ?_)
            refine g_A (by omega) (by omega) ?_
            exact ih_n_l78 v87 v89 (u11 + 1) m85 hm85 (by omega) (by omega) (by omega) (by omega) (by omega) (by omega) (by omega)
      exact ⟨6, L_n_l78 6 0 999 0 m0 hm0 (by omega) (by omega) (by omega) (by omega) (by omega) (by omega) (by omega)⟩
    · refine g_getr 4 61 rfl hS.k58 hm0.f_58_4 (by decide) ?_
      refine g_get 9 (-2147483648) (2147483647) rfl hS.k58 hm0.f_58_9 (fun v90 ev90 bv90 cv90 => ?_)
      refine g_if (fun w91 => ?_) (fun w91 => ?_)
      · refine u_X2_visit_d3_57 ?_
        refine g_C ?_
        refine u_X2_visit_d3_58 ?_
        refine g_st hS.k61 hS.l61 (by omega) (by omega) (hm0.wa_61 (by omega) (by omega) (by omega) (by omega)) (fun m92 em92 hm92 => ?_)
        refine g_getr 5 62 rfl hS.k58 hm92.f_58_5 (by decide) ?_
        refine g_st hS.k62 hS.l62 (by omega) (by omega) (hm92.wa_62 (by omega) (by omega) (by omega) (by omega)) (fun m93 em93 hm93 => ?_)
        exact hk m93 hm93
      · refine g_get 10 (-2147483648) (2147483647) rfl hS.k58 hm0.f_58_10 (fun v94 ev94 bv94 cv94 => ?_)
        refine g_if (fun w95 => ?_) (fun w95 => ?_)
        · refine u_X2_visit_d3_57 ?_
          refine g_C ?_
          refine u_X2_visit_d3_58 ?_
          refine g_st hS.k61 hS.l61 (by omega) (by omega) (hm0.wa_61 (by omega) (by omega) (by omega) (by omega)) (fun m96 em96 hm96 => ?_)
          refine g_getr 5 62 rfl hS.k58 hm96.f_58_5 (by decide) ?_
          refine g_st hS.k62 hS.l62 (by omega) (by omega) (hm96.wa_62 (by omega) (by omega) (by omega) (by omega)) (fun m97 em97 hm97 => ?_)
          exact hk m97 hm97
        · refine g_C ?_
          refine u_X2_visit_d3_58 ?_
          refine g_st hS.k61 hS.l61 (by omega) (by omega) (hm0.wa_61 (by omega) (by omega) (by omega) (by omega)) (fun m98 em98 hm98 => ?_)
          refine g_getr 5 62 rfl hS.k58 hm98.f_58_5 (by decide) ?_
          refine g_st hS.k62 hS.l62 (by omega) (by omega) (hm98.wa_62 (by omega) (by omega) (by omega) (by omega)) (fun m99 em99 hm99 => ?_)
          exact hk m99 hm99
  · exact hk m0 hm0
theorem z_X2_visit_d4 {X : Mm} {S : Sh} {m0 : Mm} {K : Mm → Prop} {u1 u2 : Int} (hS : Shp S) (hm0 : Inv X S m0) (l_u1 : 1 ≤ u1) (h_u1 : u1 ≤ 1) (l_u2 : 0 ≤ u2) (h_u2 : u2 ≤ 999) (hk : ∀ (M1 : Mm), Inv X S M1 → K M1) : wp_X2_visit_d4 S m0 58 u1 u2 K := by
  refine u_X2_visit_d4 ?_
  refine g_C ?_
  refine g_M (by omega) (by omega) ?_
  refine g_A (by omega) (by omega) ?_
  refine g_C ?_
  refine g_ifF (by omega) ?_
  refine g_getr 4 61 rfl hS.k58 hm0.f_58_4 (by decide) ?_
  refine g_ld (-2147483648) (2147483647) hS.k61 hS.l61 (by omega) (by omega) (hm0.a_61 (by omega) (by omega)) (fun v1 ev1 bv1 cv1 => ?_)
  refine g_C ?_
  refine g_if (fun w2 => ?_) (fun w2 => ?_)
  · refine g_get 6 (0) (5) rfl hS.k58 hm0.f_58_6 (fun v3 ev3 bv3 cv3 => ?_)
    refine g_if (fun w4 => ?_) (fun w4 => ?_)
    · refine g_C ?_
      refine g_C ?_
      refine g_C ?_
      have L_n_l78 : ∀ (n_l78 : Nat) (u9 : Int) (u10 : Int) (u11 : Int) (m12 : Mm), Inv X S m12 → (-2147483648) ≤ u9 → u9 ≤ 2147483647 → (-2147483648) ≤ u10 → u10 ≤ 999 → 0 ≤ u11 → u11 ≤ 5 → 6 - u11 ≤ (n_l78 : Int) → wp_X2_visit_d4_78 S K n_l78 58 u1 u2 ((u1 * 1000) + u2) u9 u10 u11 m12 := by
        intro n_l78
        induction n_l78 with
        | zero => intro u9 u10 u11 m12 hm12 bu9 cu9 bu10 cu10 bu11 cu11 zn_l78; exfalso; omega
        | succ n_l78 ih_n_l78 =>
          intro u9 u10 u11 m12 hm12 bu9 cu9 bu10 cu10 bu11 cu11 zn_l78
          refine u_X2_visit_d4_78 ?_
          refine g_getr 1 4 rfl hS.k58 hm12.f_58_1 (by decide) ?_
          refine g_get 4 (0) (5) rfl hS.k4 hm12.f_4_4 (fun v79 ev79 bv79 cv79 => ?_)
          refine g_if (fun w80 => ?_) (fun w80 => ?_)
          · refine g_getr 4 61 rfl hS.k58 hm12.f_58_4 (by decide) ?_
            refine g_st hS.k61 hS.l61 (by omega) (by omega) (hm12.wa_61 (by omega) (by omega) (by omega) (by omega)) (fun m81 em81 hm81 => ?_)
            refine g_getr 5 62 rfl hS.k58 hm81.f_58_5 (by decide) ?_
            refine g_st hS.k62 hS.l62 (by omega) (by omega) (hm81.wa_62 (by omega) (by omega) (by omega) (by omega)) (fun m82 em82 hm82 => ?_)
            exact hk m82 hm82
          · refine ⟨hS.k58, ?_⟩
            refine z_X2_carried hS hm12 (by omega) (by omega) (by omega) (by omega) (by omega) (by omega) (fun v83 m84 hm84 bv83 cv83 => ?_)
            refine g_C ?_
            refine g_A (by omega) (by omega) ?_
            refine ⟨hS.k58, ?_⟩
            refine z_X2_visit_d3 hS hm84 (by omega) (by omega) (by omega) (by omega) (fun m85 hm85 => ?_)
            refine g_getr 4 61 rfl hS.k58 hm85.f_58_4 (by decide) ?_
            refine g_C ?_
            refine g_A (by omega) (by omega) ?_
            refine g_C ?_
            refine g_M (by omega) (by omega) ?_
            refine g_A (by omega) (by omega) ?_
            refine g_ld (-2147483648) (2147483647) hS.k61 hS.l61 (by omega) (by omega) (hm85.a_61 (by omega) (by omega)) (fun v86 ev86 bv86 cv86 => ?_)
            refine g_Aw (fun v87 bv87 cv87 => ?_)
            refine g_getr 5 62 rfl hS.k58 hm85.f_58_5 (by decide) ?_
            refine g_C ?_
            refine g_A (by omega) (by omega) ?_
            refine g_C ?_
            refine g_M (by omega) (by omega) ?_
            refine g_A (by omega) (by omega) ?_
            refine g_ld (-2147483648) (2147483647) hS.k62 hS.l62 (by omega) (by omega) (hm85.a_62 (by omega) (by omega)) (fun v88 ev88 bv88 cv88 => ?_)
            refine g_min (fun v89 bv89 cv89 dv89 => ?_)
            refine g_A (by omega) (by omega) ?_
            exact ih_n_l78 v87 v89 (u11 + 1) m85 hm85 (by omega) (by omega) (by omega) (by omega) (by omega) (by omega) (by omega)
      exact ⟨6, L_n_l78 6 0 999 0 m0 hm0 (by omega) (by omega) (by omega) (by omega) (by omega) (by omega) (by omega)⟩
    · refine g_getr 4 61 rfl hS.k58 hm0.f_58_4 (by decide) ?_
      refine g_get 9 (-2147483648) (2147483647) rfl hS.k58 hm0.f_58_9 (fun v90 ev90 bv90 cv90 => ?_)
      refine g_if (fun w91 => ?_) (fun w91 => ?_)
      · refine u_X2_visit_d4_57 ?_
        refine g_C ?_
        refine u_X2_visit_d4_58 ?_
        refine g_st hS.k61 hS.l61 (by omega) (by omega) (hm0.wa_61 (by omega) (by omega) (by omega) (by omega)) (fun m92 em92 hm92 => ?_)
        refine g_getr 5 62 rfl hS.k58 hm92.f_58_5 (by decide) ?_
        refine g_st hS.k62 hS.l62 (by omega) (by omega) (hm92.wa_62 (by omega) (by omega) (by omega) (by omega)) (fun m93 em93 hm93 => ?_)
        exact hk m93 hm93
      · refine g_get 10 (-2147483648) (2147483647) rfl hS.k58 hm0.f_58_10 (fun v94 ev94 bv94 cv94 => ?_)
        refine g_if (fun w95 => ?_) (fun w95 => ?_)
        · refine u_X2_visit_d4_57 ?_
          refine g_C ?_
          refine u_X2_visit_d4_58 ?_
          refine g_st hS.k61 hS.l61 (by omega) (by omega) (hm0.wa_61 (by omega) (by omega) (by omega) (by omega)) (fun m96 em96 hm96 => ?_)
          refine g_getr 5 62 rfl hS.k58 hm96.f_58_5 (by decide) ?_
          refine g_st hS.k62 hS.l62 (by omega) (by omega) (hm96.wa_62 (by omega) (by omega) (by omega) (by omega)) (fun m97 em97 hm97 => ?_)
          exact hk m97 hm97
        · refine g_C ?_
          refine u_X2_visit_d4_58 ?_
          refine g_st hS.k61 hS.l61 (by omega) (by omega) (hm0.wa_61 (by omega) (by omega) (by omega) (by omega)) (fun m98 em98 hm98 => ?_)
          refine g_getr 5 62 rfl hS.k58 hm98.f_58_5 (by decide) ?_
          refine g_st hS.k62 hS.l62 (by omega) (by omega) (hm98.wa_62 (by omega) (by omega) (by omega) (by omega)) (fun m99 em99 hm99 => ?_)
          exact hk m99 hm99
  · exact hk m0 hm0
theorem z_X2_visit_d5 {X : Mm} {S : Sh} {m0 : Mm} {K : Mm → Prop} {u1 u2 : Int} (hS : Shp S) (hm0 : Inv X S m0) (l_u1 : 0 ≤ u1) (h_u1 : u1 ≤ 0) (l_u2 : 0 ≤ u2) (h_u2 : u2 ≤ 999) (hk : ∀ (M1 : Mm), Inv X S M1 → K M1) : wp_X2_visit_d5 S m0 58 u1 u2 K := by
  refine u_X2_visit_d5 ?_
  refine g_C ?_
  refine g_M (by omega) (by omega) ?_
  refine g_A (by omega) (by omega) ?_
  refine g_C ?_
  refine g_ifF (by omega) ?_
  refine g_getr 4 61 rfl hS.k58 hm0.f_58_4 (by decide) ?_
  refine g_ld (-2147483648) (2147483647) hS.k61 hS.l61 (by omega) (by omega) (hm0.a_61 (by omega) (by omega)) (fun v1 ev1 bv1 cv1 => ?_)
  refine g_C ?_
  refine g_if (fun w2 => ?_) (fun w2 => ?_)
  · refine g_get 6 (0) (5) rfl hS.k58 hm0.f_58_6 (fun v3 ev3 bv3 cv3 => ?_)
    refine g_if (fun w4 => ?_) (fun w4 => ?_)
    · refine g_C ?_
      refine g_C ?_
      refine g_C ?_
      have L_n_l78 : ∀ (n_l78 : Nat) (u9 : Int) (u10 : Int) (u11 : Int) (m12 : Mm), Inv X S m12 → (-2147483648) ≤ u9 → u9 ≤ 2147483647 → (-2147483648) ≤ u10 → u10 ≤ 999 → 0 ≤ u11 → u11 ≤ 5 → 6 - u11 ≤ (n_l78 : Int) → wp_X2_visit_d5_78 S K n_l78 58 u1 u2 ((u1 * 1000) + u2) u9 u10 u11 m12 := by
        intro n_l78
        induction n_l78 with
        | zero => intro u9 u10 u11 m12 hm12 bu9 cu9 bu10 cu10 bu11 cu11 zn_l78; exfalso; omega
        | succ n_l78 ih_n_l78 =>
          intro u9 u10 u11 m12 hm12 bu9 cu9 bu10 cu10 bu11 cu11 zn_l78
          refine u_X2_visit_d5_78 ?_
          refine g_getr 1 4 rfl hS.k58 hm12.f_58_1 (by decide) ?_
          refine g_get 4 (0) (5) rfl hS.k4 hm12.f_4_4 (fun v79 ev79 bv79 cv79 => ?_)
          refine g_if (fun w80 => ?_) (fun w80 => ?_)
          · refine g_getr 4 61 rfl hS.k58 hm12.f_58_4 (by decide) ?_
            refine g_st hS.k61 hS.l61 (by omega) (by omega) (hm12.wa_61 (by omega) (by omega) (by omega) (by omega)) (fun m81 em81 hm81 => ?_)
            refine g_getr 5 62 rfl hS.k58 hm81.f_58_5 (by decide) ?_
            refine g_st hS.k62 hS.l62 (by omega) (by omega) (hm81.wa_62 (by omega) (by omega) (by omega) (by omega)) (fun m82 em82 hm82 => ?_)
            exact hk m82 hm82
          · refine ⟨hS.k58, ?_⟩
            refine z_X2_carried hS hm12 (by omega) (by omega) (by omega) (by omega) (by omega) (by omega) (fun v83 m84 hm84 bv83 cv83 => ?_)
            refine g_C ?_
            refine g_A (by omega) (by omega) ?_
            refine ⟨hS.k58, ?_⟩
            refine z_X2_visit_d4 hS hm84 (by omega) (by omega) (by omega) (by omega) (fun m85 hm85 => ?_)
            refine g_getr 4 61 rfl hS.k58 hm85.f_58_4 (by decide) ?_
            refine g_C ?_
            refine g_A (by omega) (by omega) ?_
            refine g_C ?_
            refine g_M (by omega) (by omega) ?_
            refine g_A (by omega) (by omega) ?_
            refine g_ld (-2147483648) (2147483647) hS.k61 hS.l61 (by omega) (by omega) (hm85.a_61 (by omega) (by omega)) (fun v86 ev86 bv86 cv86 => ?_)
            refine g_Aw (fun v87 bv87 cv87 => ?_)
            refine g_getr 5 62 rfl hS.k58 hm85.f_58_5 (by decide) ?_
            refine g_C ?_
            refine g_A (by omega) (by omega) ?_
            refine g_C ?_
            refine g_M (by omega) (by omega) ?_
            refine g_A (by omega) (by omega) ?_
            refine g_ld (-2147483648) (2147483647) hS.k62 hS.l62 (by omega) (by omega) (hm85.a_62 (by omega) (by omega)) (fun v88 ev88 bv88 cv88 => ?_)
            refine g_min (fun v89 bv89 cv89 dv89 => ?_)
            refine g_A (by omega) (by omega) ?_
            exact ih_n_l78 v87 v89 (u11 + 1) m85 hm85 (by omega) (by omega) (by omega) (by omega) (by omega) (by omega) (by omega)
      exact ⟨6, L_n_l78 6 0 999 0 m0 hm0 (by omega) (by omega) (by omega) (by omega) (by omega) (by omega) (by omega)⟩
    · refine g_getr 4 61 rfl hS.k58 hm0.f_58_4 (by decide) ?_
      refine g_get 9 (-2147483648) (2147483647) rfl hS.k58 hm0.f_58_9 (fun v90 ev90 bv90 cv90 => ?_)
      refine g_if (fun w91 => ?_) (fun w91 => ?_)
      · refine u_X2_visit_d5_57 ?_
        refine g_C ?_
        refine u_X2_visit_d5_58 ?_
        refine g_st hS.k61 hS.l61 (by omega) (by omega) (hm0.wa_61 (by omega) (by omega) (by omega) (by omega)) (fun m92 em92 hm92 => ?_)
        refine g_getr 5 62 rfl hS.k58 hm92.f_58_5 (by decide) ?_
        refine g_st hS.k62 hS.l62 (by omega) (by omega) (hm92.wa_62 (by omega) (by omega) (by omega) (by omega)) (fun m93 em93 hm93 => ?_)
        exact hk m93 hm93
      · refine g_get 10 (-2147483648) (2147483647) rfl hS.k58 hm0.f_58_10 (fun v94 ev94 bv94 cv94 => ?_)
        refine g_if (fun w95 => ?_) (fun w95 => ?_)
        · refine u_X2_visit_d5_57 ?_
          refine g_C ?_
          refine u_X2_visit_d5_58 ?_
          refine g_st hS.k61 hS.l61 (by omega) (by omega) (hm0.wa_61 (by omega) (by omega) (by omega) (by omega)) (fun m96 em96 hm96 => ?_)
          refine g_getr 5 62 rfl hS.k58 hm96.f_58_5 (by decide) ?_
          refine g_st hS.k62 hS.l62 (by omega) (by omega) (hm96.wa_62 (by omega) (by omega) (by omega) (by omega)) (fun m97 em97 hm97 => ?_)
          exact hk m97 hm97
        · refine g_C ?_
          refine u_X2_visit_d5_58 ?_
          refine g_st hS.k61 hS.l61 (by omega) (by omega) (hm0.wa_61 (by omega) (by omega) (by omega) (by omega)) (fun m98 em98 hm98 => ?_)
          refine g_getr 5 62 rfl hS.k58 hm98.f_58_5 (by decide) ?_
          refine g_st hS.k62 hS.l62 (by omega) (by omega) (hm98.wa_62 (by omega) (by omega) (by omega) (by omega)) (fun m99 em99 hm99 => ?_)
          exact hk m99 hm99
  · exact hk m0 hm0
theorem z_X11_relay {X : Mm} {S : Sh} {m0 : Mm} {K : Int → Mm → Prop} {u1 u2 u3 u4 u5 : Int} (hS : Shp S) (hm0 : Inv X S m0) (l_u1 : (-2147483648) ≤ u1) (h_u1 : u1 ≤ 2147483647) (l_u2 : (-2147483648) ≤ u2) (h_u2 : u2 ≤ 2147483647) (l_u3 : (-2147483648) ≤ u3) (h_u3 : u3 ≤ 2147483647) (l_u4 : (-2147483648) ≤ u4) (h_u4 : u4 ≤ 2147483647) (l_u5 : (-2147483648) ≤ u5) (h_u5 : u5 ≤ 2147483647) (hk : ∀ (r : Int) (M1 : Mm), Inv X S M1 → (-2147483648) ≤ r → r ≤ 2147483647 → K r M1) : wp_X11_relay S m0 0 u1 u2 u3 u4 u5 K := by
  refine u_X11_relay ?_
  refine ⟨hS.k0, ?_⟩
  refine u_X11_isStandingJug ?_
  refine ⟨hS.k0, ?_⟩
  refine u_X11_isJug ?_
  refine g_if (fun w1 => ?_) (fun w1 => ?_)
  · refine g_C ?_
    refine ⟨by omega, ?_⟩
    refine g_ifT (by omega) ?_
    refine g_C ?_
    refine ⟨by omega, ?_⟩
    refine g_ifT (by omega) ?_
    refine g_C ?_
    exact hk (-3) m0 hm0 (by omega) (by omega)
  · refine g_getr 1 3 rfl hS.k0 hm0.f_0_1 (by decide) ?_
    refine g_getr 0 4 rfl hS.k3 hm0.f_3_0 (by decide) ?_
    refine g_get 5 (0) (4) rfl hS.k4 hm0.f_4_5 (fun v2 ev2 bv2 cv2 => ?_)
    refine g_if (fun w3 => ?_) (fun w3 => ?_)
    · refine g_C ?_
      refine ⟨by omega, ?_⟩
      refine g_ifT (by omega) ?_
      refine g_C ?_
      refine ⟨by omega, ?_⟩
      refine g_ifT (by omega) ?_
      refine g_C ?_
      exact hk (-3) m0 hm0 (by omega) (by omega)
    · refine g_C ?_
      refine ⟨by omega, ?_⟩
      refine g_ifF (by omega) ?_
      refine g_getr 1 3 rfl hS.k0 hm0.f_0_1 (by decide) ?_
      refine g_getr 1 16 rfl hS.k3 hm0.f_3_1 (by decide) ?_
      refine ⟨hS.k16, ?_⟩
      refine u_X5_stands ?_
      refine g_getr 5 20 rfl hS.k16 hm0.f_16_5 (by decide) ?_
      refine g_ld (-1) (5) hS.k20 hS.l20 (by omega) (by omega) (hm0.a_20 (by omega) (by omega)) (fun v4 ev4 bv4 cv4 => ?_)
      refine g_C ?_
      refine g_if (fun w5 => ?_) (fun w5 => ?_)
      · refine g_C ?_
        refine ⟨by omega, ?_⟩
        refine g_ifT (by omega) ?_
        refine g_C ?_
        refine ⟨by omega, ?_⟩
        refine g_ifT (by omega) ?_
        refine g_C ?_
        exact hk (-3) m0 hm0 (by omega) (by omega)
      · refine g_C ?_
        refine ⟨by omega, ?_⟩
        refine g_ifF (by omega) ?_
        refine g_C ?_
        refine ⟨by omega, ?_⟩
        refine g_ifF (by omega) ?_
        refine ⟨hS.k0, ?_⟩
        refine u_X11_isPlace ?_
        refine g_if (fun w6 => ?_) (fun w6 => ?_)
        · refine g_C ?_
          refine ⟨by omega, ?_⟩
          refine g_ifT (by omega) ?_
          refine g_C ?_
          exact hk (-3) m0 hm0 (by omega) (by omega)
        · refine g_getr 1 3 rfl hS.k0 hm0.f_0_1 (by decide) ?_
          refine g_getr 0 4 rfl hS.k3 hm0.f_3_0 (by decide) ?_
          refine g_get 0 (0) (6) rfl hS.k4 hm0.f_4_0 (fun v7 ev7 bv7 cv7 => ?_)
          refine g_if (fun w8 => ?_) (fun w8 => ?_)
          · refine g_C ?_
            refine ⟨by omega, ?_⟩
            refine g_ifT (by omega) ?_
            refine g_C ?_
            exact hk (-3) m0 hm0 (by omega) (by omega)
          · refine g_C ?_
            refine ⟨by omega, ?_⟩
            refine g_ifF (by omega) ?_
            refine g_if (fun w9 => ?_) (fun w9 => ?_)
            · refine g_C ?_
              exact hk (-3) m0 hm0 (by omega) (by omega)
            · refine g_C ?_
              refine g_if (fun w10 => ?_) (fun w10 => ?_)
              · refine u_X11_isTurned ?_
                refine g_if (fun w11 => ?_) (fun w11 => ?_)
                · refine g_C ?_
                  refine ⟨by omega, ?_⟩
                  refine g_ifT (by omega) ?_
                  refine g_C ?_
                  exact hk (-3) m0 hm0 (by omega) (by omega)
                · refine g_C ?_
                  refine g_if (fun w12 => ?_) (fun w12 => ?_)
                  · refine g_C ?_
                    refine ⟨by omega, ?_⟩
                    refine g_ifT (by omega) ?_
                    refine g_C ?_
                    exact hk (-3) m0 hm0 (by omega) (by omega)
                  · refine g_C ?_
                    refine ⟨by omega, ?_⟩
                    refine g_ifF (by omega) ?_
                    refine u_X11_isTurned ?_
                    refine g_if (fun w13 => ?_) (fun w13 => ?_)
                    · refine g_C ?_
                      refine ⟨by omega, ?_⟩
                      refine g_ifT (by omega) ?_
                      refine g_C ?_
                      exact hk (-3) m0 hm0 (by omega) (by omega)
                    · refine g_C ?_
                      refine g_if (fun w14 => ?_) (fun w14 => ?_)
                      · refine g_C ?_
                        refine ⟨by omega, ?_⟩
                        refine g_ifT (by omega) ?_
                        refine g_C ?_
                        exact hk (-3) m0 hm0 (by omega) (by omega)
                      · refine g_C ?_
                        refine ⟨by omega, ?_⟩
                        refine g_ifF (by omega) ?_
                        refine g_if (fun w15 => ?_) (fun w15 => ?_)
                        · refine g_getr 1 3 rfl hS.k0 hm0.f_0_1 (by decide) ?_
                          refine g_getr 1 16 rfl hS.k3 hm0.f_3_1 (by decide) ?_
                          refine g_getr 5 20 rfl hS.k16 hm0.f_16_5 (by decide) ?_
                          refine g_ld (-1) (5) hS.k20 hS.l20 (by omega) (by omega) (hm0.a_20 (by omega) (by omega)) (fun v16 ev16 bv16 cv16 => ?_)
                          have qv16 : v16 = v4 := ev16.trans ev4.symm
                          refine g_getr 1 3 rfl hS.k0 hm0.f_0_1 (by decide) ?_
                          refine g_getr 0 4 rfl hS.k3 hm0.f_3_0 (by decide) ?_
                          refine ⟨hS.k4, ?_⟩
                          refine u_X8_hasWay ?_
                          refine g_getr 9 6 rfl hS.k4 hm0.f_4_9 (by decide) ?_
                          refine u_X8_pair ?_
                          refine g_C ?_
                          refine g_M (by omega) (by omega) ?_
                          refine g_A (by omega) (by omega) ?_
                          refine g_ld (0) (1000) hS.k6 hS.l6 (by omega) (by omega) (hm0.a_6 (by omega) (by omega)) (fun v17 ev17 bv17 cv17 => ?_)
                          refine g_C ?_
                          refine g_if (fun w18 => ?_) (fun w18 => ?_)
                          · refine g_C ?_
                            refine ⟨by omega, ?_⟩
                            refine g_ifT (by omega) ?_
                            refine g_C ?_
                            exact hk (-2) m0 hm0 (by omega) (by omega)
                          · refine g_C ?_
                            refine ⟨by omega, ?_⟩
                            refine g_ifF (by omega) ?_
                            refine g_if (fun w19 => ?_) (fun w19 => ?_)
                            · refine u_X11_relay_107 ?_
                              refine g_getr 12 58 rfl hS.k0 hm0.f_0_12 (by decide) ?_
                              refine g_getr 1 3 rfl hS.k0 hm0.f_0_1 (by decide) ?_
                              refine g_getr 1 16 rfl hS.k3 hm0.f_3_1 (by decide) ?_
                              refine g_get 0 (0) (999) rfl hS.k16 hm0.f_16_0 (fun v20 ev20 bv20 cv20 => ?_)
                              refine ⟨hS.k58, ?_⟩
                              refine z_X2_setOut hS hm0 (by omega) (by omega) (by omega) (by omega) (by omega) (by omega) (by omega) (by omega) (fun m21 hm21 => ?_)
                              refine g_getr 12 58 rfl hS.k0 hm21.f_0_12 (by decide) ?_
                              refine g_getr 1 3 rfl hS.k0 hm21.f_0_1 (by decide) ?_
                              refine g_getr 1 16 rfl hS.k3 hm21.f_3_1 (by decide) ?_
                              refine g_getr 7 22 rfl hS.k16 hm21.f_16_7 (by decide) ?_
                              refine g_ld (0) (999) hS.k22 hS.l22 (by omega) (by omega) (hm21.a_22 (by omega) (by omega)) (fun v22 ev22 bv22 cv22 => ?_)
                              refine ⟨hS.k58, ?_⟩
                              refine u_X2_solve ?_
                              refine g_put 8 rfl hS.k58 (hm21.w_58_8 (by omega) (by omega)) (fun m23 em23 hm23 => ?_)
                              refine g_put 9 rfl hS.k58 (hm23.w_58_9 (by omega) (by omega)) (fun m24 em24 hm24 => ?_)
                              refine g_put 10 rfl hS.k58 (hm24.w_58_10 (by omega) (by omega)) (fun m25 em25 hm25 => ?_)
                              refine g_getr 4 61 rfl hS.k58 hm25.f_58_4 (by decide) ?_
                              refine g_C ?_
                              refine g_get 6 (0) (5) rfl hS.k58 hm25.f_58_6 (fun v26 ev26 bv26 cv26 => ?_)
                              refine g_C ?_
                              refine g_A (by omega) (by omega) ?_
                              refine g_C ?_
                              refine g_M (by omega) (by omega) ?_
                              refine g_C ?_
                              refine s_fill2 hm25 hS.k61 hS.l61 (by decide) (by omega) (by omega) (by omega) (fun M i h0 h1 h2 => h0.wa_61 h1 h2 (by omega) (by omega)) (fun m27 hm27 => ?_)
                              refine g_C ?_
                              refine ⟨hS.k58, ?_⟩
                              refine z_X2_visit_d5 hS hm27 (by omega) (by omega) (by omega) (by omega) (fun m28 hm28 => ?_)
                              refine g_if (fun w29 => ?_) (fun w29 => ?_)
                              · refine g_getr 12 58 rfl hS.k0 hm28.f_0_12 (by decide) ?_
                                refine ⟨hS.k58, ?_⟩
                                refine u_X2_howMany ?_
                                refine g_getr 4 61 rfl hS.k58 hm28.f_58_4 (by decide) ?_
                                refine g_get 8 (0) (999) rfl hS.k58 hm28.f_58_8 (fun v30 ev30 bv30 cv30 => ?_)
                                refine g_ld (-2147483648) (2147483647) hS.k61 hS.l61 (by omega) (by omega) (hm28.a_61 (by omega) (by omega)) (fun v31 ev31 bv31 cv31 => ?_)
                                exact hk v31 m28 hm28 (by omega) (by omega)
                              · refine g_if (fun w32 => ?_) (fun w32 => ?_)
                                · refine g_getr 12 58 rfl hS.k0 hm28.f_0_12 (by decide) ?_
                                  refine ⟨hS.k58, ?_⟩
                                  refine u_X2_leastTurned ?_
                                  refine g_getr 5 62 rfl hS.k58 hm28.f_58_5 (by decide) ?_
                                  refine g_get 8 (0) (999) rfl hS.k58 hm28.f_58_8 (fun v33 ev33 bv33 cv33 => ?_)
                                  refine g_ld (-2147483648) (2147483647) hS.k62 hS.l62 (by omega) (by omega) (hm28.a_62 (by omega) (by omega)) (fun v34 ev34 bv34 cv34 => ?_)
                                  exact hk v34 m28 hm28 (by omega) (by omega)
                                · refine g_getr 12 58 rfl hS.k0 hm28.f_0_12 (by decide) ?_
                                  refine g_C ?_
                                  refine g_S (by omega) (by omega) ?_
                                  refine ⟨hS.k58, ?_⟩
                                  refine z_X2_handOfFirst hS hm28 (by omega) (by omega) (fun v35 m36 hm36 bv35 cv35 => ?_)
                                  exact hk v35 m36 hm36 (by omega) (by omega)
                            · refine g_getr 1 3 rfl hS.k0 hm0.f_0_1 (by decide) ?_
                              refine g_getr 0 4 rfl hS.k3 hm0.f_3_0 (by decide) ?_
                              refine g_get 4 (0) (5) rfl hS.k4 hm0.f_4_4 (fun v37 ev37 bv37 cv37 => ?_)
                              refine g_if (fun w38 => ?_) (fun w38 => ?_)
                              · refine u_X11_relay_107 ?_
                                refine g_getr 12 58 rfl hS.k0 hm0.f_0_12 (by decide) ?_
                                refine g_getr 1 3 rfl hS.k0 hm0.f_0_1 (by decide) ?_
                                refine g_getr 1 16 rfl hS.k3 hm0.f_3_1 (by decide) ?_
                                refine g_get 0 (0) (999) rfl hS.k16 hm0.f_16_0 (fun v39 ev39 bv39 cv39 => ?_)
                                refine ⟨hS.k58, ?_⟩
                                refine z_X2_setOut hS hm0 (by omega) (by omega) (by omega) (by omega) (by omega) (by omega) (by omega) (by omega) (fun m40 hm40 => ?_)
                                refine g_getr 12 58 rfl hS.k0 hm40.f_0_12 (by decide) ?_
                                refine g_getr 1 3 rfl hS.k0 hm40.f_0_1 (by decide) ?_
                                refine g_getr 1 16 rfl hS.k3 hm40.f_3_1 (by decide) ?_
                                refine g_getr 7 22 rfl hS.k16 hm40.f_16_7 (by decide) ?_
                                refine g_ld (0) (999) hS.k22 hS.l22 (by omega) (by omega) (hm40.a_22 (by omega) (by omega)) (fun v41 ev41 bv41 cv41 => ?_)
                                refine ⟨hS.k58, ?_⟩
                                refine u_X2_solve ?_
                                refine g_put 8 rfl hS.k58 (hm40.w_58_8 (by omega) (by omega)) (fun m42 em42 hm42 => ?_)
                                refine g_put 9 rfl hS.k58 (hm42.w_58_9 (by omega) (by omega)) (fun m43 em43 hm43 => ?_)
                                refine g_put 10 rfl hS.k58 (hm43.w_58_10 (by omega) (by omega)) (fun m44 em44 hm44 => ?_)
                                refine g_getr 4 61 rfl hS.k58 hm44.f_58_4 (by decide) ?_
                                refine g_C ?_
                                refine g_get 6 (0) (5) rfl hS.k58 hm44.f_58_6 (fun v45 ev45 bv45 cv45 => ?_)
                                refine g_C ?_
                                refine g_A (by omega) (by omega) ?_
                                refine g_C ?_
                                refine g_M (by omega) (by omega) ?_
                                refine g_C ?_
                                refine s_fill2 hm44 hS.k61 hS.l61 (by decide) (by omega) (by omega) (by omega) (fun M i h0 h1 h2 => h0.wa_61 h1 h2 (by omega) (by omega)) (fun m46 hm46 => ?_)
                                refine g_C ?_
                                refine ⟨hS.k58, ?_⟩
                                refine z_X2_visit_d5 hS hm46 (by omega) (by omega) (by omega) (by omega) (fun m47 hm47 => ?_)
                                refine g_if (fun w48 => ?_) (fun w48 => ?_)
                                · refine g_getr 12 58 rfl hS.k0 hm47.f_0_12 (by decide) ?_
                                  refine ⟨hS.k58, ?_⟩
                                  refine u_X2_howMany ?_
                                  refine g_getr 4 61 rfl hS.k58 hm47.f_58_4 (by decide) ?_
                                  refine g_get 8 (0) (999) rfl hS.k58 hm47.f_58_8 (fun v49 ev49 bv49 cv49 => ?_)
                                  refine g_ld (-2147483648) (2147483647) hS.k61 hS.l61 (by omega) (by omega) (hm47.a_61 (by omega) (by omega)) (fun v50 ev50 bv50 cv50 => ?_)
                                  exact hk v50 m47 hm47 (by omega) (by omega)
                                · refine g_if (fun w51 => ?_) (fun w51 => ?_)
                                  · refine g_getr 12 58 rfl hS.k0 hm47.f_0_12 (by decide) ?_
                                    refine ⟨hS.k58, ?_⟩
                                    refine u_X2_leastTurned ?_
                                    refine g_getr 5 62 rfl hS.k58 hm47.f_58_5 (by decide) ?_
                                    refine g_get 8 (0) (999) rfl hS.k58 hm47.f_58_8 (fun v52 ev52 bv52 cv52 => ?_)
                                    refine g_ld (-2147483648) (2147483647) hS.k62 hS.l62 (by omega) (by omega) (hm47.a_62 (by omega) (by omega)) (fun v53 ev53 bv53 cv53 => ?_)
                                    exact hk v53 m47 hm47 (by omega) (by omega)
                                  · refine g_getr 12 58 rfl hS.k0 hm47.f_0_12 (by decide) ?_
                                    refine g_C ?_
                                    refine g_S (by omega) (by omega) ?_
                                    refine ⟨hS.k58, ?_⟩
                                    refine z_X2_handOfFirst hS hm47 (by omega) (by omega) (fun v54 m55 hm55 bv54 cv54 => ?_)
                                    exact hk v54 m55 hm55 (by omega) (by omega)
                              · refine g_C ?_
                                exact hk (-2) m0 hm0 (by omega) (by omega)
                        · refine g_C ?_
                          exact hk (-3) m0 hm0 (by omega) (by omega)
              · refine g_C ?_
                exact hk (-3) m0 hm0 (by omega) (by omega)
theorem z_X9_turnedByTurns {X : Mm} {S : Sh} {m0 : Mm} {K : Int → Mm → Prop} {u1 u2 u3 : Int} (hS : Shp S) (hm0 : Inv X S m0) (l_u1 : 0 ≤ u1) (h_u1 : u1 ≤ 4) (l_u2 : 1 ≤ u2) (h_u2 : u2 ≤ 10) (l_u3 : 0 ≤ u3) (h_u3 : u3 ≤ 1023) (hk : ∀ (r : Int) (M1 : Mm), Inv X S M1 → 0 ≤ r → r ≤ 999 → K r M1) : wp_X9_turnedByTurns S m0 66 u1 u2 u3 K := by
  refine u_X9_turnedByTurns ?_
  refine g_getr 1 55 rfl hS.k66 hm0.f_66_1 (by decide) ?_
  refine g_C ?_
  refine g_C ?_
  refine g_getr 0 3 rfl hS.k66 hm0.f_66_0 (by decide) ?_
  refine g_getr 1 16 rfl hS.k3 hm0.f_3_1 (by decide) ?_
  refine g_get 0 (0) (999) rfl hS.k16 hm0.f_16_0 (fun v1 ev1 bv1 cv1 => ?_)
  refine ⟨hS.k55, ?_⟩
  refine u_X10_suppose ?_
  refine g_put 4 rfl hS.k55 (hm0.w_55_4 (by omega) (by omega)) (fun m2 em2 hm2 => ?_)
  refine g_put 5 rfl hS.k55 (hm2.w_55_5 (by omega) (by omega)) (fun m3 em3 hm3 => ?_)
  refine g_put 6 rfl hS.k55 (hm3.w_55_6 (by omega) (by omega)) (fun m4 em4 hm4 => ?_)
  refine g_C ?_
  refine g_put 7 rfl hS.k55 (hm4.w_55_7 (by omega) (by omega)) (fun m5 em5 hm5 => ?_)
  refine g_put 8 rfl hS.k55 (hm5.w_55_8 (by omega) (by omega)) (fun m6 em6 hm6 => ?_)
  refine g_C ?_
  refine g_put 10 rfl hS.k55 (hm6.w_55_10 (by omega) (by omega)) (fun m7 em7 hm7 => ?_)
  refine g_C ?_
  refine g_put 11 rfl hS.k55 (hm7.w_55_11 (by omega) (by omega)) (fun m8 em8 hm8 => ?_)
  refine g_getr 1 55 rfl hS.k66 hm8.f_66_1 (by decide) ?_
  refine g_getr 0 3 rfl hS.k66 hm8.f_66_0 (by decide) ?_
  refine g_getr 1 16 rfl hS.k3 hm8.f_3_1 (by decide) ?_
  refine g_getr 4 19 rfl hS.k16 hm8.f_16_4 (by decide) ?_
  refine g_ld (0) (99) hS.k19 hS.l19 (by omega) (by omega) (hm8.a_19 (by omega) (by omega)) (fun v9 ev9 bv9 cv9 => ?_)
  refine g_put 7 rfl hS.k55 (hm8.w_55_7 (by omega) (by omega)) (fun m10 em10 hm10 => ?_)
  refine g_C ?_
  have L_n_l301 : ∀ (n_l301 : Nat) (u15 : Int) (m16 : Mm), Inv X S m16 → 0 ≤ u15 → u15 ≤ 10 → 11 - u15 ≤ (n_l301 : Int) → wp_X9_turnedByTurns_42 S K n_l301 66 u1 u2 u3 u15 m16 := by
    intro n_l301
    induction n_l301 with
    | zero => intro u15 m16 hm16 bu15 cu15 zn_l301; exfalso; omega
    | succ n_l301 ih_n_l301 =>
      intro u15 m16 hm16 bu15 cu15 zn_l301
      refine u_X9_turnedByTurns_42 ?_
      refine g_if (fun w302 => ?_) (fun w302 => ?_)
      · refine g_getr 1 55 rfl hS.k66 hm16.f_66_1 (by decide) ?_
        refine g_get 6 (0) (999) rfl hS.k55 hm16.f_55_6 (fun v303 ev303 bv303 cv303 => ?_)
        exact hk v303 m16 hm16 (by omega) (by omega)
      · refine g_getr 1 55 rfl hS.k66 hm16.f_66_1 (by decide) ?_
        refine g_getr 0 3 rfl hS.k66 hm16.f_66_0 (by decide) ?_
        refine g_getr 1 16 rfl hS.k3 hm16.f_3_1 (by decide) ?_
        refine g_getr 3 18 rfl hS.k16 hm16.f_16_3 (by decide) ?_
        refine g_ld (0) (5) hS.k18 hS.l18 (by omega) (by omega) (hm16.a_18 (by omega) (by omega)) (fun v304 ev304 bv304 cv304 => ?_)
        refine g_if (fun w305 => ?_) (fun w305 => ?_)
        · refine g_C ?_
          refine u_X9_turnedByTurns_74 ?_
          refine g_put 10 rfl hS.k55 (hm16.w_55_10 (by omega) (by omega)) (fun m306 em306 hm306 => ?_)
          refine g_iShr (by omega) (by omega) (fun v307 bv307 cv307 => ?_)
          refine g_C ?_
          refine g_iAndR (by omega) (by omega) (fun v308 dv308 bv308 cv308 => ?_)
          refine g_C ?_
          refine g_if (fun w309 => ?_) (fun w309 => ?_)
          · refine g_getr 1 55 rfl hS.k66 hm306.f_66_1 (by decide) ?_
            refine ⟨hS.k55, ?_⟩
            refine u_X10_restAnHour ?_
            refine g_C ?_
            refine g_get 7 (0) (99) rfl hS.k55 hm306.f_55_7 (fun v310 ev310 bv310 cv310 => ?_)
            refine g_C ?_
            refine g_S (by omega) (by omega) ?_
            refine g_max (fun v311 bv311 cv311 dv311 => ?_)
            refine g_put 7 rfl hS.k55 (hm306.w_55_7 (by omega) (by omega)) (fun m312 em312 hm312 => ?_)
            refine g_C ?_
            refine g_get 8 (0) (999) rfl hS.k55 hm312.f_55_8 (fun v313 ev313 bv313 cv313 => ?_)
            refine g_C ?_
            refine g_A (by omega) (by omega) ?_
            refine g_min (fun v314 bv314 cv314 dv314 => ?_)
            refine g_put 8 rfl hS.k55 (hm312.w_55_8 (by omega) (by omega)) (fun m315 em315 hm315 => ?_)
            refine u_X9_turnedByTurns_105 ?_
            refine g_A (by omega) (by omega) ?_
            exact ih_n_l301 (u15 + 1) m315 hm315 (by omega) (by omega) (by omega)
          · refine g_getr 1 55 rfl hS.k66 hm306.f_66_1 (by decide) ?_
            refine g_C ?_
            refine ⟨hS.k55, ?_⟩
            refine z_X10_holdFor hS hm306 (by omega) (by omega) (fun m316 hm316 => ?_)
            refine u_X9_turnedByTurns_105 ?_
            refine g_A (by omega) (by omega) ?_
            exact ih_n_l301 (u15 + 1) m316 hm316 (by omega) (by omega) (by omega)
        · refine g_C ?_
          refine u_X9_turnedByTurns_74 ?_
          refine g_put 10 rfl hS.k55 (hm16.w_55_10 (by omega) (by omega)) (fun m317 em317 hm317 => ?_)
          refine g_iShr (by omega) (by omega) (fun v318 bv318 cv318 => ?_)
          refine g_C ?_
          refine g_iAndR (by omega) (by omega) (fun v319 dv319 bv319 cv319 => ?_)
          refine g_C ?_
          refine g_if (fun w320 => ?_) (fun w320 => ?_)
          · refine g_getr 1 55 rfl hS.k66 hm317.f_66_1 (by decide) ?_
            refine ⟨hS.k55, ?_⟩
            refine u_X10_restAnHour ?_
            refine g_C ?_
            refine g_get 7 (0) (99) rfl hS.k55 hm317.f_55_7 (fun v321 ev321 bv321 cv321 => ?_)
            refine g_C ?_
            refine g_S (by omega) (by omega) ?_
            refine g_max (fun v322 bv322 cv322 dv322 => ?_)
            refine g_put 7 rfl hS.k55 (hm317.w_55_7 (by omega) (by omega)) (fun m323 em323 hm323 => ?_)
            refine g_C ?_
            refine g_get 8 (0) (999) rfl hS.k55 hm323.f_55_8 (fun v324 ev324 bv324 cv324 => ?_)
            refine g_C ?_
            refine g_A (by omega) (by omega) ?_
            refine g_min (fun v325 bv325 cv325 dv325 => ?_)
            refine g_put 8 rfl hS.k55 (hm323.w_55_8 (by omega) (by omega)) (fun m326 em326 hm326 => ?_)
            refine u_X9_turnedByTurns_105 ?_
            refine g_A (by omega) (by omega) ?_
            exact ih_n_l301 (u15 + 1) m326 hm326 (by omega) (by omega) (by omega)
          · refine g_getr 1 55 rfl hS.k66 hm317.f_66_1 (by decide) ?_
            refine g_C ?_
            refine ⟨hS.k55, ?_⟩
            refine z_X10_holdFor hS hm317 (by omega) (by omega) (fun m327 hm327 => ?_)
            refine u_X9_turnedByTurns_105 ?_
            refine g_A (by omega) (by omega) ?_
            exact ih_n_l301 (u15 + 1) m327 hm327 (by omega) (by omega) (by omega)
  exact ⟨11, L_n_l301 11 0 m10 hm10 (by omega) (by omega) (by omega)⟩
end
section
theorem z_X11_rest {X : Mm} {S : Sh} {m0 : Mm} {K : Int → Mm → Prop} {u1 u2 u3 u4 : Int} (hS : Shp S) (hm0 : Inv X S m0) (l_u1 : (-2147483648) ≤ u1) (h_u1 : u1 ≤ 2147483647) (l_u2 : (-2147483648) ≤ u2) (h_u2 : u2 ≤ 2147483647) (l_u3 : (-2147483648) ≤ u3) (h_u3 : u3 ≤ 2147483647) (l_u4 : (-2147483648) ≤ u4) (h_u4 : u4 ≤ 2147483647) (hk : ∀ (r : Int) (M1 : Mm), Inv X S M1 → (-1) ≤ r → r ≤ 2147483647 → K r M1) : wp_X11_rest S m0 0 u1 u2 u3 u4 K := by
  refine u_X11_rest ?_
  refine ⟨hS.k0, ?_⟩
  refine u_X11_isHand ?_
  refine g_if (fun w1 => ?_) (fun w1 => ?_)
  · refine g_C ?_
    refine ⟨by omega, ?_⟩
    refine g_ifT (by omega) ?_
    refine g_C ?_
    exact hk (-1) m0 hm0 (by omega) (by omega)
  · refine g_getr 1 3 rfl hS.k0 hm0.f_0_1 (by decide) ?_
    refine g_getr 0 4 rfl hS.k3 hm0.f_3_0 (by decide) ?_
    refine g_get 4 (0) (5) rfl hS.k4 hm0.f_4_4 (fun v2 ev2 bv2 cv2 => ?_)
    refine g_if (fun w3 => ?_) (fun w3 => ?_)
    · refine g_C ?_
      refine ⟨by omega, ?_⟩
      refine g_ifT (by omega) ?_
      refine g_C ?_
      exact hk (-1) m0 hm0 (by omega) (by omega)
    · refine g_C ?_
      refine ⟨by omega, ?_⟩
      refine g_ifF (by omega) ?_
      refine g_C ?_
      refine g_if (fun w4 => ?_) (fun w4 => ?_)
      · refine g_C ?_
        exact hk (-1) m0 hm0 (by omega) (by omega)
      · refine g_C ?_
        refine g_if (fun w5 => ?_) (fun w5 => ?_)
        · refine g_C ?_
          exact hk (-1) m0 hm0 (by omega) (by omega)
        · refine g_if (fun w6 => ?_) (fun w6 => ?_)
          · refine g_C ?_
            exact hk (-1) m0 hm0 (by omega) (by omega)
          · refine g_if (fun w7 => ?_) (fun w7 => ?_)
            · refine g_C ?_
              exact hk (-1) m0 hm0 (by omega) (by omega)
            · refine g_if (fun w8 => ?_) (fun w8 => ?_)
              · refine g_C ?_
                exact hk (-1) m0 hm0 (by omega) (by omega)
              · refine g_C ?_
                refine g_if (fun w9 => ?_) (fun w9 => ?_)
                · refine g_C ?_
                  refine g_C ?_
                  refine g_C ?_
                  have L_n_l192 : ∀ (n_l192 : Nat) (u15 : Int) (u16 : Int) (u17 : Int) (m18 : Mm), Inv X S m18 → 0 ≤ u15 → u15 ≤ 6000 → 0 ≤ u16 → u16 ≤ 2147483647 → 0 ≤ u17 → u17 ≤ 1024 → 1025 - u17 ≤ (n_l192 : Int) → wp_X11_rest_52 S K n_l192 0 u1 u2 u3 u4 u15 u16 u17 m18 := by
                    intro n_l192
                    induction n_l192 with
                    | zero => intro u15 u16 u17 m18 hm18 bu15 cu15 bu16 cu16 bu17 cu17 zn_l192; exfalso; omega
                    | succ n_l192 ih_n_l192 =>
                      intro u15 u16 u17 m18 hm18 bu15 cu15 bu16 cu16 bu17 cu17 zn_l192
                      refine u_X11_rest_52 ?_
                      refine g_C ?_
                      refine g_iShl 10 (by omega) (by omega) (by decide) (fun v193 bv193 cv193 => ?_)
                      refine g_if (fun w194 => ?_) (fun w194 => ?_)
                      · refine g_if (fun w195 => ?_) (fun w195 => ?_)
                        · exact hk u16 m18 hm18 (by omega) (by omega)
                        · exact hk u15 m18 hm18 (by omega) (by omega)
                      · refine z_J6_bitCount_0f7a4 hS hm18 (by omega) (by omega) (fun v196 bv196 cv196 => ?_)
                        refine g_if (fun w197 => ?_) (fun w197 => ?_)
                        · refine u_X11_rest_97 ?_
                          refine g_A (by omega) (by omega) ?_
                          exact ih_n_l192 u15 u16 (u17 + 1) m18 hm18 (by omega) (by omega) (by omega) (by omega) (by omega) (by omega) (by omega)
                        · refine g_getr 14 66 rfl hS.k0 hm18.f_0_14 (by decide) ?_
                          refine ⟨hS.k66, ?_⟩
                          refine z_X9_turnedByTurns hS hm18 (by omega) (by omega) (by omega) (by omega) (by omega) (by omega) (fun v198 m199 hm199 bv198 cv198 => ?_)
                          refine g_if (fun w200 => ?_) (fun w200 => ?_)
                          · refine u_X11_rest_97 ?_
                            refine g_A (by omega) (by omega) ?_
                            exact ih_n_l192 u15 u16 (u17 + 1) m199 hm199 (by omega) (by omega) (by omega) (by omega) (by omega) (by omega) (by omega)
                          · refine u_X11_rest_97 ?_
                            refine g_A (by omega) (by omega) ?_
                            exact ih_n_l192 u17 v198 (u17 + 1) m199 hm199 (by omega) (by omega) (by omega) (by omega) (by omega) (by omega) (by omega)
                  exact ⟨1025, L_n_l192 1025 0 2147483647 0 m0 hm0 (by omega) (by omega) (by omega) (by omega) (by omega) (by omega) (by omega)⟩
                · refine g_C ?_
                  exact hk (-1) m0 hm0 (by omega) (by omega)
end
section
theorem z_X11_way {X : Mm} {S : Sh} {m0 : Mm} {K : Int → Mm → Prop} {u1 u2 u3 : Int} (hS : Shp S) (hm0 : Inv X S m0) (l_u1 : (-2147483648) ≤ u1) (h_u1 : u1 ≤ 2147483647) (l_u2 : (-2147483648) ≤ u2) (h_u2 : u2 ≤ 2147483647) (l_u3 : (-2147483648) ≤ u3) (h_u3 : u3 ≤ 2147483647) (hk : ∀ (r : Int), (-3) ≤ r → r ≤ 999 → K r m0) : wp_X11_way S m0 0 u1 u2 u3 K := by
  refine u_X11_way ?_
  refine ⟨hS.k0, ?_⟩
  refine u_X11_isPlace ?_
  refine g_if (fun w1 => ?_) (fun w1 => ?_)
  · refine g_C ?_
    refine ⟨by omega, ?_⟩
    refine g_ifT (by omega) ?_
    refine g_C ?_
    exact hk (-3) (by omega) (by omega)
  · refine g_getr 1 3 rfl hS.k0 hm0.f_0_1 (by decide) ?_
    refine g_getr 0 4 rfl hS.k3 hm0.f_3_0 (by decide) ?_
    refine g_get 0 (0) (6) rfl hS.k4 hm0.f_4_0 (fun v2 ev2 bv2 cv2 => ?_)
    refine g_if (fun w3 => ?_) (fun w3 => ?_)
    · refine g_C ?_
      refine ⟨by omega, ?_⟩
      refine g_ifT (by omega) ?_
      refine g_C ?_
      exact hk (-3) (by omega) (by omega)
    · refine g_C ?_
      refine ⟨by omega, ?_⟩
      refine g_ifF (by omega) ?_
      refine ⟨hS.k0, ?_⟩
      refine u_X11_isPlace ?_
      refine g_if (fun w4 => ?_) (fun w4 => ?_)
      · refine g_C ?_
        refine ⟨by omega, ?_⟩
        refine g_ifT (by omega) ?_
        refine g_C ?_
        exact hk (-3) (by omega) (by omega)
      · refine g_getr 1 3 rfl hS.k0 hm0.f_0_1 (by decide) ?_
        refine g_getr 0 4 rfl hS.k3 hm0.f_3_0 (by decide) ?_
        refine g_get 0 (0) (6) rfl hS.k4 hm0.f_4_0 (fun v5 ev5 bv5 cv5 => ?_)
        have qv5 : v5 = v2 := ev5.trans ev2.symm
        refine g_if (fun w6 => ?_) (fun w6 => ?_)
        · refine g_C ?_
          refine ⟨by omega, ?_⟩
          refine g_ifT (by omega) ?_
          refine g_C ?_
          exact hk (-3) (by omega) (by omega)
        · refine g_C ?_
          refine ⟨by omega, ?_⟩
          refine g_ifF (by omega) ?_
          refine g_if (fun w7 => ?_) (fun w7 => ?_)
          · refine g_C ?_
            exact hk (-3) (by omega) (by omega)
          · refine g_C ?_
            refine g_if (fun w8 => ?_) (fun w8 => ?_)
            · refine g_getr 1 3 rfl hS.k0 hm0.f_0_1 (by decide) ?_
              refine g_getr 0 4 rfl hS.k3 hm0.f_3_0 (by decide) ?_
              refine ⟨hS.k4, ?_⟩
              refine u_X8_hasWay ?_
              refine g_getr 9 6 rfl hS.k4 hm0.f_4_9 (by decide) ?_
              refine u_X8_pair ?_
              refine g_C ?_
              refine g_M (by omega) (by omega) ?_
              refine g_A (by omega) (by omega) ?_
              refine g_ld (0) (1000) hS.k6 hS.l6 (by omega) (by omega) (hm0.a_6 (by omega) (by omega)) (fun v9 ev9 bv9 cv9 => ?_)
              refine g_C ?_
              refine g_if (fun w10 => ?_) (fun w10 => ?_)
              · refine g_C ?_
                refine ⟨by omega, ?_⟩
                refine g_ifF (by omega) ?_
                refine g_C ?_
                exact hk (-2) (by omega) (by omega)
              · refine g_C ?_
                refine ⟨by omega, ?_⟩
                refine g_ifT (by omega) ?_
                refine g_if (fun w11 => ?_) (fun w11 => ?_)
                · refine g_getr 1 3 rfl hS.k0 hm0.f_0_1 (by decide) ?_
                  refine g_getr 0 4 rfl hS.k3 hm0.f_3_0 (by decide) ?_
                  refine ⟨hS.k4, ?_⟩
                  refine z_X8_nextPlace hS hm0 (by omega) (by omega) (by omega) (by omega) (fun v12 bv12 cv12 => ?_)
                  exact hk v12 (by omega) (by omega)
                · refine g_getr 1 3 rfl hS.k0 hm0.f_0_1 (by decide) ?_
                  refine g_getr 0 4 rfl hS.k3 hm0.f_3_0 (by decide) ?_
                  refine ⟨hS.k4, ?_⟩
                  refine u_X8_wayHours ?_
                  refine g_getr 9 6 rfl hS.k4 hm0.f_4_9 (by decide) ?_
                  refine u_X8_pair ?_
                  refine g_C ?_
                  refine g_M (by omega) (by omega) ?_
                  refine g_A (by omega) (by omega) ?_
                  refine g_ld (0) (1000) hS.k6 hS.l6 (by omega) (by omega) (hm0.a_6 (by omega) (by omega)) (fun v13 ev13 bv13 cv13 => ?_)
                  have qv13 : v13 = v9 := ev13.trans ev9.symm
                  exact hk v13 (by omega) (by omega)
            · refine g_C ?_
              exact hk (-3) (by omega) (by omega)
theorem z_X11_who {X : Mm} {S : Sh} {m0 : Mm} {K : Int → Mm → Prop} {u1 : Int} (hS : Shp S) (hm0 : Inv X S m0) (l_u1 : (-2147483648) ≤ u1) (h_u1 : u1 ≤ 2147483647) (hk : ∀ (r : Int) (M1 : Mm), Inv X S M1 → (-2147483648) ≤ r → r ≤ 2147483647 → K r M1) : wp_X11_who S m0 0 u1 K := by
  refine u_X11_who ?_
  refine g_getr 1 3 rfl hS.k0 hm0.f_0_1 (by decide) ?_
  refine g_getr 0 4 rfl hS.k3 hm0.f_3_0 (by decide) ?_
  refine g_get 0 (0) (6) rfl hS.k4 hm0.f_4_0 (fun v1 ev1 bv1 cv1 => ?_)
  refine g_if (fun w2 => ?_) (fun w2 => ?_)
  · refine g_C ?_
    exact hk (-1) m0 hm0 (by omega) (by omega)
  · refine g_if (fun w3 => ?_) (fun w3 => ?_)
    · refine g_C ?_
      exact hk (-1) m0 hm0 (by omega) (by omega)
    · refine g_C ?_
      refine g_if (fun w4 => ?_) (fun w4 => ?_)
      · refine g_getr 14 66 rfl hS.k0 hm0.f_0_14 (by decide) ?_
        refine ⟨hS.k66, ?_⟩
        refine z_X9_handsByTests hS hm0 (fun v5 m6 hm6 bv5 cv5 => ?_)
        refine g_if (fun w7 => ?_) (fun w7 => ?_)
        · refine z_J6_bitCount_0f7a4 hS hm6 (by omega) (by omega) (fun v8 bv8 cv8 => ?_)
          exact hk v8 m6 hm6 (by omega) (by omega)
        · refine g_if (fun w9 => ?_) (fun w9 => ?_)
          · refine g_if (fun w10 => ?_) (fun w10 => ?_)
            · refine z_J6_numberOfTrailingZeros_0f7a4 hS hm6 (by omega) (by omega) (fun v11 bv11 cv11 => ?_)
              exact hk v11 m6 hm6 (by omega) (by omega)
            · refine g_C ?_
              exact hk (-2) m6 hm6 (by omega) (by omega)
          · exact hk v5 m6 hm6 (by omega) (by omega)
      · refine g_C ?_
        exact hk (-1) m0 hm0 (by omega) (by omega)
theorem z_X1_drawHolders {X : Mm} {S : Sh} {m0 : Mm} {K : Mm → Prop} (hS : Shp S) (hm0 : Inv X S m0)  (hk : ∀ (M1 : Mm), Inv X S M1 → K M1) : wp_X1_drawHolders S m0 57 68 K := by
  refine u_X1_drawHolders ?_
  refine g_C ?_
  have L_n_l130 : ∀ (n_l130 : Nat) (u3 : Int) (m4 : Mm), Inv X S m4 → 0 ≤ u3 → u3 ≤ 4 → 5 - u3 ≤ (n_l130 : Int) → wp_X1_drawHolders_2 S K n_l130 57 68 u3 m4 := by
    intro n_l130
    induction n_l130 with
    | zero => intro u3 m4 hm4 bu3 cu3 zn_l130; exfalso; omega
    | succ n_l130 ih_n_l130 =>
      intro u3 m4 hm4 bu3 cu3 zn_l130
      refine u_X1_drawHolders_2 ?_
      refine g_getr 1 4 rfl hS.k57 hm4.f_57_1 (by decide) ?_
      refine g_get 5 (0) (4) rfl hS.k4 hm4.f_4_5 (fun v131 ev131 bv131 cv131 => ?_)
      refine g_if (fun w132 => ?_) (fun w132 => ?_)
      · exact hk m4 hm4
      · refine ⟨hS.k68, ?_⟩
        refine u_X5_stands ?_
        refine g_getr 5 72 rfl hS.k68 hm4.f_68_5 (by decide) ?_
        refine g_ld (-1) (5) hS.k72 hS.l72 (by omega) (by omega) (hm4.a_72 (by omega) (by omega)) (fun v133 ev133 bv133 cv133 => ?_)
        refine g_C ?_
        refine g_if (fun w134 => ?_) (fun w134 => ?_)
        · refine g_C ?_
          refine ⟨by omega, ?_⟩
          refine g_ifT (by omega) ?_
          refine u_X1_drawHolders_59 ?_
          refine g_A (by omega) (by omega) ?_
          exact ih_n_l130 (u3 + 1) m4 hm4 (by omega) (by omega) (by omega)
        · refine g_C ?_
          refine ⟨by omega, ?_⟩
          refine g_ifF (by omega) ?_
          refine g_getr 1 4 rfl hS.k57 hm4.f_57_1 (by decide) ?_
          refine g_get 4 (0) (5) rfl hS.k4 hm4.f_4_4 (fun v135 ev135 bv135 cv135 => ?_)
          refine g_if (fun w136 => ?_) (fun w136 => ?_)
          · refine u_X1_drawHolders_59 ?_
            refine g_A (by omega) (by omega) ?_
            exact ih_n_l130 (u3 + 1) m4 hm4 (by omega) (by omega) (by omega)
          · refine ⟨hS.k57, ?_⟩
            refine u_X1_draw ?_
            refine g_get 2 (0) (2147483647) rfl hS.k57 hm4.f_57_2 (fun v137 ev137 bv137 cv137 => ?_)
            refine g_C ?_
            refine g_C ?_
            refine g_LM (by omega) (by omega) ?_
            refine g_C ?_
            refine g_LA (by omega) (by omega) ?_
            refine g_C ?_
            refine g_lAndM (fun v138 bv138 cv138 => ?_)
            refine g_w32 (by omega) (by omega) ?_
            refine g_put 2 rfl hS.k57 (hm4.w_57_2 (by omega) (by omega)) (fun m140 em140 hm140 => ?_)
            refine g_get 2 (0) (2147483647) rfl hS.k57 hm140.f_57_2 (fun v141 ev141 bv141 cv141 => ?_)
            have qv141 : v141 = v138 := ev141.trans ((congrFun (congrFun em140 _) _).trans (up_ate (by omega)))
            refine g_C ?_
            refine g_iDivc (d := 65536) (by omega) (by omega) (by decide) (fun v142 bv142 cv142 => ?_)
            refine g_getr 1 4 rfl hS.k57 hm140.f_57_1 (by decide) ?_
            refine g_get 4 (0) (5) rfl hS.k4 hm140.f_4_4 (fun v143 ev143 bv143 cv143 => ?_)
            have qv143 : v143 = v135 := ev143.trans ((congrFun (congrFun em140 _) _).trans ((up_ne (by omega)).trans ev135.symm))
            refine g_iRem (by omega) (by omega) (by omega) (by omega) (fun v144 bv144 cv144 => ?_)
            refine ⟨hS.k68, ?_⟩
            refine u_X5_canTake ?_
            refine ⟨hS.k68, ?_⟩
            refine u_X5_stands ?_
            refine g_getr 5 72 rfl hS.k68 hm140.f_68_5 (by decide) ?_
            refine g_ld (-1) (5) hS.k72 hS.l72 (by omega) (by omega) (hm140.a_72 (by omega) (by omega)) (fun v145 ev145 bv145 cv145 => ?_)
            have qv145 : v145 = v133 := ev145.trans ((congrFun (congrFun em140 _) _).trans ((up_ne (by omega)).trans ev133.symm))
            refine g_C ?_
            refine g_ifF (by omega) ?_
            refine g_C ?_
            refine ⟨by omega, ?_⟩
            refine g_ifF (by omega) ?_
            refine g_getr 5 72 rfl hS.k68 hm140.f_68_5 (by decide) ?_
            refine g_ld (-1) (5) hS.k72 hS.l72 (by omega) (by omega) (hm140.a_72 (by omega) (by omega)) (fun v146 ev146 bv146 cv146 => ?_)
            have qv146 : v146 = v133 := ev146.trans ((congrFun (congrFun em140 _) _).trans ((up_ne (by omega)).trans ev133.symm))
            refine g_getr 2 69 rfl hS.k68 hm140.f_68_2 (by decide) ?_
            refine g_ld (0) (5) hS.k69 hS.l69 (by omega) (by omega) (hm140.a_69 (by omega) (by omega)) (fun v147 ev147 bv147 cv147 => ?_)
            refine g_if (fun w148 => ?_) (fun w148 => ?_)
            · refine g_C ?_
              refine ⟨by omega, ?_⟩
              refine g_ifT (by omega) ?_
              refine u_X1_drawHolders_59 ?_
              refine g_A (by omega) (by omega) ?_
              exact ih_n_l130 (u3 + 1) m140 hm140 (by omega) (by omega) (by omega)
            · refine ⟨hS.k68, ?_⟩
              refine u_X5_canHoldMore ?_
              refine ⟨hS.k68, ?_⟩
              refine u_X5_isAtPlace ?_
              refine g_getr 3 70 rfl hS.k68 hm140.f_68_3 (by decide) ?_
              refine g_ld (0) (5) hS.k70 hS.l70 (by omega) (by omega) (hm140.a_70 (by omega) (by omega)) (fun v149 ev149 bv149 cv149 => ?_)
              refine g_if (fun w150 => ?_) (fun w150 => ?_)
              · refine g_C ?_
                refine ⟨by omega, ?_⟩
                refine g_ifT (by omega) ?_
                refine g_C ?_
                refine ⟨by omega, ?_⟩
                refine g_ifT (by omega) ?_
                refine g_C ?_
                refine ⟨by omega, ?_⟩
                refine g_ifT (by omega) ?_
                refine u_X1_drawHolders_59 ?_
                refine g_A (by omega) (by omega) ?_
                exact ih_n_l130 (u3 + 1) m140 hm140 (by omega) (by omega) (by omega)
              · refine g_C ?_
                refine ⟨by omega, ?_⟩
                refine g_ifF (by omega) ?_
                refine ⟨hS.k68, ?_⟩
                refine u_X5_howManyHeld ?_
                refine ⟨hS.k68, ?_⟩
                refine z_X5_heldBits hS hm140 (by decide) (by omega) (by omega) (fun v151 bv151 cv151 => ?_)
                refine z_J6_bitCount_0f7a4 hS hm140 (by omega) (by omega) (fun v152 bv152 cv152 => ?_)
                refine g_C ?_
                refine g_if (fun w153 => ?_) (fun w153 => ?_)
                · refine g_C ?_
                  refine ⟨by omega, ?_⟩
                  refine g_ifT (by omega) ?_
                  refine g_C ?_
                  refine ⟨by omega, ?_⟩
                  refine g_ifT (by omega) ?_
                  refine u_X1_drawHolders_59 ?_
                  refine g_A (by omega) (by omega) ?_
                  exact ih_n_l130 (u3 + 1) m140 hm140 (by omega) (by omega) (by omega)
                · refine g_C ?_
                  refine ⟨by omega, ?_⟩
                  refine g_ifF (by omega) ?_
                  refine g_C ?_
                  refine ⟨by omega, ?_⟩
                  refine g_ifF (by omega) ?_
                  refine ⟨hS.k68, ?_⟩
                  refine u_X5_giveTo ?_
                  refine g_getr 6 73 rfl hS.k68 hm140.f_68_6 (by decide) ?_
                  refine g_st hS.k73 hS.l73 (by omega) (by omega) (hm140.wa_73 (by omega) (by omega) (by omega) (by omega)) (fun m154 em154 hm154 => ?_)
                  refine g_getr 5 72 rfl hS.k68 hm154.f_68_5 (by decide) ?_
                  refine g_C ?_
                  refine g_st hS.k72 hS.l72 (by omega) (by omega) (hm154.wa_72 (by omega) (by omega) (by omega) (by omega)) (fun m155 em155 hm155 => ?_)
                  refine u_X1_drawHolders_59 ?_
                  refine g_A (by omega) (by omega) ?_
                  exact ih_n_l130 (u3 + 1) m155 hm155 (by omega) (by omega) (by omega)
  exact ⟨5, L_n_l130 5 0 m0 hm0 (by omega) (by omega) (by omega)⟩
theorem z_X1_drawRoads {X : Mm} {S : Sh} {m0 : Mm} {K : Mm → Prop} (hS : Shp S) (hm0 : Inv X S m0)  (hk : ∀ (M1 : Mm), Inv X S M1 → K M1) : wp_X1_drawRoads S m0 57 68 K := by
  refine u_X1_drawRoads ?_
  refine g_C ?_
  have L_n_l125 : ∀ (n_l125 : Nat) (u3 : Int) (m4 : Mm), Inv X S m4 → 0 ≤ u3 → u3 ≤ 5 → 6 - u3 ≤ (n_l125 : Int) → wp_X1_drawRoads_2 S K n_l125 57 68 u3 m4 := by
    intro n_l125
    induction n_l125 with
    | zero => intro u3 m4 hm4 bu3 cu3 zn_l125; exfalso; omega
    | succ n_l125 ih_n_l125 =>
      intro u3 m4 hm4 bu3 cu3 zn_l125
      refine u_X1_drawRoads_2 ?_
      refine g_getr 1 4 rfl hS.k57 hm4.f_57_1 (by decide) ?_
      refine g_get 4 (0) (5) rfl hS.k4 hm4.f_4_4 (fun v126 ev126 bv126 cv126 => ?_)
      refine g_if (fun w127 => ?_) (fun w127 => ?_)
      · exact hk m4 hm4
      · refine ⟨hS.k68, ?_⟩
        refine u_X5_isAtPlace ?_
        refine g_getr 3 70 rfl hS.k68 hm4.f_68_3 (by decide) ?_
        refine g_ld (0) (5) hS.k70 hS.l70 (by omega) (by omega) (hm4.a_70 (by omega) (by omega)) (fun v128 ev128 bv128 cv128 => ?_)
        refine g_if (fun w129 => ?_) (fun w129 => ?_)
        · refine g_C ?_
          refine ⟨by omega, ?_⟩
          refine g_ifT (by omega) ?_
          refine u_X1_drawRoads_69 ?_
          refine g_A (by omega) (by omega) ?_
          exact ih_n_l125 (u3 + 1) m4 hm4 (by omega) (by omega) (by omega)
        · refine g_C ?_
          refine ⟨by omega, ?_⟩
          refine g_ifF (by omega) ?_
          refine g_getr 1 4 rfl hS.k57 hm4.f_57_1 (by decide) ?_
          refine g_get 0 (0) (6) rfl hS.k4 hm4.f_4_0 (fun v130 ev130 bv130 cv130 => ?_)
          refine g_if (fun w131 => ?_) (fun w131 => ?_)
          · refine u_X1_drawRoads_69 ?_
            refine g_A (by omega) (by omega) ?_
            exact ih_n_l125 (u3 + 1) m4 hm4 (by omega) (by omega) (by omega)
          · refine ⟨hS.k57, ?_⟩
            refine u_X1_draw ?_
            refine g_get 2 (0) (2147483647) rfl hS.k57 hm4.f_57_2 (fun v132 ev132 bv132 cv132 => ?_)
            refine g_C ?_
            refine g_C ?_
            refine g_LM (by omega) (by omega) ?_
            refine g_C ?_
            refine g_LA (by omega) (by omega) ?_
            refine g_C ?_
            refine g_lAndM (fun v133 bv133 cv133 => ?_)
            refine g_w32 (by omega) (by omega) ?_
            refine g_put 2 rfl hS.k57 (hm4.w_57_2 (by omega) (by omega)) (fun m135 em135 hm135 => ?_)
            refine g_get 2 (0) (2147483647) rfl hS.k57 hm135.f_57_2 (fun v136 ev136 bv136 cv136 => ?_)
            have qv136 : v136 = v133 := ev136.trans ((congrFun (congrFun em135 _) _).trans (up_ate (by omega)))
            refine g_C ?_
            refine g_iDivc (d := 65536) (by omega) (by omega) (by decide) (fun v137 bv137 cv137 => ?_)
            refine g_getr 1 4 rfl hS.k57 hm135.f_57_1 (by decide) ?_
            refine g_get 0 (0) (6) rfl hS.k4 hm135.f_4_0 (fun v138 ev138 bv138 cv138 => ?_)
            have qv138 : v138 = v130 := ev138.trans ((congrFun (congrFun em135 _) _).trans ((up_ne (by omega)).trans ev130.symm))
            refine g_iRem (by omega) (by omega) (by omega) (by omega) (fun v139 bv139 cv139 => ?_)
            refine g_getr 1 4 rfl hS.k57 hm135.f_57_1 (by decide) ?_
            refine ⟨hS.k68, ?_⟩
            refine u_X5_roadFor ?_
            refine ⟨hS.k68, ?_⟩
            refine u_X5_isAtPlace ?_
            refine g_getr 3 70 rfl hS.k68 hm135.f_68_3 (by decide) ?_
            refine g_ld (0) (5) hS.k70 hS.l70 (by omega) (by omega) (hm135.a_70 (by omega) (by omega)) (fun v140 ev140 bv140 cv140 => ?_)
            have qv140 : v140 = v128 := ev140.trans ((congrFun (congrFun em135 _) _).trans ((up_ne (by omega)).trans ev128.symm))
            refine g_ifF (by omega) ?_
            refine g_C ?_
            refine ⟨by omega, ?_⟩
            refine g_ifF (by omega) ?_
            refine g_getr 2 69 rfl hS.k68 hm135.f_68_2 (by decide) ?_
            refine g_ld (0) (5) hS.k69 hS.l69 (by omega) (by omega) (hm135.a_69 (by omega) (by omega)) (fun v141 ev141 bv141 cv141 => ?_)
            refine ⟨hS.k4, ?_⟩
            refine u_X8_roadHours ?_
            refine g_getr 8 5 rfl hS.k4 hm135.f_4_8 (by decide) ?_
            refine u_X8_pair ?_
            refine g_C ?_
            refine g_M (by omega) (by omega) ?_
            refine g_A (by omega) (by omega) ?_
            refine g_ld (0) (5) hS.k5 hS.l5 (by omega) (by omega) (hm135.a_5 (by omega) (by omega)) (fun v142 ev142 bv142 cv142 => ?_)
            refine g_if (fun w143 => ?_) (fun w143 => ?_)
            · refine u_X1_drawRoads_69 ?_
              refine g_A (by omega) (by omega) ?_
              exact ih_n_l125 (u3 + 1) m135 hm135 (by omega) (by omega) (by omega)
            · refine ⟨hS.k68, ?_⟩
              refine u_X5_setOut ?_
              refine g_getr 2 69 rfl hS.k68 hm135.f_68_2 (by decide) ?_
              refine g_st hS.k69 hS.l69 (by omega) (by omega) (hm135.wa_69 (by omega) (by omega) (by omega) (by omega)) (fun m144 em144 hm144 => ?_)
              refine g_getr 3 70 rfl hS.k68 hm144.f_68_3 (by decide) ?_
              refine g_st hS.k70 hS.l70 (by omega) (by omega) (hm144.wa_70 (by omega) (by omega) (by omega) (by omega)) (fun m145 em145 hm145 => ?_)
              refine u_X1_drawRoads_69 ?_
              refine g_A (by omega) (by omega) ?_
              exact ih_n_l125 (u3 + 1) m145 hm145 (by omega) (by omega) (by omega)
  exact ⟨6, L_n_l125 6 0 m0 hm0 (by omega) (by omega) (by omega)⟩
theorem z_X1_passByDraws {X : Mm} {S : Sh} {m0 : Mm} {K : Mm → Prop} {u2 : Int} (hS : Shp S) (hm0 : Inv X S m0) (l_u2 : 1 ≤ u2) (h_u2 : u2 ≤ 60) (hk : ∀ (M1 : Mm), Inv X S M1 → K M1) : wp_X1_passByDraws S m0 57 68 u2 K := by
  refine u_X1_passByDraws ?_
  refine g_C ?_
  have L_n_l85 : ∀ (n_l85 : Nat) (u4 : Int) (m5 : Mm), Inv X S m5 → 0 ≤ u4 → u4 ≤ 60 → 61 - u4 ≤ (n_l85 : Int) → wp_X1_passByDraws_2 S K n_l85 57 68 u2 u4 m5 := by
    intro n_l85
    induction n_l85 with
    | zero => intro u4 m5 hm5 bu4 cu4 zn_l85; exfalso; omega
    | succ n_l85 ih_n_l85 =>
      intro u4 m5 hm5 bu4 cu4 zn_l85
      refine u_X1_passByDraws_2 ?_
      refine g_if (fun w86 => ?_) (fun w86 => ?_)
      · exact hk m5 hm5
      · refine ⟨hS.k57, ?_⟩
        refine z_X1_drawRoads hS hm5 (fun m87 hm87 => ?_)
        refine ⟨hS.k57, ?_⟩
        refine z_X1_drawHolders hS hm87 (fun m88 hm88 => ?_)
        refine ⟨hS.k57, ?_⟩
        refine z_X1_pass hS hm88 (by decide) (fun v89 m90 hm90 bv89 cv89 => ?_)
        refine g_A (by omega) (by omega) ?_
        exact ih_n_l85 (u4 + 1) m90 hm90 (by omega) (by omega) (by omega)
  exact ⟨61, L_n_l85 61 0 m0 hm0 (by omega) (by omega) (by omega)⟩
theorem z_X5_howManySour {X : Mm} {S : Sh} {m0 : Mm} {K : Int → Mm → Prop} {u1 : Int} (hS : Shp S) (hm0 : Inv X S m0) (l_u1 : 0 ≤ u1) (h_u1 : u1 ≤ 99) (hk : ∀ (r : Int), (-2147483648) ≤ r → r ≤ 2147483647 → K r m0) : wp_X5_howManySour S m0 68 u1 K := by
  refine u_X5_howManySour ?_
  refine g_C ?_
  refine g_C ?_
  have L_n_l213 : ∀ (n_l213 : Nat) (u3 : Int) (u4 : Int), (-2147483648) ≤ u3 → u3 ≤ 2147483647 → 0 ≤ u4 → u4 ≤ 4 → 5 - u4 ≤ (n_l213 : Int) → wp_X5_howManySour_4 S K n_l213 68 u1 u3 u4 m0 := by
    intro n_l213
    induction n_l213 with
    | zero => intro u3 u4 bu3 cu3 bu4 cu4 zn_l213; exfalso; omega
    | succ n_l213 ih_n_l213 =>
      intro u3 u4 bu3 cu3 bu4 cu4 zn_l213
      refine u_X5_howManySour_4 ?_
      refine g_C ?_
      refine g_if (fun w214 => ?_) (fun w214 => ?_)
      · exact hk u3 (by omega) (by omega)
      · refine ⟨hS.k68, ?_⟩
        refine u_X5_isGone ?_
        refine g_getr 5 72 rfl hS.k68 hm0.f_68_5 (by decide) ?_
        refine g_ld (-1) (5) hS.k72 hS.l72 (by omega) (by omega) (hm0.a_72 (by omega) (by omega)) (fun v215 ev215 bv215 cv215 => ?_)
        refine g_C ?_
        refine g_if (fun w216 => ?_) (fun w216 => ?_)
        · refine g_C ?_
          refine ⟨by omega, ?_⟩
          refine g_ifF (by omega) ?_
          refine g_getr 7 74 rfl hS.k68 hm0.f_68_7 (by decide) ?_
          refine g_ld (0) (999) hS.k74 hS.l74 (by omega) (by omega) (hm0.a_74 (by omega) (by omega)) (fun v217 ev217 bv217 cv217 => ?_)
          refine g_if (fun w218 => ?_) (fun w218 => ?_)
          · refine u_X5_howManySour_32 ?_
            refine g_C ?_
            refine u_X5_howManySour_33 ?_
            refine g_A (by omega) (by omega) ?_
            refine g_A (by omega) (by omega) ?_
            exact ih_n_l213 (u3 + 0) (u4 + 1) (by omega) (by omega) (by omega) (by omega) (by omega)
          · refine g_C ?_
            refine u_X5_howManySour_33 ?_
            refine g_Aw (fun v219 bv219 cv219 => ?_)
            refine g_A (by omega) (by omega) ?_
            exact ih_n_l213 v219 (u4 + 1) (by omega) (by omega) (by omega) (by omega) (by omega)
        · refine g_getr 6 73 rfl hS.k68 hm0.f_68_6 (by decide) ?_
          refine g_ld (-1) (4) hS.k73 hS.l73 (by omega) (by omega) (hm0.a_73 (by omega) (by omega)) (fun v220 ev220 bv220 cv220 => ?_)
          refine g_C ?_
          refine g_if (fun w221 => ?_) (fun w221 => ?_)
          · refine g_C ?_
            refine ⟨by omega, ?_⟩
            refine g_ifF (by omega) ?_
            refine g_getr 7 74 rfl hS.k68 hm0.f_68_7 (by decide) ?_
            refine g_ld (0) (999) hS.k74 hS.l74 (by omega) (by omega) (hm0.a_74 (by omega) (by omega)) (fun v222 ev222 bv222 cv222 => ?_)
            refine g_if (fun w223 => ?_) (fun w223 => ?_)
            · refine u_X5_howManySour_32 ?_
              refine g_C ?_
              refine u_X5_howManySour_33 ?_
              refine g_A (by omega) (by omega) ?_
              refine g_A (by omega) (by omega) ?_
              exact ih_n_l213 (u3 + 0) (u4 + 1) (by omega) (by omega) (by omega) (by omega) (by omega)
            · refine g_C ?_
              refine u_X5_howManySour_33 ?_
              refine g_Aw (fun v224 bv224 cv224 => ?_)
              refine g_A (by omega) (by omega) ?_
              exact ih_n_l213 v224 (u4 + 1) (by omega) (by omega) (by omega) (by omega) (by omega)
          · refine g_C ?_
            refine ⟨by omega, ?_⟩
            refine g_ifT (by omega) ?_
            refine u_X5_howManySour_32 ?_
            refine g_C ?_
            refine u_X5_howManySour_33 ?_
            refine g_A (by omega) (by omega) ?_
            refine g_A (by omega) (by omega) ?_
            exact ih_n_l213 (u3 + 0) (u4 + 1) (by omega) (by omega) (by omega) (by omega) (by omega)
  exact ⟨5, L_n_l213 5 0 0 (by omega) (by omega) (by omega) (by omega) (by omega)⟩
theorem z_X11_years {X : Mm} {S : Sh} {m0 : Mm} {K : Int → Mm → Prop} {u1 u2 u3 : Int} (hS : Shp S) (hm0 : Inv X S m0) (l_u1 : (-2147483648) ≤ u1) (h_u1 : u1 ≤ 2147483647) (l_u2 : (-2147483648) ≤ u2) (h_u2 : u2 ≤ 2147483647) (l_u3 : (-2147483648) ≤ u3) (h_u3 : u3 ≤ 2147483647) (hk : ∀ (r : Int) (M1 : Mm), Inv X S M1 → (-2147483648) ≤ r → r ≤ 2147483647 → K r M1) : wp_X11_years S m0 0 u1 u2 u3 K := by
  refine u_X11_years ?_
  refine g_getr 1 3 rfl hS.k0 hm0.f_0_1 (by decide) ?_
  refine g_getr 0 4 rfl hS.k3 hm0.f_3_0 (by decide) ?_
  refine g_get 0 (0) (6) rfl hS.k4 hm0.f_4_0 (fun v1 ev1 bv1 cv1 => ?_)
  refine g_if (fun w2 => ?_) (fun w2 => ?_)
  · refine g_C ?_
    exact hk (-1) m0 hm0 (by omega) (by omega)
  · refine g_C ?_
    refine g_if (fun w3 => ?_) (fun w3 => ?_)
    · refine g_C ?_
      exact hk (-1) m0 hm0 (by omega) (by omega)
    · refine g_C ?_
      refine g_if (fun w4 => ?_) (fun w4 => ?_)
      · refine g_C ?_
        exact hk (-1) m0 hm0 (by omega) (by omega)
      · refine g_C ?_
        refine g_if (fun w5 => ?_) (fun w5 => ?_)
        · refine g_C ?_
          exact hk (-1) m0 hm0 (by omega) (by omega)
        · refine g_C ?_
          refine g_if (fun w6 => ?_) (fun w6 => ?_)
          · refine g_C ?_
            exact hk (-1) m0 hm0 (by omega) (by omega)
          · refine g_if (fun w7 => ?_) (fun w7 => ?_)
            · refine g_C ?_
              exact hk (-1) m0 hm0 (by omega) (by omega)
            · refine g_C ?_
              refine g_if (fun w8 => ?_) (fun w8 => ?_)
              · refine g_C ?_
                refine g_getr 11 57 rfl hS.k0 hm0.f_0_11 (by decide) ?_
                refine g_getr 1 3 rfl hS.k0 hm0.f_0_1 (by decide) ?_
                refine g_get 3 (0) (2147483647) rfl hS.k3 hm0.f_3_3 (fun v9 ev9 bv9 cv9 => ?_)
                refine g_put 2 rfl hS.k57 (hm0.w_57_2 (by omega) (by omega)) (fun m10 em10 hm10 => ?_)
                refine g_C ?_
                have L_n_l114 : ∀ (n_l114 : Nat) (u15 : Int) (u16 : Int) (m17 : Mm), Inv X S m17 → (-2147483648) ≤ u15 → u15 ≤ 2147483647 → 0 ≤ u16 → u16 ≤ 10 → 11 - u16 ≤ (n_l114 : Int) → wp_X11_years_66 S K n_l114 0 u1 u2 u3 u15 u16 m17 := by
                  intro n_l114
                  induction n_l114 with
                  | zero => intro u15 u16 m17 hm17 bu15 cu15 bu16 cu16 zn_l114; exfalso; omega
                  | succ n_l114 ih_n_l114 =>
                    intro u15 u16 m17 hm17 bu15 cu15 bu16 cu16 zn_l114
                    refine u_X11_years_66 ?_
                    refine g_if (fun w115 => ?_) (fun w115 => ?_)
                    · exact hk u15 m17 hm17 (by omega) (by omega)
                    · refine g_getr 15 68 rfl hS.k0 hm17.f_0_15 (by decide) ?_
                      refine g_getr 1 3 rfl hS.k0 hm17.f_0_1 (by decide) ?_
                      refine g_getr 1 16 rfl hS.k3 hm17.f_3_1 (by decide) ?_
                      refine ⟨hS.k68, ?_⟩
                      refine z_X5_become hS hm17 (by decide) (by decide) (fun m116 hm116 => ?_)
                      refine g_getr 11 57 rfl hS.k0 hm116.f_0_11 (by decide) ?_
                      refine g_getr 15 68 rfl hS.k0 hm116.f_0_15 (by decide) ?_
                      refine ⟨hS.k57, ?_⟩
                      refine z_X1_passByDraws hS hm116 (by omega) (by omega) (fun m117 hm117 => ?_)
                      refine g_if (fun w118 => ?_) (fun w118 => ?_)
                      · refine g_getr 15 68 rfl hS.k0 hm117.f_0_15 (by decide) ?_
                        refine ⟨hS.k68, ?_⟩
                        refine z_X5_turnedTogether hS hm117 (fun v119 bv119 cv119 => ?_)
                        refine u_X11_years_131 ?_
                        refine g_Aw (fun v120 bv120 cv120 => ?_)
                        refine g_A (by omega) (by omega) ?_
                        exact ih_n_l114 v120 (u16 + 1) m117 hm117 (by omega) (by omega) (by omega) (by omega) (by omega)
                      · refine g_getr 15 68 rfl hS.k0 hm117.f_0_15 (by decide) ?_
                        refine g_getr 1 3 rfl hS.k0 hm117.f_0_1 (by decide) ?_
                        refine g_getr 0 4 rfl hS.k3 hm117.f_3_0 (by decide) ?_
                        refine g_get 2 (0) (99) rfl hS.k4 hm117.f_4_2 (fun v121 ev121 bv121 cv121 => ?_)
                        refine ⟨hS.k68, ?_⟩
                        refine z_X5_howManySour hS hm117 (by omega) (by omega) (fun v122 bv122 cv122 => ?_)
                        refine u_X11_years_131 ?_
                        refine g_Aw (fun v123 bv123 cv123 => ?_)
                        refine g_A (by omega) (by omega) ?_
                        exact ih_n_l114 v123 (u16 + 1) m117 hm117 (by omega) (by omega) (by omega) (by omega) (by omega)
                exact ⟨11, L_n_l114 11 0 0 m10 hm10 (by omega) (by omega) (by omega) (by omega) (by omega)⟩
              · refine g_C ?_
                exact hk (-1) m0 hm0 (by omega) (by omega)
theorem z_X12_roadOf {X : Mm} {S : Sh} {m0 : Mm} {K : Int → Mm → Prop} {u1 u2 : Int} (hS : Shp S) (hm0 : Inv X S m0) (l_u1 : 0 ≤ u1) (h_u1 : u1 ≤ 5) (l_u2 : 0 ≤ u2) (h_u2 : u2 ≤ 5) (hk : ∀ (r : Int), 0 ≤ r → r ≤ 5 → K r m0) : wp_X12_roadOf S m0 336 u1 u2 K := by
  refine u_X12_roadOf ?_
  refine g_C ?_
  have L_n_l159 : ∀ (n_l159 : Nat) (u4 : Int), 0 ≤ u4 → u4 ≤ 8 → 9 - u4 ≤ (n_l159 : Int) → wp_X12_roadOf_2 S K n_l159 336 u1 u2 u4 m0 := by
    intro n_l159
    induction n_l159 with
    | zero => intro u4 bu4 cu4 zn_l159; exfalso; omega
    | succ n_l159 ih_n_l159 =>
      intro u4 bu4 cu4 zn_l159
      refine u_X12_roadOf_2 ?_
      refine g_getr 20 346 rfl hS.k336 hm0.f_336_20 (by decide) ?_
      refine g_C ?_
      refine g_ld (0) (8) hS.k346 hS.l346 (by omega) (by omega) (hm0.f_346_3) (fun v160 ev160 bv160 cv160 => ?_)
      refine g_if (fun w161 => ?_) (fun w161 => ?_)
      · refine g_C ?_
        exact hk 0 (by omega) (by omega)
      · refine g_C ?_
        refine g_C ?_
        refine g_M (by omega) (by omega) ?_
        refine g_A (by omega) (by omega) ?_
        refine g_getr 20 346 rfl hS.k336 hm0.f_336_20 (by decide) ?_
        refine g_ld (0) (5) hS.k346 hS.l346 (by omega) (by omega) (fam_346_57_3_0_7 hm0 (a := u4) (by omega) (by omega) (by omega)) (fun v162 ev162 bv162 cv162 => ?_)
        refine g_if (fun w163 => ?_) (fun w163 => ?_)
        · refine u_X12_roadOf_44 ?_
          refine g_getr 20 346 rfl hS.k336 hm0.f_336_20 (by decide) ?_
          refine g_ld (0) (5) hS.k346 hS.l346 (by omega) (by omega) (fam_346_57_3_0_7 hm0 (a := u4) (by omega) (by omega) (by omega)) (fun v164 ev164 bv164 cv164 => ?_)
          have qv164 : v164 = v162 := ev164.trans ev162.symm
          refine g_if (fun w165 => ?_) (fun w165 => ?_)
          · refine u_X12_roadOf_78 ?_
            refine g_A (by omega) (by omega) ?_
            exact ih_n_l159 (u4 + 1) (by omega) (by omega) (by omega)
          · refine g_getr 20 346 rfl hS.k336 hm0.f_336_20 (by decide) ?_
            refine g_C ?_
            refine g_A (by omega) (by omega) ?_
            refine g_ld (0) (5) hS.k346 hS.l346 (by omega) (by omega) (fam_346_58_3_0_7 hm0 (a := u4) (by omega) (by omega) (by omega)) (fun v166 ev166 bv166 cv166 => ?_)
            refine g_if (fun w167 => ?_) (fun w167 => ?_)
            · refine u_X12_roadOf_78 ?_
              refine g_A (by omega) (by omega) ?_
              exact ih_n_l159 (u4 + 1) (by omega) (by omega) (by omega)
            · refine u_X12_roadOf_68 ?_
              refine g_getr 20 346 rfl hS.k336 hm0.f_336_20 (by decide) ?_
              refine g_C ?_
              refine g_A (by omega) (by omega) ?_
              refine g_ld (0) (5) hS.k346 hS.l346 (by omega) (by omega) (fam_346_59_3_0_7 hm0 (a := u4) (by omega) (by omega) (by omega)) (fun v168 ev168 bv168 cv168 => ?_)
              exact hk v168 (by omega) (by omega)
        · refine g_getr 20 346 rfl hS.k336 hm0.f_336_20 (by decide) ?_
          refine g_C ?_
          refine g_A (by omega) (by omega) ?_
          refine g_ld (0) (5) hS.k346 hS.l346 (by omega) (by omega) (fam_346_58_3_0_7 hm0 (a := u4) (by omega) (by omega) (by omega)) (fun v169 ev169 bv169 cv169 => ?_)
          refine g_if (fun w170 => ?_) (fun w170 => ?_)
          · refine u_X12_roadOf_68 ?_
            refine g_getr 20 346 rfl hS.k336 hm0.f_336_20 (by decide) ?_
            refine g_C ?_
            refine g_A (by omega) (by omega) ?_
            refine g_ld (0) (5) hS.k346 hS.l346 (by omega) (by omega) (fam_346_59_3_0_7 hm0 (a := u4) (by omega) (by omega) (by omega)) (fun v171 ev171 bv171 cv171 => ?_)
            exact hk v171 (by omega) (by omega)
          · refine u_X12_roadOf_44 ?_
            refine g_getr 20 346 rfl hS.k336 hm0.f_336_20 (by decide) ?_
            refine g_ld (0) (5) hS.k346 hS.l346 (by omega) (by omega) (fam_346_57_3_0_7 hm0 (a := u4) (by omega) (by omega) (by omega)) (fun v172 ev172 bv172 cv172 => ?_)
            have qv172 : v172 = v162 := ev172.trans ev162.symm
            refine g_if (fun w173 => ?_) (fun w173 => ?_)
            · refine u_X12_roadOf_78 ?_
              refine g_A (by omega) (by omega) ?_
              exact ih_n_l159 (u4 + 1) (by omega) (by omega) (by omega)
            · refine g_getr 20 346 rfl hS.k336 hm0.f_336_20 (by decide) ?_
              refine g_C ?_
              refine g_A (by omega) (by omega) ?_
              refine g_ld (0) (5) hS.k346 hS.l346 (by omega) (by omega) (fam_346_58_3_0_7 hm0 (a := u4) (by omega) (by omega) (by omega)) (fun v174 ev174 bv174 cv174 => ?_)
              have qv174 : v174 = v169 := ev174.trans ev169.symm
              refine g_if (fun w175 => ?_) (fun w175 => ?_)
              · refine u_X12_roadOf_78 ?_
                refine g_A (by omega) (by omega) ?_
                exact ih_n_l159 (u4 + 1) (by omega) (by omega) (by omega)
              · refine u_X12_roadOf_68 ?_
                refine g_getr 20 346 rfl hS.k336 hm0.f_336_20 (by decide) ?_
                refine g_C ?_
                refine g_A (by omega) (by omega) ?_
                refine g_ld (0) (5) hS.k346 hS.l346 (by omega) (by omega) (fam_346_59_3_0_7 hm0 (a := u4) (by omega) (by omega) (by omega)) (fun v176 ev176 bv176 cv176 => ?_)
                exact hk v176 (by omega) (by omega)
  exact ⟨9, L_n_l159 9 0 (by omega) (by omega) (by omega)⟩
theorem z_X12_bits {X : Mm} {S : Sh} {m0 : Mm} {K : Int → Mm → Prop} {u0 : Int} (hS : Shp S) (hm0 : Inv X S m0) (l_u0 : 0 ≤ u0) (h_u0 : u0 ≤ 1023) (hk : ∀ (r : Int), 0 ≤ r → r ≤ 1024 → K r m0) : wp_X12_bits S m0 u0 K := s_X12_bits ⟨l_u0, by omega⟩ (fun r hr => hk r hr.1 hr.2)
end
section
theorem Inv.rfm {X : Mm} {S : Sh} {M : Mm} (h : Inv X S M) : RfM M := ⟨h.f_336_0, h.f_336_3, h.f_336_4, h.f_336_5, h.f_336_6, h.f_336_7, h.f_336_15, h.f_336_17, h.f_336_19, h.f_336_20, h.f_336_24, h.f_336_26, h.f_336_27, h.f_336_28, h.f_336_30, h.f_336_31, h.f_336_32, h.f_336_34, h.f_336_35, h.f_336_36, h.f_336_37⟩
theorem fl_e {X : Mm} (c p : Int) (hc : ¬ c = -1) : up X (-1) 0 1 c p = X c p := up_ne (fun z => hc z.1)
theorem good_fl {X : Mm} (g : Good X) : Good (up X (-1) 0 1) := by
  have e : ∀ c p : Int, ¬ c = -1 → up X (-1) 0 1 c p = X c p := fl_e
  have pe : ∀ (t : Int) (n : Nat) (i d : Int), pfx (up X (-1) 0 1) t n i d = pfx X t n i d := by
    intro t n
    induction n with
    | zero => intro i d; rfl
    | succ n ih => intro i d; simp only [pfx, ih, e 338 _ (by decide)]
  have re : ∀ t : Int, rulOK (up X (-1) 0 1) t = rulOK X t := by
    intro t
    simp only [rulOK, pfr, pe, e 341 _ (by decide), e 340 _ (by decide)]
  unfold Good at g ⊢
  simp only [re, e 336 _ (by decide), e 355 _ (by decide), e 357 _ (by decide)]
  exact g
theorem bd_348 : ∀ p : Nat, p < 57 → bd 348 p = bd 346 p := by decide +kernel
theorem pT_348 : pT.getD 348 0 = 57 ∧ pT.getD 346 0 = 158 := by decide +kernel
theorem s_X12_laysBack {S : Sh} {M : Mm} {K : Mm → Prop} (hS : Shp S) (hR : RfM M) (h : ∀ M1, (∀ a j : Int, ¬ (a = 346 ∧ 0 ≤ j ∧ j < 57) → M1 a j = M a j) → (∀ j : Int, 0 ≤ j ∧ j < 57 → M1 346 j = M 348 j) → K M1) : wp_X12_laysBack S M 336 K := by
  have key : ∀ (n : Nat) (k : Int) (M2 : Mm), 0 ≤ k ∧ k ≤ 57 → 58 - k ≤ n → (∀ a j : Int, ¬ (a = 346 ∧ 0 ≤ j ∧ j < 57) → M2 a j = M a j) → (∀ j : Int, 0 ≤ j ∧ j < k → M2 346 j = M 348 j) → wp_X12_laysBack_2 S K n 336 k M2 := by
    intro n
    induction n with
    | zero => intro k M2 hk h2; exact absurd h2 (by omega)
    | succ n ih =>
      intro k M2 hk hn hs hc
      have f26 : M2 336 26 = 348 := (hs 336 26 (by decide)).trans hR.f26
      have f20 : M2 336 20 = 346 := (hs 336 20 (by decide)).trans hR.f20
      simp only [wp_X12_laysBack_2, wGetR, wGet, wC, wIf, wA, wLd, wSt, nc, f26, f20, hS.k336, hS.k346, hS.l346, hS.k348, hS.l348]
      refine ⟨fun q => h M2 hs (fun j hj => hc j (by omega)), fun q => ⟨trivial, by decide, trivial, by decide, trivial, by omega, trivial, by omega, ?_⟩⟩
      rw [w32_id (by omega) (by omega)]
      refine ih (k + 1) _ (by omega) (by omega) (fun x j hx => ?_) (fun j hj => ?_)
      · rw [up_ne (fun z => hx (by omega))]; exact hs x j hx
      · by_cases e : j = k
        · subst e
          rw [up_at]
          exact hs 348 j (by omega)
        · rw [up_ne (fun z => e z.2)]
          exact hc j (by omega)
  exact ⟨58, key 58 0 M (by omega) (by omega) (fun _ _ _ => rfl) (fun j hj => absurd hj (by omega))⟩
theorem z_X12_heatIn {X : Mm} {S : Sh} {m0 : Mm} {K : Int → Mm → Prop} {u1 : Int} (hS : Shp S) (hm0 : Inv X S m0) (l_u1 : (-2147483648) ≤ u1) (h_u1 : u1 ≤ 2147483647) (hk : ∀ (r : Int), (-2147483648) ≤ r → r ≤ 2147483647 → K r m0) : wp_X12_heatIn S m0 336 u1 K := by
  refine u_X12_heatIn ?_
  refine g_C ?_
  refine g_C ?_
  have L_n_l197 : ∀ (n_l197 : Nat) (u3 : Int) (u4 : Int), (-2147483648) ≤ u3 → u3 ≤ 2147483647 → 0 ≤ u4 → u4 ≤ 4 → 5 - u4 ≤ (n_l197 : Int) → wp_X12_heatIn_4 S K n_l197 336 u1 u3 u4 m0 := by
    intro n_l197
    induction n_l197 with
    | zero => intro u3 u4 bu3 cu3 bu4 cu4 zn_l197; exfalso; omega
    | succ n_l197 ih_n_l197 =>
      intro u3 u4 bu3 cu3 bu4 cu4 zn_l197
      refine u_X12_heatIn_4 ?_
      refine g_getr 20 346 rfl hS.k336 hm0.f_336_20 (by decide) ?_
      refine g_C ?_
      refine g_ld (0) (4) hS.k346 hS.l346 (by omega) (by omega) (hm0.f_346_9) (fun v198 ev198 bv198 cv198 => ?_)
      refine g_if (fun w199 => ?_) (fun w199 => ?_)
      · exact hk u3 (by omega) (by omega)
      · refine g_get 23 (0) (1) rfl hS.k336 hm0.f_336_23 (fun v200 ev200 bv200 cv200 => ?_)
        refine g_if (fun w201 => ?_) (fun w201 => ?_)
        · exact hk u3 (by omega) (by omega)
        · refine g_C ?_
          refine g_C ?_
          refine g_M (by omega) (by omega) ?_
          refine g_A (by omega) (by omega) ?_
          refine g_getr 20 346 rfl hS.k336 hm0.f_336_20 (by decide) ?_
          refine g_ld (0) (99) hS.k346 hS.l346 (by omega) (by omega) (fam_346_81_3_0_3 hm0 (a := u4) (by omega) (by omega) (by omega)) (fun v202 ev202 bv202 cv202 => ?_)
          refine g_if (fun w203 => ?_) (fun w203 => ?_)
          · refine u_X12_heatIn_67 ?_
            refine g_C ?_
            refine u_X12_heatIn_68 ?_
            refine g_A (by omega) (by omega) ?_
            refine g_A (by omega) (by omega) ?_
            exact ih_n_l197 (u3 + 0) (u4 + 1) (by omega) (by omega) (by omega) (by omega) (by omega)
          · refine g_getr 20 346 rfl hS.k336 hm0.f_336_20 (by decide) ?_
            refine g_C ?_
            refine g_A (by omega) (by omega) ?_
            refine g_ld (0) (99) hS.k346 hS.l346 (by omega) (by omega) (fam_346_82_3_0_3 hm0 (a := u4) (by omega) (by omega) (by omega)) (fun v204 ev204 bv204 cv204 => ?_)
            refine g_if (fun w205 => ?_) (fun w205 => ?_)
            · refine u_X12_heatIn_67 ?_
              refine g_C ?_
              refine u_X12_heatIn_68 ?_
              refine g_A (by omega) (by omega) ?_
              refine g_A (by omega) (by omega) ?_
              exact ih_n_l197 (u3 + 0) (u4 + 1) (by omega) (by omega) (by omega) (by omega) (by omega)
            · refine g_getr 20 346 rfl hS.k336 hm0.f_336_20 (by decide) ?_
              refine g_C ?_
              refine g_A (by omega) (by omega) ?_
              refine g_ld (0) (5) hS.k346 hS.l346 (by omega) (by omega) (fam_346_83_3_0_3 hm0 (a := u4) (by omega) (by omega) (by omega)) (fun v206 ev206 bv206 cv206 => ?_)
              refine u_X12_heatIn_68 ?_
              refine g_Aw (fun v207 bv207 cv207 => ?_)
              refine g_A (by omega) (by omega) ?_
              exact ih_n_l197 v207 (u4 + 1) (by omega) (by omega) (by omega) (by omega) (by omega)
  exact ⟨5, L_n_l197 5 0 0 (by omega) (by omega) (by omega) (by omega) (by omega)⟩
theorem z_X12_one {X : Mm} {S : Sh} {m0 : Mm} {K : Int → Mm → Prop} {u0 u1 u3 : Int} (hS : Shp S) (hm0 : Inv X S m0) (l_u0 : 0 ≤ u0) (h_u0 : u0 ≤ 15) (hk : ∀ (r : Int), K r m0) : wp_X12_one S m0 u0 u1 u3 K := by
  refine u_X12_one ?_
  refine g_if (fun w1 => ?_) (fun w1 => ?_)
  · refine g_LAw (fun v2 bv2 cv2 => ?_)
    exact hk v2
  · refine g_if (fun w3 => ?_) (fun w3 => ?_)
    · refine g_LSw (fun v4 bv4 cv4 => ?_)
      exact hk v4
    · refine g_if (fun w5 => ?_) (fun w5 => ?_)
      · refine g_LMw (fun v6 bv6 cv6 => ?_)
        exact hk v6
      · refine g_if (fun w7 => ?_) (fun w7 => ?_)
        · refine g_C ?_
          refine g_cmp (fun w8 => ?_) (fun w8 => ?_) (fun w8 => ?_)
          · refine g_ifT (by omega) ?_
            refine g_D64 (by omega) (fun v9 bv9 cv9 => ?_)
            exact hk v9
          · refine g_ifF (by omega) ?_
            refine g_C ?_
            exact hk 0
          · refine g_ifT (by omega) ?_
            refine g_D64 (by omega) (fun v10 bv10 cv10 => ?_)
            exact hk v10
        · refine g_if (fun w11 => ?_) (fun w11 => ?_)
          · refine g_cmp (fun w12 => ?_) (fun w12 => ?_) (fun w12 => ?_)
            · refine g_ifF (by omega) ?_
              refine g_C ?_
              exact hk 1
            · refine g_ifT (by omega) ?_
              refine g_C ?_
              exact hk 0
            · refine g_ifT (by omega) ?_
              refine g_C ?_
              exact hk 0
          · refine g_if (fun w13 => ?_) (fun w13 => ?_)
            · refine g_cmp (fun w14 => ?_) (fun w14 => ?_) (fun w14 => ?_)
              · refine g_ifF (by omega) ?_
                refine g_C ?_
                exact hk 1
              · refine g_ifF (by omega) ?_
                refine g_C ?_
                exact hk 1
              · refine g_ifT (by omega) ?_
                refine g_C ?_
                exact hk 0
            · refine g_if (fun w15 => ?_) (fun w15 => ?_)
              · refine g_cmp (fun w16 => ?_) (fun w16 => ?_) (fun w16 => ?_)
                · refine g_ifT (by omega) ?_
                  refine g_C ?_
                  exact hk 0
                · refine g_ifF (by omega) ?_
                  refine g_C ?_
                  exact hk 1
                · refine g_ifT (by omega) ?_
                  refine g_C ?_
                  exact hk 0
              · refine g_if (fun w17 => ?_) (fun w17 => ?_)
                · refine g_cmp (fun w18 => ?_) (fun w18 => ?_) (fun w18 => ?_)
                  · refine g_ifT (by omega) ?_
                    refine g_C ?_
                    exact hk 0
                  · refine g_ifF (by omega) ?_
                    refine g_C ?_
                    exact hk 1
                  · refine g_ifF (by omega) ?_
                    refine g_C ?_
                    exact hk 1
                · refine g_if (fun w19 => ?_) (fun w19 => ?_)
                  · refine g_cmp (fun w20 => ?_) (fun w20 => ?_) (fun w20 => ?_)
                    · refine g_ifT (by omega) ?_
                      refine g_C ?_
                      exact hk 0
                    · refine g_ifT (by omega) ?_
                      refine g_C ?_
                      exact hk 0
                    · refine g_ifF (by omega) ?_
                      refine g_C ?_
                      exact hk 1
                  · refine g_if (fun w21 => ?_) (fun w21 => ?_)
                    · refine g_o64 (fun v22 bv22 cv22 => ?_)
                      exact hk v22
                    · refine g_if (fun w23 => ?_) (fun w23 => ?_)
                      · refine g_o64 (fun v24 bv24 cv24 => ?_)
                        exact hk v24
                      · refine g_if (fun w25 => ?_) (fun w25 => ?_)
                        · refine g_o64 (fun v26 bv26 cv26 => ?_)
                          exact hk v26
                        · refine g_if (fun w27 => ?_) (fun w27 => ?_)
                          · refine g_C ?_
                            refine g_cmp (fun w28 => ?_) (fun w28 => ?_) (fun w28 => ?_)
                            · refine g_ifT (by omega) ?_
                              refine g_D64 (by omega) (fun v29 bv29 cv29 => ?_)
                              exact hk v29
                            · refine g_ifF (by omega) ?_
                              refine g_C ?_
                              exact hk 0
                            · refine g_ifT (by omega) ?_
                              refine g_D64 (by omega) (fun v30 bv30 cv30 => ?_)
                              exact hk v30
                          · refine g_o64 (fun v31 bv31 cv31 => ?_)
                            exact hk v31
theorem z_X12_pop {X : Mm} {S : Sh} {m0 : Mm} {K : Int → Mm → Prop} (hS : Shp S) (hm0 : Inv X S m0) (p0 : 1 ≤ m0 336 18) (p1 : m0 336 18 ≤ 64) (hk : ∀ (r : Int) (M1 : Mm), Inv X S M1 → (∀ c p : Int, ¬ c = 344 ∧ ¬ (c = 336 ∧ 18 ≤ p ∧ p ≤ 18) → M1 c p = m0 c p) → (M1 336 18 = m0 336 18 - 1) → K r M1) : wp_X12_pop S m0 336 K := by
  have Fm0 : ∀ c p : Int, ¬ c = 344 ∧ ¬ (c = 336 ∧ 18 ≤ p ∧ p ≤ 18) → m0 c p = m0 c p := fun c p _ => rfl
  refine u_X12_pop ?_
  refine g_get 18 (-2147483648) (2147483647) rfl hS.k336 hm0.f_336_18 (fun v1 ev1 bv1 cv1 => ?_)
  have qv1 : v1 = (m0 336 18) := ev1.trans (Eq.refl (m0 336 18)).symm
  refine g_C ?_
  refine g_S (by omega) (by omega) ?_
  refine g_put 18 rfl hS.k336 (hm0.w_336_18 (by omega) (by omega)) (fun m2 em2 hm2 => ?_)
  have Fm2 : ∀ c p : Int, ¬ c = 344 ∧ ¬ (c = 336 ∧ 18 ≤ p ∧ p ≤ 18) → m2 c p = m0 c p := fun c p h => (congrFun (congrFun em2 _) _).trans ((up_ne (by omega)).trans (Fm0 c p h))
  refine g_getr 17 344 rfl hS.k336 hm2.f_336_17 (by decide) ?_
  refine g_get 18 (-2147483648) (2147483647) rfl hS.k336 hm2.f_336_18 (fun v3 ev3 bv3 cv3 => ?_)
  have qv3 : v3 = (v1 - 1) := ev3.trans ((congrFun (congrFun em2 _) _).trans (up_ate (by omega)))
  refine g_ldu hS.k344 hS.l344 (by omega) (by omega) (fun v4 ev4 => ?_)
  have zb5 := hm2.f_336_18
  have q6 : m2 336 18 = (v1 - 1) := (Eq.refl (m2 336 18)).trans ((congrFun (congrFun em2 _) _).trans (up_ate (by omega)))
  exact hk v4 m2 hm2 Fm2 (by omega)
theorem z_X12_push {X : Mm} {S : Sh} {m0 : Mm} {K : Mm → Prop} {u1 : Int} (hS : Shp S) (hm0 : Inv X S m0) (p0 : 0 ≤ m0 336 18) (p1 : m0 336 18 ≤ 63) (hk : ∀ (M1 : Mm), Inv X S M1 → (∀ c p : Int, ¬ c = 344 ∧ ¬ (c = 336 ∧ 18 ≤ p ∧ p ≤ 18) → M1 c p = m0 c p) → (M1 336 18 = m0 336 18 + 1) → K M1) : wp_X12_push S m0 336 u1 K := by
  have Fm0 : ∀ c p : Int, ¬ c = 344 ∧ ¬ (c = 336 ∧ 18 ≤ p ∧ p ≤ 18) → m0 c p = m0 c p := fun c p _ => rfl
  refine u_X12_push ?_
  refine g_getr 17 344 rfl hS.k336 hm0.f_336_17 (by decide) ?_
  refine g_get 18 (-2147483648) (2147483647) rfl hS.k336 hm0.f_336_18 (fun v1 ev1 bv1 cv1 => ?_)
  have qv1 : v1 = (m0 336 18) := ev1.trans (Eq.refl (m0 336 18)).symm
  refine g_st hS.k344 hS.l344 (by omega) (by omega) (hm0.wa_344 (by omega) (by omega)) (fun m2 em2 hm2 => ?_)
  have Fm2 : ∀ c p : Int, ¬ c = 344 ∧ ¬ (c = 336 ∧ 18 ≤ p ∧ p ≤ 18) → m2 c p = m0 c p := fun c p h => (congrFun (congrFun em2 _) _).trans ((up_ne (by omega)).trans (Fm0 c p h))
  refine g_get 18 (-2147483648) (2147483647) rfl hS.k336 hm2.f_336_18 (fun v3 ev3 bv3 cv3 => ?_)
  have qv3 : v3 = (m0 336 18) := ev3.trans ((congrFun (congrFun em2 _) _).trans ((up_ne (by omega)).trans (Eq.refl (m0 336 18)).symm))
  refine g_C ?_
  refine g_A (by omega) (by omega) ?_
  refine g_put 18 rfl hS.k336 (hm2.w_336_18 (by omega) (by omega)) (fun m4 em4 hm4 => ?_)
  have Fm4 : ∀ c p : Int, ¬ c = 344 ∧ ¬ (c = 336 ∧ 18 ≤ p ∧ p ≤ 18) → m4 c p = m0 c p := fun c p h => (congrFun (congrFun em4 _) _).trans ((up_ne (by omega)).trans (Fm2 c p h))
  have zb5 := hm4.f_336_18
  have q6 : m4 336 18 = (v3 + 1) := (Eq.refl (m4 336 18)).trans ((congrFun (congrFun em4 _) _).trans (up_ate (by omega)))
  exact hk m4 hm4 Fm4 (by omega)
theorem z_X12_reckons {X : Mm} {S : Sh} {m0 : Mm} {K : Int → Mm → Prop} {u1 u2 u3 : Int} (hS : Shp S) (hm0 : Inv X S m0) (h1 : 0 ≤ u1) (h2 : u1 < X 336 2) (hp : pfr X u1 u2 u3) (hk : ∀ (r : Int) (M1 : Mm), Inv X S M1 → (∀ c p : Int, ¬ c = 344 ∧ ¬ c = 345 ∧ ¬ (c = 336 ∧ 18 ≤ p ∧ p ≤ 18) → M1 c p = m0 c p) → K r M1) : wp_X12_reckons S m0 336 u1 u2 u3 K := by
  obtain ⟨p1, p2, p3, p4⟩ := hp
  have hx2 := hm0.good.2.2.1
  have F0 : ∀ c p : Int, ¬ c = 344 ∧ ¬ c = 345 ∧ ¬ (c = 336 ∧ 18 ≤ p ∧ p ≤ 18) → m0 c p = m0 c p := fun c p _ => rfl
  refine u_X12_reckons ?_
  refine g_C ?_
  refine g_put 18 rfl hS.k336 (hm0.w_336_18 (by omega) (by omega)) (fun m1 em1 hm1 => ?_)
  have F1 : ∀ c p : Int, ¬ c = 344 ∧ ¬ c = 345 ∧ ¬ (c = 336 ∧ 18 ≤ p ∧ p ≤ 18) → m1 c p = m0 c p := fun c p h => (congrFun (congrFun em1 _) _).trans (up_ne (by omega))
  have t1 : m1 336 18 = 0 := (congrFun (congrFun em1 _) _).trans (up_at _ _ _ _)
  have L : ∀ (n : Nat) (i : Int) (m : Mm), Inv X S m → (∀ c p : Int, ¬ c = 344 ∧ ¬ c = 345 ∧ ¬ (c = 336 ∧ 18 ≤ p ∧ p ≤ 18) → m c p = m0 c p) → u2 ≤ i → i ≤ u3 → (0 ≤ m 336 18 ∧ m 336 18 ≤ 64) → pfx X u1 (u3 - i).toNat i (m 336 18) → u3 + 1 - i ≤ (n : Int) → wp_X12_reckons_8 S K n 336 u1 u3 i m := by
    intro n
    induction n with
    | zero => intro i m _ _ _ _ _ _ h5; exfalso; omega
    | succ n ih =>
      intro i m hm F a1 a2 a3 a4 a5
      refine u_X12_reckons_8 ?_
      refine g_if (fun w => ?_) (fun w => ?_)
      · have e : (u3 - i).toNat = 0 := by omega
        rw [e] at a4
        have a6 : m 336 18 = 1 := a4
        refine ⟨hS.k336, ?_⟩
        refine z_X12_pop hS hm (by omega) (by omega) (fun r m2 hm2 f2 y => ?_)
        exact hk r m2 hm2 (fun c p h => (f2 c p (by omega)).trans (F c p h))
      · obtain ⟨k, ek⟩ : ∃ k : Nat, (u3 - i).toNat = k + 1 := ⟨(u3 - i).toNat - 1, by omega⟩
        have ek2 : (u3 - (i + 1)).toNat = k := by omega
        rw [ek] at a4
        have sg : m 338 (400 * u1 + i) = X 338 (400 * u1 + i) := hm.2.1 _ _ (Or.inr (Or.inl ⟨rfl, by omega⟩))
        refine g_getr 3 338 rfl hS.k336 hm.f_336_3 (by decide) ?_
        refine g_C ?_
        refine g_M (by omega) (by omega) ?_
        refine g_A (by omega) (by omega) ?_
        refine g_ldu hS.k338 hS.l338 (by omega) (by omega) (fun v ev => ?_)
        refine g_C ?_
        refine g_Oe (fun s es => ?_)
        refine g_getr 3 338 rfl hS.k336 hm.f_336_3 (by decide) ?_
        refine g_C ?_
        refine g_M (by omega) (by omega) ?_
        refine g_A (by omega) (by omega) ?_
        refine g_ldu hS.k338 hS.l338 (by omega) (by omega) (fun v2 ev2 => ?_)
        refine g_C ?_
        refine g_Oe (fun t et => ?_)
        have es2 : iAnd (X 338 (400 * u1 + i)) 15 = s := by rw [es, ev, sg]
        have et2 : iShr (X 338 (400 * u1 + i)) 4 = t := by rw [et, ev2, sg]
        have sb : 0 ≤ s ∧ s ≤ 15 := by rw [es]; exact iAnd_bd (by decide) (by decide)
        unfold pfx at a4
        rw [es2, et2] at a4
        have nx : ∀ m4 : Mm, Inv X S m4 → (∀ c p : Int, ¬ c = 344 ∧ ¬ c = 345 ∧ ¬ (c = 336 ∧ 18 ≤ p ∧ p ≤ 18) → m4 c p = m0 c p) → (0 ≤ m4 336 18 ∧ m4 336 18 ≤ 64) → pfx X u1 k (i + 1) (m4 336 18) → wp_X12_reckons_129 S (fun a0 a1 a2 a3 M => wp_X12_reckons_8 S K n a0 a1 a2 a3 M) K 336 u1 u3 i m4 := by
          intro m4 b1 b2 b3 b4
          refine u_X12_reckons_129 ?_
          refine g_A (by omega) (by omega) ?_
          exact ih (i + 1) m4 b1 b2 (by omega) (by omega) b3 (by rw [ek2]; exact b4) (by omega)
        have ps : ∀ x : Int, m 336 18 < 64 → pfx X u1 k (i + 1) (m 336 18 + 1) → wp_X12_push S m 336 x (fun M => wp_X12_reckons_129 S (fun a0 a1 a2 a3 M => wp_X12_reckons_8 S K n a0 a1 a2 a3 M) K 336 u1 u3 i M) := by
          intro x b1 b2
          refine z_X12_push hS hm (by omega) (by omega) (fun m4 hm4 f4 y4 => ?_)
          exact nx m4 hm4 (fun c p h => (f4 c p (by omega)).trans (F c p h)) (by omega) (by rw [y4]; exact b2)
        refine g_if (fun w2 => ?_) (fun w2 => ?_)
        · refine g_C ?_
          refine g_if (fun w3 => ?_) (fun w3 => ?_)
          · refine g_C ?_
            refine g_if (fun w4 => ?_) (fun w4 => ?_)
            · have a7 : 2 ≤ m 336 18 ∧ pfx X u1 k (i + 1) (m 336 18 - 1) := by
                rcases a4 with q | q | q | q
                · exact absurd q.1 w2
                · exact absurd q.1 w3
                · exact absurd q.1 w4
                · exact q.2.2.2
              refine ⟨hS.k336, ?_⟩
              refine z_X12_pop hS hm (by omega) (by omega) (fun x m2 hm2 f2 y2 => ?_)
              refine ⟨hS.k336, ?_⟩
              refine z_X12_pop hS hm2 (by omega) (by omega) (fun x3 m3 hm3 f3 y3 => ?_)
              refine z_X12_one hS hm3 (by omega) (by omega) (fun x4 => ?_)
              refine ⟨hS.k336, ?_⟩
              refine z_X12_push hS hm3 (by omega) (by omega) (fun m4 hm4 f4 y4 => ?_)
              refine nx m4 hm4 (fun c p h => (f4 c p (by omega)).trans ((f3 c p (by omega)).trans ((f2 c p (by omega)).trans (F c p h)))) (by omega) ?_
              rw [show m4 336 18 = m 336 18 - 1 by omega]
              exact a7.2
            · have a7 : 1 ≤ m 336 18 ∧ pfx X u1 k (i + 1) (m 336 18) := by
                rcases a4 with q | q | q | q
                · exact absurd q.1 w2
                · exact absurd q.1 w3
                · exact q.2
                · exact absurd q.2.2.1 w4
              refine g_C ?_
              refine ⟨hS.k336, ?_⟩
              refine z_X12_pop hS hm (by omega) (by omega) (fun x m2 hm2 f2 y2 => ?_)
              refine g_LSw (fun x3 _ _ => ?_)
              refine ⟨hS.k336, ?_⟩
              refine z_X12_push hS hm2 (by omega) (by omega) (fun m4 hm4 f4 y4 => ?_)
              refine nx m4 hm4 (fun c p h => (f4 c p (by omega)).trans ((f2 c p (by omega)).trans (F c p h))) (by omega) ?_
              rw [show m4 336 18 = m 336 18 by omega]
              exact a7.2
          · have a7 : 0 ≤ t ∧ t ≤ 9 ∧ m 336 18 < 64 ∧ pfx X u1 k (i + 1) (m 336 18 + 1) := by
              rcases a4 with q | q | q | q
              · exact absurd q.1 (by omega)
              · exact q.2
              · exact absurd q.1 (by omega)
              · exact absurd (by omega) q.2.1
            refine g_getr 19 345 rfl hS.k336 hm.f_336_19 (by decide) ?_
            refine g_ldu hS.k345 hS.l345 (by omega) (by omega) (fun x ex => ?_)
            exact ⟨hS.k336, ps x a7.2.2.1 a7.2.2.2⟩
        · have a7 : m 336 18 < 64 ∧ pfx X u1 k (i + 1) (m 336 18 + 1) := by
            rcases a4 with q | q | q | q
            · exact q.2
            · exact absurd q.1 (by omega)
            · exact absurd q.1 (by omega)
            · exact absurd (by omega) q.1
          refine g_C ?_
          exact ⟨hS.k336, ps t a7.1 a7.2⟩
  refine ⟨(u3 + 1 - u2).toNat, L _ u2 m1 hm1 F1 (by omega) (by omega) (by omega) ?_ (by omega)⟩
  rw [t1]
  exact p4
theorem z_X12_summedBy {X : Mm} {S : Sh} {m0 : Mm} {K : Int → Mm → Prop} {u1 : Int} (hS : Shp S) (hm0 : Inv X S m0) (l_u1 : 0 ≤ u1) (h_u1 : u1 ≤ 5) (p0 : u1 < X 336 2) (hk : ∀ (r : Int) (M1 : Mm), Inv X S M1 → (∀ c p : Int, ¬ c = 344 ∧ ¬ c = 345 ∧ ¬ (c = 336 ∧ 18 ≤ p ∧ p ≤ 18) → M1 c p = m0 c p) → K r M1) : wp_X12_summedBy S m0 336 u1 K := by
  have rk := hm0.good.2.2.2 u1 l_u1 p0
  have rk1 := rk.1.2
  have rk2 := hm0.good.2.2.1
  refine u_X12_summedBy ?_
  refine g_C ?_
  have L : ∀ (n : Nat) (i : Int) (m : Mm), Inv X S m → (∀ c p : Int, ¬ c = 344 ∧ ¬ c = 345 ∧ ¬ (c = 336 ∧ 18 ≤ p ∧ p ≤ 18) → m c p = m0 c p) → 0 ≤ i → i ≤ 12 → 13 - i ≤ (n : Int) → wp_X12_summedBy_2 S K n 336 u1 i m := by
    intro n
    induction n with
    | zero => intro i m _ _ _ _ h5; exfalso; omega
    | succ n ih =>
      intro i m hm F a1 a2 a5
      refine u_X12_summedBy_2 ?_
      refine g_getr 6 341 rfl hS.k336 hm.f_336_6 (by decide) ?_
      refine g_ldu hS.k341 hS.l341 (by omega) (by omega) (fun v ev => ?_)
      have ec : v = X 341 u1 := ev.trans (hm.2.1 _ _ (Or.inr (Or.inr (Or.inr ⟨rfl, p0⟩))))
      refine g_if (fun w => ?_) (fun w => ?_)
      · refine g_C ?_
        exact hk 0 m hm F
      · obtain ⟨r1, r2⟩ := rk.2 i a1 (by omega)
        have cl : ∀ (m' : Mm) (q : Int), Inv X S m' → 0 ≤ q → q ≤ 3 → m' 340 (48 * u1 + 4 * i + q) = X 340 (48 * u1 + 4 * i + q) := fun m' q hm' q0 q3 => hm'.2.1 _ _ (Or.inr (Or.inr (Or.inl ⟨rfl, by omega⟩)))
        have c0 : ∀ m' : Mm, Inv X S m' → m' 340 (48 * u1 + 4 * i) = X 340 (48 * u1 + 4 * i) := fun m' hm' => hm'.2.1 _ _ (Or.inr (Or.inr (Or.inl ⟨rfl, by omega⟩)))
        have fin : ∀ m' : Mm, Inv X S m' → (∀ c p : Int, ¬ c = 344 ∧ ¬ c = 345 ∧ ¬ (c = 336 ∧ 18 ≤ p ∧ p ≤ 18) → m' c p = m0 c p) → wp_X12_summedBy_58 S K 336 u1 (48 * u1 + 4 * i) m' := by
          intro m' hm' F'
          refine u_X12_summedBy_58 ?_
          refine g_getr 5 340 rfl hS.k336 hm'.f_336_5 (by decide) ?_
          refine g_ldu hS.k340 hS.l340 (by omega) (by omega) (fun x ex => ?_)
          refine g_getr 5 340 rfl hS.k336 hm'.f_336_5 (by decide) ?_
          refine g_C ?_
          refine g_A (by omega) (by omega) ?_
          refine g_ldu hS.k340 hS.l340 (by omega) (by omega) (fun y ey => ?_)
          refine ⟨hS.k336, ?_⟩
          refine z_X12_reckons hS hm' l_u1 p0 ?_ (fun r m2 hm2 F2 => hk r m2 hm2 (fun c p h => (F2 c p h).trans (F' c p h)))
          rw [ex, ey, c0 m' hm', cl m' 1 hm' (by decide) (by decide)]
          exact r1
        refine g_C ?_
        refine g_M (by omega) (by omega) ?_
        refine g_C ?_
        refine g_M (by omega) (by omega) ?_
        refine g_A (by omega) (by omega) ?_
        refine g_getr 5 340 rfl hS.k336 hm.f_336_5 (by decide) ?_
        refine g_C ?_
        refine g_A (by omega) (by omega) ?_
        refine g_ldu hS.k340 hS.l340 (by omega) (by omega) (fun x ex => ?_)
        have ex2 := cl m 2 hm (by decide) (by decide)
        refine g_if (fun w2 => ?_) (fun w2 => ?_)
        · exact fin m hm F
        · refine g_getr 5 340 rfl hS.k336 hm.f_336_5 (by decide) ?_
          refine g_C ?_
          refine g_A (by omega) (by omega) ?_
          refine g_ldu hS.k340 hS.l340 (by omega) (by omega) (fun y ey => ?_)
          refine g_getr 5 340 rfl hS.k336 hm.f_336_5 (by decide) ?_
          refine g_C ?_
          refine g_A (by omega) (by omega) ?_
          refine g_ldu hS.k340 hS.l340 (by omega) (by omega) (fun z ez => ?_)
          refine ⟨hS.k336, ?_⟩
          refine z_X12_reckons hS hm l_u1 p0 ?_ (fun r m2 hm2 F2 => ?_)
          · rcases r2 with r2 | r2
            · exfalso; omega
            · rw [ey, ez, ex2, cl m 3 hm (by decide) (by decide)]
              exact r2
          · have F3 : ∀ c p : Int, ¬ c = 344 ∧ ¬ c = 345 ∧ ¬ (c = 336 ∧ 18 ≤ p ∧ p ≤ 18) → m2 c p = m0 c p := fun c p h => (F2 c p h).trans (F c p h)
            refine g_C ?_
            refine g_cmp (fun q => ?_) (fun q => ?_) (fun q => ?_)
            · refine g_ifT (by decide) ?_
              refine g_A (by omega) (by omega) ?_
              exact ih (i + 1) m2 hm2 F3 (by omega) (by omega) (by omega)
            · refine g_ifF (by decide) ?_
              exact fin m2 hm2 F3
            · refine g_ifT (by decide) ?_
              refine g_A (by omega) (by omega) ?_
              exact ih (i + 1) m2 hm2 F3 (by omega) (by omega) (by omega)
  exact ⟨13, L 13 0 m0 hm0 (fun _ _ _ => rfl) (by omega) (by omega) (by omega)⟩
end
