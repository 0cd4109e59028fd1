theorem z_X12_fillsHours {X : Mm} {S : Sh} {m0 : Mm} {K : Mm → Prop} {u1 : Int} (hS : Shp S) (hm0 : Inv X S m0) (l_u1 : 0 ≤ u1) (h_u1 : u1 ≤ 5) (hk : ∀ (M1 : Mm), Inv X S M1 → K M1) : wp_X12_fillsHours S m0 336 u1 K := by
  sorry
theorem z_X12_brings {X : Mm} {S : Sh} {m0 : Mm} {K : Int → Mm → Prop} {u1 u2 u3 : Int} (hS : Shp S) (hm0 : Inv X S m0) (l_u1 : (-2147483648) ≤ u1) (h_u1 : u1 ≤ 2147483647) (l_u2 : (-2147483648) ≤ u2) (h_u2 : u2 ≤ 2147483647) (l_u3 : (-2147483648) ≤ u3) (h_u3 : u3 ≤ 2147483647) (hk : ∀ (r : Int) (M1 : Mm), Inv X S M1 → (-2147483648) ≤ r → r ≤ 2147483647 → K r M1) : wp_X12_brings S m0 336 u1 u2 u3 K := by
  refine u_X12_brings ?_
  refine ⟨hS.k336, ?_⟩
  refine u_X12_isHand ?_
  refine g_if (fun w1 => ?_) (fun w1 => ?_)
  · refine g_C ?_
    refine ⟨by omega, ?_⟩
    refine g_ifT (by omega) ?_
    refine g_C ?_
    exact hk (-1) m0 hm0 (by omega) (by omega)
  · refine g_getr 20 346 rfl hS.k336 hm0.f_336_20 (by decide) ?_
    refine g_C ?_
    refine g_ld (0) (5) hS.k346 hS.l346 (by omega) (by omega) (hm0.f_346_4) (fun v2 ev2 bv2 cv2 => ?_)
    refine g_if (fun w3 => ?_) (fun w3 => ?_)
    · refine g_C ?_
      refine ⟨by omega, ?_⟩
      refine g_ifT (by omega) ?_
      refine g_C ?_
      exact hk (-1) m0 hm0 (by omega) (by omega)
    · refine g_C ?_
      refine ⟨by omega, ?_⟩
      refine g_ifF (by omega) ?_
      refine ⟨hS.k336, ?_⟩
      refine u_X12_isJug ?_
      refine g_if (fun w4 => ?_) (fun w4 => ?_)
      · refine g_C ?_
        refine ⟨by omega, ?_⟩
        refine g_ifT (by omega) ?_
        refine g_C ?_
        exact hk (-1) m0 hm0 (by omega) (by omega)
      · refine g_getr 20 346 rfl hS.k336 hm0.f_336_20 (by decide) ?_
        refine g_C ?_
        refine g_ld (0) (4) hS.k346 hS.l346 (by omega) (by omega) (hm0.f_346_5) (fun v5 ev5 bv5 cv5 => ?_)
        refine g_if (fun w6 => ?_) (fun w6 => ?_)
        · refine g_C ?_
          refine ⟨by omega, ?_⟩
          refine g_ifT (by omega) ?_
          refine g_C ?_
          exact hk (-1) m0 hm0 (by omega) (by omega)
        · refine g_C ?_
          refine ⟨by omega, ?_⟩
          refine g_ifF (by omega) ?_
          refine ⟨hS.k336, ?_⟩
          refine u_X12_stands ?_
          refine g_C ?_
          refine ⟨hS.k336, ?_⟩
          refine u_X12_jugOf ?_
          refine g_getr 20 346 rfl hS.k336 hm0.f_336_20 (by decide) ?_
          refine g_C ?_
          refine g_C ?_
          refine g_M (by omega) (by omega) ?_
          refine g_A (by omega) (by omega) ?_
          refine g_A (by omega) (by omega) ?_
          refine g_ld (-1) (4) hS.k346 hS.l346 (by omega) (by omega) (fam_346_36_4_0_3 hm0 (a := u2) (by omega) (by omega) (by omega)) (fun v7 ev7 bv7 cv7 => ?_)
          refine g_if (fun w8 => ?_) (fun w8 => ?_)
          · refine g_C ?_
            refine ⟨by omega, ?_⟩
            refine g_ifT (by omega) ?_
            refine g_C ?_
            exact hk (-1) m0 hm0 (by omega) (by omega)
          · refine g_C ?_
            refine ⟨hS.k336, ?_⟩
            refine u_X12_jugOf ?_
            refine g_getr 20 346 rfl hS.k336 hm0.f_336_20 (by decide) ?_
            refine g_C ?_
            refine g_C ?_
            refine g_M (by omega) (by omega) ?_
            refine g_A (by omega) (by omega) ?_
            refine g_A (by omega) (by omega) ?_
            refine g_ld (0) (1) hS.k346 hS.l346 (by omega) (by omega) (fam_346_38_4_0_3 hm0 (a := u2) (by omega) (by omega) (by omega)) (fun v9 ev9 bv9 cv9 => ?_)
            refine g_if (fun w10 => ?_) (fun w10 => ?_)
            · refine g_C ?_
              refine ⟨by omega, ?_⟩
              refine g_ifT (by omega) ?_
              refine g_C ?_
              exact hk (-1) m0 hm0 (by omega) (by omega)
            · refine g_C ?_
              refine ⟨by omega, ?_⟩
              refine g_ifF (by omega) ?_
              refine ⟨hS.k336, ?_⟩
              refine u_X12_isPlace ?_
              refine g_if (fun w11 => ?_) (fun w11 => ?_)
              · refine g_C ?_
                refine ⟨by omega, ?_⟩
                refine g_ifF (by omega) ?_
                refine g_C ?_
                exact hk (-1) m0 hm0 (by omega) (by omega)
              · refine g_getr 20 346 rfl hS.k336 hm0.f_336_20 (by decide) ?_
                refine g_C ?_
                refine g_ld (0) (6) hS.k346 hS.l346 (by omega) (by omega) (hm0.f_346_0) (fun v12 ev12 bv12 cv12 => ?_)
                refine g_if (fun w13 => ?_) (fun w13 => ?_)
                · refine g_C ?_
                  refine ⟨by omega, ?_⟩
                  refine g_ifF (by omega) ?_
                  refine g_C ?_
                  exact hk (-1) m0 hm0 (by omega) (by omega)
                · refine g_C ?_
                  refine ⟨by omega, ?_⟩
                  refine g_ifT (by omega) ?_
                  refine ⟨hS.k336, ?_⟩
                  refine z_X12_fillsHours hS hm0 (by omega) (by omega) (fun m14 hm14 => ?_)
                  refine g_getr 27 349 rfl hS.k336 hm14.f_336_27 (by decide) ?_
                  refine g_C ?_
                  refine ⟨hS.k336, ?_⟩
                  refine u_X12_jugOf ?_
                  refine g_getr 20 346 rfl hS.k336 hm14.f_336_20 (by decide) ?_
                  refine g_C ?_
                  refine g_C ?_
                  refine g_M (by omega) (by omega) ?_
                  refine g_A (by omega) (by omega) ?_
                  refine g_A (by omega) (by omega) ?_
                  refine g_ld (0) (5) hS.k346 hS.l346 (by omega) (by omega) (fam_346_35_4_0_3 hm14 (a := u2) (by omega) (by omega) (by omega)) (fun v15 ev15 bv15 cv15 => ?_)
                  refine g_ld (0) (99) hS.k349 hS.l349 (by omega) (by omega) (hm14.a_349 (by omega) (by omega)) (fun v16 ev16 bv16 cv16 => ?_)
                  refine g_C ?_
                  refine g_if (fun w17 => ?_) (fun w17 => ?_)
                  · refine g_C ?_
                    refine ⟨hS.k336, ?_⟩
                    refine u_X12_jugOf ?_
                    refine g_getr 20 346 rfl hS.k336 hm14.f_336_20 (by decide) ?_
                    refine g_C ?_
                    refine g_C ?_
                    refine g_M (by omega) (by omega) ?_
                    refine g_A (by omega) (by omega) ?_
                    refine g_A (by omega) (by omega) ?_
                    refine g_ld (-2147483648) (2147483647) hS.k346 hS.l346 (by omega) (by omega) (fam_346_37_4_0_3 hm14 (a := u2) (by omega) (by omega) (by omega)) (fun v18 ev18 bv18 cv18 => ?_)
                    refine g_getr 20 346 rfl hS.k336 hm14.f_336_20 (by decide) ?_
                    refine g_C ?_
                    refine g_ld (-2147483648) (2147483647) hS.k346 hS.l346 (by omega) (by omega) (hm14.f_346_7) (fun v19 ev19 bv19 cv19 => ?_)
                    refine g_C ?_
                    refine ⟨hS.k336, ?_⟩
                    refine z_X12_turnedBy hS hm14 (by omega) (by omega) (by omega) (by omega) (by omega) (by omega) (by omega) (by omega) (by omega) (by omega) (by omega) (by omega) (fun v20 m21 hm21 fm21 bv20 cv20 => ?_)
                    exact hk v20 m21 hm21 (by omega) (by omega)
                  · refine g_C ?_
                    exact hk (-2) m14 hm14 (by omega) (by omega)
theorem z_X12_count {X : Mm} {S : Sh} {m0 : Mm} {K : Int → Mm → Prop} {u1 : Int} (hS : Shp S) (hm0 : Inv X S m0) (l_u1 : (-2147483648) ≤ u1) (h_u1 : u1 ≤ 2147483647) (hk : ∀ (r : Int), (-2147483648) ≤ r → r ≤ 2147483647 → K r m0) : wp_X12_count S m0 336 u1 K := by
  refine u_X12_count ?_
  refine g_if (fun w1 => ?_) (fun w1 => ?_)
  · refine g_getr 20 346 rfl hS.k336 hm0.f_336_20 (by decide) ?_
    refine g_ld (0) (6) hS.k346 hS.l346 (by omega) (by omega) (fam_346_0_1_0_0 hm0 (a := u1) (by omega) (by omega) (by omega)) (fun v2 ev2 bv2 cv2 => ?_)
    exact hk v2 (by omega) (by omega)
  · refine g_if (fun w3 => ?_) (fun w3 => ?_)
    · refine g_getr 20 346 rfl hS.k336 hm0.f_336_20 (by decide) ?_
      refine g_ld (0) (9) hS.k346 hS.l346 (by omega) (by omega) (fam_346_0_1_1_1 hm0 (a := u1) (by omega) (by omega) (by omega)) (fun v4 ev4 bv4 cv4 => ?_)
      exact hk v4 (by omega) (by omega)
    · refine g_if (fun w5 => ?_) (fun w5 => ?_)
      · refine g_getr 20 346 rfl hS.k336 hm0.f_336_20 (by decide) ?_
        refine g_ld (0) (99) hS.k346 hS.l346 (by omega) (by omega) (fam_346_0_1_2_2 hm0 (a := u1) (by omega) (by omega) (by omega)) (fun v6 ev6 bv6 cv6 => ?_)
        exact hk v6 (by omega) (by omega)
      · refine g_if (fun w7 => ?_) (fun w7 => ?_)
        · refine g_getr 20 346 rfl hS.k336 hm0.f_336_20 (by decide) ?_
          refine g_ld (0) (8) hS.k346 hS.l346 (by omega) (by omega) (fam_346_0_1_3_3 hm0 (a := u1) (by omega) (by omega) (by omega)) (fun v8 ev8 bv8 cv8 => ?_)
          exact hk v8 (by omega) (by omega)
        · refine g_if (fun w9 => ?_) (fun w9 => ?_)
          · refine g_getr 20 346 rfl hS.k336 hm0.f_336_20 (by decide) ?_
            refine g_ld (0) (5) hS.k346 hS.l346 (by omega) (by omega) (fam_346_0_1_4_4 hm0 (a := u1) (by omega) (by omega) (by omega)) (fun v10 ev10 bv10 cv10 => ?_)
            exact hk v10 (by omega) (by omega)
          · refine g_if (fun w11 => ?_) (fun w11 => ?_)
            · refine g_getr 20 346 rfl hS.k336 hm0.f_336_20 (by decide) ?_
              refine g_ld (0) (4) hS.k346 hS.l346 (by omega) (by omega) (fam_346_0_1_5_5 hm0 (a := u1) (by omega) (by omega) (by omega)) (fun v12 ev12 bv12 cv12 => ?_)
              exact hk v12 (by omega) (by omega)
            · refine g_if (fun w13 => ?_) (fun w13 => ?_)
              · refine g_getr 20 346 rfl hS.k336 hm0.f_336_20 (by decide) ?_
                refine g_ld (0) (6) hS.k346 hS.l346 (by omega) (by omega) (fam_346_0_1_6_6 hm0 (a := u1) (by omega) (by omega) (by omega)) (fun v14 ev14 bv14 cv14 => ?_)
                exact hk v14 (by omega) (by omega)
              · refine g_if (fun w15 => ?_) (fun w15 => ?_)
                · refine g_get 2 (0) (6) rfl hS.k336 hm0.f_336_2 (fun v16 ev16 bv16 cv16 => ?_)
                  exact hk v16 (by omega) (by omega)
                · refine g_if (fun w17 => ?_) (fun w17 => ?_)
                  · refine g_get 21 (-1) (5) rfl hS.k336 hm0.f_336_21 (fun v18 ev18 bv18 cv18 => ?_)
                    exact hk v18 (by omega) (by omega)
                  · refine g_if (fun w19 => ?_) (fun w19 => ?_)
                    · refine g_getr 20 346 rfl hS.k336 hm0.f_336_20 (by decide) ?_
                      refine g_C ?_
                      refine g_ld (-2147483648) (2147483647) hS.k346 hS.l346 (by omega) (by omega) (hm0.f_346_7) (fun v20 ev20 bv20 cv20 => ?_)
                      exact hk v20 (by omega) (by omega)
                    · refine g_if (fun w21 => ?_) (fun w21 => ?_)
                      · refine g_getr 20 346 rfl hS.k336 hm0.f_336_20 (by decide) ?_
                        refine g_C ?_
                        refine g_ld (-2147483648) (2147483647) hS.k346 hS.l346 (by omega) (by omega) (hm0.f_346_7) (fun v22 ev22 bv22 cv22 => ?_)
                        refine ⟨hS.k336, ?_⟩
                        refine z_X12_heatIn hS hm0 (by omega) (by omega) (fun v23 bv23 cv23 => ?_)
                        exact hk v23 (by omega) (by omega)
                      · refine g_if (fun w24 => ?_) (fun w24 => ?_)
                        · refine g_getr 20 346 rfl hS.k336 hm0.f_336_20 (by decide) ?_
                          refine g_C ?_
                          refine g_ld (-2147483648) (2147483647) hS.k346 hS.l346 (by omega) (by omega) (hm0.f_346_8) (fun v25 ev25 bv25 cv25 => ?_)
                          exact hk v25 (by omega) (by omega)
                        · refine g_if (fun w26 => ?_) (fun w26 => ?_)
                          · refine g_getr 20 346 rfl hS.k336 hm0.f_336_20 (by decide) ?_
                            refine g_C ?_
                            refine g_ld (0) (10) hS.k346 hS.l346 (by omega) (by omega) (hm0.f_346_157) (fun v27 ev27 bv27 cv27 => ?_)
                            exact hk v27 (by omega) (by omega)
                          · refine g_if (fun w28 => ?_) (fun w28 => ?_)
                            · refine g_get 25 (0) (20) rfl hS.k336 hm0.f_336_25 (fun v29 ev29 bv29 cv29 => ?_)
                              exact hk v29 (by omega) (by omega)
                            · refine g_if (fun w30 => ?_) (fun w30 => ?_)
                              · refine g_get 22 (0) (2147483647) rfl hS.k336 hm0.f_336_22 (fun v31 ev31 bv31 cv31 => ?_)
                                exact hk v31 (by omega) (by omega)
                              · refine g_if (fun w32 => ?_) (fun w32 => ?_)
                                · refine g_get 1 (0) (400) rfl hS.k336 hm0.f_336_1 (fun v33 ev33 bv33 cv33 => ?_)
                                  exact hk v33 (by omega) (by omega)
                                · refine g_C ?_
                                  exact hk (-1) (by omega) (by omega)
theorem z_X12_four {X : Mm} {S : Sh} {m0 : Mm} {K : Mm → Prop} {u1 : Int} (hS : Shp S) (hm0 : Inv X S m0) (l_u1 : (-2147483648) ≤ u1) (h_u1 : u1 ≤ 2147483647) (p0 : m0 336 1 ≤ 396) (hk : ∀ (M1 : Mm), Inv X S M1 → (M1 336 1 = m0 336 1 + 4) → K M1) : wp_X12_four S m0 336 u1 K := by
  refine u_X12_four ?_
  refine g_C ?_
  have L_n_l36 : ∀ (n_l36 : Nat) (u3 : Int) (m4 : Mm), Inv X S m4 → (-8) ≤ u3 → u3 ≤ 24 → (8 * m4 336 1 = 8 * m0 336 1 + 24 - u3) → u3 - (-9) ≤ (n_l36 : Int) → wp_X12_four_3 S K n_l36 336 u1 u3 m4 := by
    intro n_l36
    induction n_l36 with
    | zero => intro u3 m4 hm4 bu3 cu3 xn_l36_0 zn_l36; exfalso; omega
    | succ n_l36 ih_n_l36 =>
      intro u3 m4 hm4 bu3 cu3 xn_l36_0 zn_l36
      refine u_X12_four_3 ?_
      refine g_if (fun w37 => ?_) (fun w37 => ?_)
      · have zb38 := hm4.f_336_1
        exact hk m4 hm4 (by omega)
      · refine g_getr 0 337 rfl hS.k336 hm4.f_336_0 (by decide) ?_
        refine g_get 1 (0) (400) rfl hS.k336 hm4.f_336_1 (fun v39 ev39 bv39 cv39 => ?_)
        refine g_o32 (fun v40 bv40 cv40 => ?_)
        refine g_i2b (fun v41 bv41 cv41 => ?_)
        refine g_stb hS.k337 hS.l337 (by omega) (by omega) (by omega) (hm4.wa_337 (by omega) (by omega) (by omega) (by omega)) (fun m42 em42 hm42 => ?_)
        refine g_get 1 (0) (400) rfl hS.k336 hm42.f_336_1 (fun v43 ev43 bv43 cv43 => ?_)
        have qv43 : v43 = v39 := ev43.trans ((congrFun (congrFun em42 _) _).trans ((up_ne (by omega)).trans ev39.symm))
        refine g_C ?_
        refine g_A (by omega) (by omega) ?_
        refine g_put 1 rfl hS.k336 (hm42.w_336_1 (by omega) (by omega)) (fun m44 em44 hm44 => ?_)
        refine g_A (by omega) (by omega) ?_
        have zb45 := hm44.f_336_1
        have q46 : m44 336 1 = (v43 + 1) := (Eq.refl (m44 336 1)).trans ((congrFun (congrFun em44 _) _).trans (up_ate (by omega)))
        exact ih_n_l36 (u3 + (-8)) m44 hm44 (by omega) (by omega) (by omega) (by omega)
  have zb47 := hm0.f_336_1
  exact ⟨33, L_n_l36 33 24 m0 hm0 (by omega) (by omega) (by omega) (by omega)⟩
theorem z_X12_feed {X : Mm} {S : Sh} {m0 : Mm} {K : Int → Mm → Prop} {u1 u2 u3 u4 u5 : Int} (hS : Shp S) (hm0 : Inv X S m0) (l_u1 : (-2147483648) ≤ u1) (h_u1 : u1 ≤ 2147483647) (l_u2 : (-2147483648) ≤ u2) (h_u2 : u2 ≤ 2147483647) (l_u3 : (-2147483648) ≤ u3) (h_u3 : u3 ≤ 2147483647) (l_u4 : (-2147483648) ≤ u4) (h_u4 : u4 ≤ 2147483647) (l_u5 : (-2147483648) ≤ u5) (h_u5 : u5 ≤ 2147483647) (hk : ∀ (r : Int) (M1 : Mm), Inv X S M1 → (-1) ≤ r → r ≤ 400 → K r M1) : wp_X12_feed S m0 336 u1 u2 u3 u4 u5 K := by
  refine u_X12_feed ?_
  refine g_get 1 (0) (400) rfl hS.k336 hm0.f_336_1 (fun v1 ev1 bv1 cv1 => ?_)
  refine g_C ?_
  refine g_A (by omega) (by omega) ?_
  refine g_C ?_
  refine g_if (fun w2 => ?_) (fun w2 => ?_)
  · refine ⟨hS.k336, ?_⟩
    refine z_X12_four hS hm0 (by omega) (by omega) (by omega) (fun m3 hm3 ym3_0 => ?_)
    refine ⟨hS.k336, ?_⟩
    refine z_X12_four hS hm3 (by omega) (by omega) (by omega) (fun m4 hm4 ym4_0 => ?_)
    refine ⟨hS.k336, ?_⟩
    refine z_X12_four hS hm4 (by omega) (by omega) (by omega) (fun m5 hm5 ym5_0 => ?_)
    refine ⟨hS.k336, ?_⟩
    refine z_X12_four hS hm5 (by omega) (by omega) (by omega) (fun m6 hm6 ym6_0 => ?_)
    refine ⟨hS.k336, ?_⟩
    refine z_X12_four hS hm6 (by omega) (by omega) (by omega) (fun m7 hm7 ym7_0 => ?_)
    refine g_get 1 (0) (400) rfl hS.k336 hm7.f_336_1 (fun v8 ev8 bv8 cv8 => ?_)
    exact hk v8 m7 hm7 (by omega) (by omega)
  · refine g_C ?_
    exact hk (-1) m0 hm0 (by omega) (by omega)
theorem z_X12_nextPlace {X : Mm} {S : Sh} {m0 : Mm} {K : Int → Mm → Prop} {u1 : Int} (hS : Shp S) (hm0 : Inv X S m0) (l_u1 : 0 ≤ u1) (h_u1 : u1 ≤ 5) (hk : ∀ (r : Int), (-1) ≤ r → r ≤ 5 → K r m0) : wp_X12_nextPlace S m0 336 u1 K := by
  refine u_X12_nextPlace ?_
  refine g_C ?_
  have L_n_l61 : ∀ (n_l61 : Nat) (u3 : Int), 0 ≤ u3 → u3 ≤ 6 → 7 - u3 ≤ (n_l61 : Int) → wp_X12_nextPlace_2 S K n_l61 336 u1 u3 m0 := by
    intro n_l61
    induction n_l61 with
    | zero => intro u3 bu3 cu3 zn_l61; exfalso; omega
    | succ n_l61 ih_n_l61 =>
      intro u3 bu3 cu3 zn_l61
      refine u_X12_nextPlace_2 ?_
      refine g_getr 20 346 rfl hS.k336 hm0.f_336_20 (by decide) ?_
      refine g_C ?_
      refine g_ld (0) (6) hS.k346 hS.l346 (by omega) (by omega) (hm0.f_346_0) (fun v62 ev62 bv62 cv62 => ?_)
      refine g_if (fun w63 => ?_) (fun w63 => ?_)
      · refine g_C ?_
        exact hk (-1) (by omega) (by omega)
      · refine ⟨hS.k336, ?_⟩
        refine z_X12_roadOf hS hm0 (by omega) (by omega) (by omega) (by omega) (fun v64 bv64 cv64 => ?_)
        refine g_if (fun w65 => ?_) (fun w65 => ?_)
        · refine u_X12_nextPlace_45 ?_
          refine g_A (by omega) (by omega) ?_
          exact ih_n_l61 (u3 + 1) (by omega) (by omega) (by omega)
        · refine g_getr 27 349 rfl hS.k336 hm0.f_336_27 (by decide) ?_
          refine g_ld (0) (99) hS.k349 hS.l349 (by omega) (by omega) (hm0.a_349 (by omega) (by omega)) (fun v66 ev66 bv66 cv66 => ?_)
          refine ⟨hS.k336, ?_⟩
          refine z_X12_roadOf hS hm0 (by omega) (by omega) (by omega) (by omega) (fun v67 bv67 cv67 => ?_)
          refine g_A (by omega) (by omega) ?_
          refine g_getr 27 349 rfl hS.k336 hm0.f_336_27 (by decide) ?_
          refine g_ld (0) (99) hS.k349 hS.l349 (by omega) (by omega) (hm0.a_349 (by omega) (by omega)) (fun v68 ev68 bv68 cv68 => ?_)
          refine g_if (fun w69 => ?_) (fun w69 => ?_)
          · refine u_X12_nextPlace_45 ?_
            refine g_A (by omega) (by omega) ?_
            exact ih_n_l61 (u3 + 1) (by omega) (by omega) (by omega)
          · exact hk u3 (by omega) (by omega)
  exact ⟨7, L_n_l61 7 0 (by omega) (by omega) (by omega)⟩
theorem z_X12_fillsRoads {X : Mm} {S : Sh} {m0 : Mm} {K : Mm → Prop} {u1 u2 : Int} (hS : Shp S) (hm0 : Inv X S m0) (l_u1 : 0 ≤ u1) (h_u1 : u1 ≤ 5) (l_u2 : 0 ≤ u2) (h_u2 : u2 ≤ 5) (hk : ∀ (M1 : Mm), Inv X S M1 → K M1) : wp_X12_fillsRoads S m0 336 u1 u2 K := by
  sorry
theorem z_X12_fillsRows {X : Mm} {S : Sh} {m0 : Mm} {K : Mm → Prop} {u1 : Int} (hS : Shp S) (hm0 : Inv X S m0) (l_u1 : 1 ≤ u1) (h_u1 : u1 ≤ 12) (hk : ∀ (M1 : Mm), Inv X S M1 → K M1) : wp_X12_fillsRows S m0 336 u1 K := by
  refine u_X12_fillsRows ?_
  refine g_C ?_
  have L_n_l39833 : ∀ (n_l39833 : Nat) (u3 : Int) (m4 : Mm), Inv X S m4 → 0 ≤ u3 → u3 ≤ 301 → 302 - u3 ≤ (n_l39833 : Int) → wp_X12_fillsRows_2 S K n_l39833 336 u1 u3 m4 := by
    intro n_l39833
    induction n_l39833 with
    | zero => intro u3 m4 hm4 bu3 cu3 zn_l39833; exfalso; omega
    | succ n_l39833 ih_n_l39833 =>
      intro u3 m4 hm4 bu3 cu3 zn_l39833
      refine u_X12_fillsRows_2 ?_
      refine g_C ?_
      refine g_if (fun w39834 => ?_) (fun w39834 => ?_)
      · refine g_C ?_
        have L_n_l59702 : ∀ (n_l59702 : Nat) (u39837 : Int) (m39838 : Mm), Inv X S m39838 → 1 ≤ u39837 → u39837 ≤ 13 → 14 - u39837 ≤ (n_l59702 : Int) → wp_X12_fillsRows_47 S K n_l59702 336 u1 u39837 m39838 := by
          intro n_l59702
          induction n_l59702 with
          | zero => intro u39837 m39838 hm39838 bu39837 cu39837 zn_l59702; exfalso; omega
          | succ n_l59702 ih_n_l59702 =>
            intro u39837 m39838 hm39838 bu39837 cu39837 zn_l59702
            refine u_X12_fillsRows_47 ?_
            refine g_if (fun w59703 => ?_) (fun w59703 => ?_)
            · exact hk m39838 hm39838
            · refine g_C ?_
              have L_n_l61231 : ∀ (n_l61231 : Nat) (u59707 : Int) (m59708 : Mm), Inv X S m59708 → 0 ≤ u59707 → u59707 ≤ 301 → 302 - u59707 ≤ (n_l61231 : Int) → wp_X12_fillsRows_54 S (fun a0 a1 a2 M => wp_X12_fillsRows_47 S K n_l59702 a0 a1 a2 M) K n_l61231 336 u1 u39837 u59707 m59708 := by
                intro n_l61231
                induction n_l61231 with
                | zero => intro u59707 m59708 hm59708 bu59707 cu59707 zn_l61231; exfalso; omega
                | succ n_l61231 ih_n_l61231 =>
                  intro u59707 m59708 hm59708 bu59707 cu59707 zn_l61231
                  refine u_X12_fillsRows_54 ?_
                  refine g_C ?_
                  refine g_if (fun w61232 => ?_) (fun w61232 => ?_)
                  · refine g_A (by omega) (by omega) ?_
                    exact ih_n_l59702 (u39837 + 1) m59708 hm59708 (by omega) (by omega) (by omega)
                  · refine g_C ?_
                    refine g_C ?_
                    refine g_C ?_
                    have L_n_l61313 : ∀ (n_l61313 : Nat) (u61237 : Int) (u61238 : Int) (u61239 : Int), (-9223372036854775808) ≤ u61237 → u61237 ≤ 9223372036854775807 → 0 ≤ u61238 → u61238 ≤ 1 → 0 ≤ u61239 → u61239 ≤ 5 → 6 - u61239 ≤ (n_l61313 : Int) → wp_X12_fillsRows_70 S (fun a0 a1 a2 M => wp_X12_fillsRows_47 S K n_l59702 a0 a1 a2 M) (fun a0 a1 a2 a3 M => wp_X12_fillsRows_54 S (fun a0 a1 a2 M => wp_X12_fillsRows_47 S K n_l59702 a0 a1 a2 M) K n_l61231 a0 a1 a2 a3 M) K n_l61313 336 u1 u39837 u59707 u61237 u61238 u61239 m59708 := by
                      intro n_l61313
                      induction n_l61313 with
                      | zero => intro u61237 u61238 u61239 bu61237 cu61237 bu61238 cu61238 bu61239 cu61239 zn_l61313; exfalso; omega
                      | succ n_l61313 ih_n_l61313 =>
                        intro u61237 u61238 u61239 bu61237 cu61237 bu61238 cu61238 bu61239 cu61239 zn_l61313
                        refine u_X12_fillsRows_70 ?_
                        refine g_getr 20 346 rfl hS.k336 hm59708.f_336_20 (by decide) ?_
                        refine g_C ?_
                        refine g_ld (0) (5) hS.k346 hS.l346 (by omega) (by omega) (hm59708.f_346_4) (fun v61314 ev61314 bv61314 cv61314 => ?_)
                        refine g_if (fun w61315 => ?_) (fun w61315 => ?_)
                        · refine g_getr 31 352 rfl hS.k336 hm59708.f_336_31 (by decide) ?_
                          refine u_X12_spot ?_
                          refine g_C ?_
                          refine g_M (by omega) (by omega) ?_
                          refine g_A (by omega) (by omega) ?_
                          refine g_C ?_
                          refine g_D64 (by omega) (fun v61316 bv61316 cv61316 => ?_)
                          refine g_w32w (fun v61317 bv61317 cv61317 => ?_)
                          refine g_st hS.k352 hS.l352 (by omega) (by omega) (hm59708.wa_352 (by omega) (by omega) (by omega) (by omega)) (fun m61318 em61318 hm61318 => ?_)
                          refine g_getr 32 353 rfl hS.k336 hm61318.f_336_32 (by decide) ?_
                          refine u_X12_spot ?_
                          refine g_C ?_
                          refine g_M (by omega) (by omega) ?_
                          refine g_A (by omega) (by omega) ?_
                          refine g_stz hS.k353 hS.l353 (by omega) (by omega) (by omega) (hm61318.wa_353 (by omega) (by omega) (by omega) (by omega)) (fun m61319 em61319 hm61319 => ?_)
                          refine g_A (by omega) (by omega) ?_
                          exact ih_n_l61231 (u59707 + 1) m61319 hm61319 (by omega) (by omega) (by omega)
                        · refine g_C ?_
                          refine ⟨hS.k336, ?_⟩
                          refine u_X12_handOf ?_
                          refine g_getr 20 346 rfl hS.k336 hm59708.f_336_20 (by decide) ?_
                          refine g_C ?_
                          refine g_C ?_
                          refine g_M (by omega) (by omega) ?_
                          refine g_A (by omega) (by omega) ?_
                          refine g_A (by omega) (by omega) ?_
                          refine g_ld (0) (20) hS.k346 hS.l346 (by omega) (by omega) (fam_346_13_5_0_4 hm59708 (a := u61239) (by omega) (by omega) (by omega)) (fun v61320 ev61320 bv61320 cv61320 => ?_)
                          refine g_S (by omega) (by omega) ?_
                          refine g_if (fun w61321 => ?_) (fun w61321 => ?_)
                          · refine g_getr 31 352 rfl hS.k336 hm59708.f_336_31 (by decide) ?_
                            refine g_C ?_
                            refine g_S (by omega) (by omega) ?_
                            refine u_X12_spot ?_
                            refine g_C ?_
                            refine g_M (by omega) (by omega) ?_
                            refine g_A (by omega) (by omega) ?_
                            refine g_ld (-2147483648) (2147483647) hS.k352 hS.l352 (by omega) (by omega) (hm59708.a_352 (by omega) (by omega)) (fun v61322 ev61322 bv61322 cv61322 => ?_)
                            refine g_C ?_
                            refine g_LAw (fun v61323 bv61323 cv61323 => ?_)
                            refine g_if (fun w61324 => ?_) (fun w61324 => ?_)
                            · refine u_X12_fillsRows_140 ?_
                              refine g_C ?_
                              refine u_X12_fillsRows_145 ?_
                              refine u_X12_fillsRows_147 ?_
                              refine g_A (by omega) (by omega) ?_
                              exact ih_n_l61313 v61323 1 (u61239 + 1) (by omega) (by omega) (by omega) (by omega) (by omega) (by omega) (by omega)
                            · refine g_getr 32 353 rfl hS.k336 hm59708.f_336_32 (by decide) ?_
                              refine g_C ?_
                              refine g_S (by omega) (by omega) ?_
                              refine u_X12_spot ?_
                              refine g_C ?_
                              refine g_M (by omega) (by omega) ?_
                              refine g_A (by omega) (by omega) ?_
                              refine g_ld (0) (1) hS.k353 hS.l353 (by omega) (by omega) (hm59708.a_353 (by omega) (by omega)) (fun v61325 ev61325 bv61325 cv61325 => ?_)
                              refine g_if (fun w61326 => ?_) (fun w61326 => ?_)
                              · refine g_C ?_
                                refine u_X12_fillsRows_145 ?_
                                refine u_X12_fillsRows_147 ?_
                                refine g_A (by omega) (by omega) ?_
                                exact ih_n_l61313 v61323 0 (u61239 + 1) (by omega) (by omega) (by omega) (by omega) (by omega) (by omega) (by omega)
                              · refine u_X12_fillsRows_140 ?_
                                refine g_C ?_
                                refine u_X12_fillsRows_145 ?_
                                refine u_X12_fillsRows_147 ?_
                                refine g_A (by omega) (by omega) ?_
                                exact ih_n_l61313 v61323 1 (u61239 + 1) (by omega) (by omega) (by omega) (by omega) (by omega) (by omega) (by omega)
                          · refine u_X12_fillsRows_147 ?_
                            refine g_A (by omega) (by omega) ?_
                            exact ih_n_l61313 u61237 u61238 (u61239 + 1) (by omega) (by omega) (by omega) (by omega) (by omega) (by omega) (by omega)
                    exact ⟨6, L_n_l61313 6 0 0 0 (by omega) (by omega) (by omega) (by omega) (by omega) (by omega) (by omega)⟩
              exact ⟨302, L_n_l61231 302 0 m39838 hm39838 (by omega) (by omega) (by omega)⟩
        exact ⟨13, L_n_l59702 13 1 m4 hm4 (by omega) (by omega) (by omega)⟩
      · refine g_getr 31 352 rfl hS.k336 hm4.f_336_31 (by decide) ?_
        refine g_if (fun w61327 => ?_) (fun w61327 => ?_)
        · refine g_C ?_
          refine u_X12_fillsRows_23 ?_
          refine g_st hS.k352 hS.l352 (by omega) (by omega) (hm4.wa_352 (by omega) (by omega) (by omega) (by omega)) (fun m61328 em61328 hm61328 => ?_)
          refine g_getr 32 353 rfl hS.k336 hm61328.f_336_32 (by decide) ?_
          refine g_ifT (by omega) ?_
          refine g_C ?_
          refine u_X12_fillsRows_38 ?_
          refine g_stz hS.k353 hS.l353 (by omega) (by omega) (by omega) (hm61328.wa_353 (by omega) (by omega) (by omega) (by omega)) (fun m61329 em61329 hm61329 => ?_)
          refine g_A (by omega) (by omega) ?_
          exact ih_n_l39833 (u3 + 1) m61329 hm61329 (by omega) (by omega) (by omega)
        · refine g_C ?_
          refine u_X12_fillsRows_23 ?_
          refine g_st hS.k352 hS.l352 (by omega) (by omega) (hm4.wa_352 (by omega) (by omega) (by omega) (by omega)) (fun m61330 em61330 hm61330 => ?_)
          refine g_getr 32 353 rfl hS.k336 hm61330.f_336_32 (by decide) ?_
          refine g_ifF (by omega) ?_
          refine g_C ?_
          refine u_X12_fillsRows_38 ?_
          refine g_stz hS.k353 hS.l353 (by omega) (by omega) (by omega) (hm61330.wa_353 (by omega) (by omega) (by omega) (by omega)) (fun m61331 em61331 hm61331 => ?_)
          refine g_A (by omega) (by omega) ?_
          exact ih_n_l39833 (u3 + 1) m61331 hm61331 (by omega) (by omega) (by omega)
  exact ⟨302, L_n_l39833 302 0 m0 hm0 (by omega) (by omega) (by omega)⟩
theorem z_X12_firstFor {X : Mm} {S : Sh} {m0 : Mm} {K : Int → Mm → Prop} {u1 : Int} (hS : Shp S) (hm0 : Inv X S m0) (l_u1 : 0 ≤ u1) (h_u1 : u1 ≤ 5) (hk : ∀ (r : Int), (-1) ≤ r → r ≤ 3 → K r m0) : wp_X12_firstFor S m0 336 u1 K := by
  refine u_X12_firstFor ?_
  refine g_getr 20 346 rfl hS.k336 hm0.f_336_20 (by decide) ?_
  refine g_C ?_
  refine g_A (by omega) (by omega) ?_
  refine g_ld (-2147483648) (2147483647) hS.k346 hS.l346 (by omega) (by omega) (fam_346_51_1_0_5 hm0 (a := u1) (by omega) (by omega) (by omega)) (fun v1 ev1 bv1 cv1 => ?_)
  refine g_if (fun w2 => ?_) (fun w2 => ?_)
  · refine g_C ?_
    have L_n_l72 : ∀ (n_l72 : Nat) (u5 : Int), 0 ≤ u5 → u5 ≤ 4 → 5 - u5 ≤ (n_l72 : Int) → wp_X12_firstFor_16 S K n_l72 336 u1 u5 m0 := by
      intro n_l72
      induction n_l72 with
      | zero => intro u5 bu5 cu5 zn_l72; exfalso; omega
      | succ n_l72 ih_n_l72 =>
        intro u5 bu5 cu5 zn_l72
        refine u_X12_firstFor_16 ?_
        refine g_getr 20 346 rfl hS.k336 hm0.f_336_20 (by decide) ?_
        refine g_C ?_
        refine g_ld (0) (4) hS.k346 hS.l346 (by omega) (by omega) (hm0.f_346_5) (fun v73 ev73 bv73 cv73 => ?_)
        refine g_if (fun w74 => ?_) (fun w74 => ?_)
        · refine g_C ?_
          exact hk (-1) (by omega) (by omega)
        · refine ⟨hS.k336, ?_⟩
          refine u_X12_stands ?_
          refine g_C ?_
          refine ⟨hS.k336, ?_⟩
          refine u_X12_jugOf ?_
          refine g_getr 20 346 rfl hS.k336 hm0.f_336_20 (by decide) ?_
          refine g_C ?_
          refine g_C ?_
          refine g_M (by omega) (by omega) ?_
          refine g_A (by omega) (by omega) ?_
          refine g_A (by omega) (by omega) ?_
          refine g_ld (-1) (4) hS.k346 hS.l346 (by omega) (by omega) (fam_346_36_4_0_3 hm0 (a := u5) (by omega) (by omega) (by omega)) (fun v75 ev75 bv75 cv75 => ?_)
          refine g_if (fun w76 => ?_) (fun w76 => ?_)
          · refine g_C ?_
            refine ⟨by omega, ?_⟩
            refine g_ifT (by omega) ?_
            refine u_X12_firstFor_78 ?_
            refine g_A (by omega) (by omega) ?_
            exact ih_n_l72 (u5 + 1) (by omega) (by omega) (by omega)
          · refine g_C ?_
            refine ⟨hS.k336, ?_⟩
            refine u_X12_jugOf ?_
            refine g_getr 20 346 rfl hS.k336 hm0.f_336_20 (by decide) ?_
            refine g_C ?_
            refine g_C ?_
            refine g_M (by omega) (by omega) ?_
            refine g_A (by omega) (by omega) ?_
            refine g_A (by omega) (by omega) ?_
            refine g_ld (0) (1) hS.k346 hS.l346 (by omega) (by omega) (fam_346_38_4_0_3 hm0 (a := u5) (by omega) (by omega) (by omega)) (fun v77 ev77 bv77 cv77 => ?_)
            refine g_if (fun w78 => ?_) (fun w78 => ?_)
            · refine g_C ?_
              refine ⟨by omega, ?_⟩
              refine g_ifT (by omega) ?_
              refine u_X12_firstFor_78 ?_
              refine g_A (by omega) (by omega) ?_
              exact ih_n_l72 (u5 + 1) (by omega) (by omega) (by omega)
            · refine g_C ?_
              refine ⟨by omega, ?_⟩
              refine g_ifF (by omega) ?_
              refine g_C ?_
              refine ⟨hS.k336, ?_⟩
              refine u_X12_jugOf ?_
              refine g_getr 20 346 rfl hS.k336 hm0.f_336_20 (by decide) ?_
              refine g_C ?_
              refine g_C ?_
              refine g_M (by omega) (by omega) ?_
              refine g_A (by omega) (by omega) ?_
              refine g_A (by omega) (by omega) ?_
              refine g_ld (0) (5) hS.k346 hS.l346 (by omega) (by omega) (fam_346_35_4_0_3 hm0 (a := u5) (by omega) (by omega) (by omega)) (fun v79 ev79 bv79 cv79 => ?_)
              refine g_C ?_
              refine ⟨hS.k336, ?_⟩
              refine u_X12_wantOf ?_
              refine g_getr 20 346 rfl hS.k336 hm0.f_336_20 (by decide) ?_
              refine g_C ?_
              refine g_C ?_
              refine g_M (by omega) (by omega) ?_
              refine g_A (by omega) (by omega) ?_
              refine g_A (by omega) (by omega) ?_
              refine g_ld (0) (5) hS.k346 hS.l346 (by omega) (by omega) (fam_346_93_4_0_5 hm0 (a := u1) (by omega) (by omega) (by omega)) (fun v80 ev80 bv80 cv80 => ?_)
              refine g_if (fun w81 => ?_) (fun w81 => ?_)
              · refine u_X12_firstFor_78 ?_
                refine g_A (by omega) (by omega) ?_
                exact ih_n_l72 (u5 + 1) (by omega) (by omega) (by omega)
              · refine g_C ?_
                refine ⟨hS.k336, ?_⟩
                refine u_X12_jugOf ?_
                refine g_getr 20 346 rfl hS.k336 hm0.f_336_20 (by decide) ?_
                refine g_C ?_
                refine g_C ?_
                refine g_M (by omega) (by omega) ?_
                refine g_A (by omega) (by omega) ?_
                refine g_A (by omega) (by omega) ?_
                refine g_ld (-2147483648) (2147483647) hS.k346 hS.l346 (by omega) (by omega) (fam_346_37_4_0_3 hm0 (a := u5) (by omega) (by omega) (by omega)) (fun v82 ev82 bv82 cv82 => ?_)
                refine g_C ?_
                refine g_C ?_
                refine ⟨hS.k336, ?_⟩
                refine u_X12_wantOf ?_
                refine g_getr 20 346 rfl hS.k336 hm0.f_336_20 (by decide) ?_
                refine g_C ?_
                refine g_C ?_
                refine g_M (by omega) (by omega) ?_
                refine g_A (by omega) (by omega) ?_
                refine g_A (by omega) (by omega) ?_
                refine g_ld (0) (99) hS.k346 hS.l346 (by omega) (by omega) (fam_346_94_4_0_5 hm0 (a := u1) (by omega) (by omega) (by omega)) (fun v83 ev83 bv83 cv83 => ?_)
                refine g_C ?_
                refine g_C ?_
                refine ⟨hS.k336, ?_⟩
                refine u_X12_wantOf ?_
                refine g_getr 20 346 rfl hS.k336 hm0.f_336_20 (by decide) ?_
                refine g_C ?_
                refine g_C ?_
                refine g_M (by omega) (by omega) ?_
                refine g_A (by omega) (by omega) ?_
                refine g_A (by omega) (by omega) ?_
                refine g_ld (0) (99) hS.k346 hS.l346 (by omega) (by omega) (fam_346_95_4_0_5 hm0 (a := u1) (by omega) (by omega) (by omega)) (fun v84 ev84 bv84 cv84 => ?_)
                refine g_C ?_
                refine z_in (fun aw85 bw85 => ?_) (fun cw85 => ?_)
                · refine g_ifF (by omega) ?_
                  exact hk u5 (by omega) (by omega)
                · refine g_ifT (by omega) ?_
                  refine u_X12_firstFor_78 ?_
                  refine g_A (by omega) (by omega) ?_
                  exact ih_n_l72 (u5 + 1) (by omega) (by omega) (by omega)
    exact ⟨5, L_n_l72 5 0 (by omega) (by omega) (by omega)⟩
  · refine g_C ?_
    exact hk (-1) (by omega) (by omega)
theorem z_X12_firstHand {X : Mm} {S : Sh} {m0 : Mm} {K : Int → Mm → Prop} {u1 u2 u3 : Int} (hS : Shp S) (hm0 : Inv X S m0) (l_u1 : 1 ≤ u1) (h_u1 : u1 ≤ 12) (l_u2 : 0 ≤ u2) (h_u2 : u2 ≤ 300) (l_u3 : 0 ≤ u3) (h_u3 : u3 ≤ 11) (hk : ∀ (r : Int), 0 ≤ r → r ≤ 4 → K r m0) : wp_X12_firstHand S m0 336 u1 u2 u3 K := by
  sorry
theorem z_X12_fitsTests {X : Mm} {S : Sh} {m0 : Mm} {K : Int → Mm → Prop} {u1 : Int} (hS : Shp S) (hm0 : Inv X S m0) (l_u1 : 0 ≤ u1) (h_u1 : u1 ≤ 4) (hk : ∀ (r : Int) (M1 : Mm), Inv X S M1 → 0 ≤ r → r ≤ 1 → K r M1) : wp_X12_fitsTests S m0 336 u1 K := by
  refine u_X12_fitsTests ?_
  refine g_C ?_
  have L_n_l104 : ∀ (n_l104 : Nat) (u3 : Int) (m4 : Mm), Inv X S m4 → 0 ≤ u3 → u3 ≤ 10 → 11 - u3 ≤ (n_l104 : Int) → wp_X12_fitsTests_2 S K n_l104 336 u1 u3 m4 := by
    intro n_l104
    induction n_l104 with
    | zero => intro u3 m4 hm4 bu3 cu3 zn_l104; exfalso; omega
    | succ n_l104 ih_n_l104 =>
      intro u3 m4 hm4 bu3 cu3 zn_l104
      refine u_X12_fitsTests_2 ?_
      refine g_getr 20 346 rfl hS.k336 hm4.f_336_20 (by decide) ?_
      refine g_C ?_
      refine g_ld (0) (10) hS.k346 hS.l346 (by omega) (by omega) (hm4.f_346_157) (fun v105 ev105 bv105 cv105 => ?_)
      refine g_if (fun w106 => ?_) (fun w106 => ?_)
      · refine g_C ?_
        refine ⟨by omega, ?_⟩
        exact hk 1 m4 hm4 (by omega) (by omega)
      · refine g_C ?_
        refine g_C ?_
        refine g_M (by omega) (by omega) ?_
        refine g_A (by omega) (by omega) ?_
        refine g_C ?_
        refine g_getr 20 346 rfl hS.k336 hm4.f_336_20 (by decide) ?_
        refine g_ld (0) (999) hS.k346 hS.l346 (by omega) (by omega) (fam_346_117_4_0_9 hm4 (a := u3) (by omega) (by omega) (by omega)) (fun v107 ev107 bv107 cv107 => ?_)
        refine g_getr 20 346 rfl hS.k336 hm4.f_336_20 (by decide) ?_
        refine g_C ?_
        refine g_A (by omega) (by omega) ?_
        refine g_ld (0) (20) hS.k346 hS.l346 (by omega) (by omega) (fam_346_118_4_0_9 hm4 (a := u3) (by omega) (by omega) (by omega)) (fun v108 ev108 bv108 cv108 => ?_)
        refine g_getr 20 346 rfl hS.k336 hm4.f_336_20 (by decide) ?_
        refine g_C ?_
        refine g_A (by omega) (by omega) ?_
        refine g_ld (0) (99) hS.k346 hS.l346 (by omega) (by omega) (fam_346_119_4_0_9 hm4 (a := u3) (by omega) (by omega) (by omega)) (fun v109 ev109 bv109 cv109 => ?_)
        refine g_C ?_
        refine ⟨hS.k336, ?_⟩
        refine z_X12_turnedBy hS hm4 (by omega) (by omega) (by omega) (by omega) (by omega) (by omega) (by omega) (by omega) (by omega) (by omega) (by omega) (by omega) (fun v110 m111 hm111 fm111 bv110 cv110 => ?_)
        refine g_getr 20 346 rfl hS.k336 hm111.f_336_20 (by decide) ?_
        refine g_C ?_
        refine g_A (by omega) (by omega) ?_
        refine g_ld (0) (999) hS.k346 hS.l346 (by omega) (by omega) (fam_346_120_4_0_9 hm111 (a := u3) (by omega) (by omega) (by omega)) (fun v112 ev112 bv112 cv112 => ?_)
        refine g_if (fun w113 => ?_) (fun w113 => ?_)
        · refine g_A (by omega) (by omega) ?_
          exact ih_n_l104 (u3 + 1) m111 hm111 (by omega) (by omega) (by omega)
        · refine g_C ?_
          refine ⟨by omega, ?_⟩
          exact hk 0 m111 hm111 (by omega) (by omega)
  exact ⟨11, L_n_l104 11 0 m0 hm0 (by omega) (by omega) (by omega)⟩
theorem z_X12_fitting {X : Mm} {S : Sh} {m0 : Mm} {K : Int → Mm → Prop} (hS : Shp S) (hm0 : Inv X S m0)  (hk : ∀ (r : Int) (M1 : Mm), Inv X S M1 → 0 ≤ r → r ≤ 31 → K r M1) : wp_X12_fitting S m0 336 K := by
  refine u_X12_fitting ?_
  refine g_C ?_
  refine g_C ?_
  have L_n_l53 : ∀ (n_l53 : Nat) (u2 : Int) (u3 : Int) (m4 : Mm), Inv X S m4 → 0 ≤ u2 → u2 ≤ 31 → 0 ≤ u3 → u3 ≤ 5 → 6 - u3 ≤ (n_l53 : Int) → wp_X12_fitting_4 S K n_l53 336 u2 u3 m4 := by
    intro n_l53
    induction n_l53 with
    | zero => intro u2 u3 m4 hm4 bu2 cu2 bu3 cu3 zn_l53; exfalso; omega
    | succ n_l53 ih_n_l53 =>
      intro u2 u3 m4 hm4 bu2 cu2 bu3 cu3 zn_l53
      refine u_X12_fitting_4 ?_
      refine g_getr 20 346 rfl hS.k336 hm4.f_336_20 (by decide) ?_
      refine g_C ?_
      refine g_ld (0) (5) hS.k346 hS.l346 (by omega) (by omega) (hm4.f_346_4) (fun v54 ev54 bv54 cv54 => ?_)
      refine g_if (fun w55 => ?_) (fun w55 => ?_)
      · exact hk u2 m4 hm4 (by omega) (by omega)
      · refine ⟨hS.k336, ?_⟩
        refine z_X12_fitsTests hS hm4 (by omega) (by omega) (fun v56 m57 hm57 bv56 cv56 => ?_)
        refine g_if (fun w58 => ?_) (fun w58 => ?_)
        · refine g_C ?_
          refine u_X12_fitting_30 ?_
          refine g_iOr 5 (by omega) (by omega) (by omega) (by omega) (by decide) (fun v59 bv59 cv59 => ?_)
          refine g_A (by omega) (by omega) ?_
          exact ih_n_l53 v59 (u3 + 1) m57 hm57 (by omega) (by omega) (by omega) (by omega) (by omega)
        · refine g_C ?_
          refine g_iShl 4 (by omega) (by omega) (by decide) (fun v60 bv60 cv60 => ?_)
          refine u_X12_fitting_30 ?_
          refine g_iOr 5 (by omega) (by omega) (by omega) (by omega) (by decide) (fun v61 bv61 cv61 => ?_)
          refine g_A (by omega) (by omega) ?_
          exact ih_n_l53 v61 (u3 + 1) m57 hm57 (by omega) (by omega) (by omega) (by omega) (by omega)
  exact ⟨6, L_n_l53 6 0 0 m0 hm0 (by omega) (by omega) (by omega) (by omega) (by omega)⟩
theorem z_X12_keepsAct {X : Mm} {S : Sh} {m0 : Mm} {K : Mm → Prop} (hS : Shp S) (hm0 : Inv X S m0)  (hk : ∀ (M1 : Mm), Inv X S M1 → K M1) : wp_X12_keepsAct S m0 336 K := by
  sorry
theorem z_X12_go {X : Mm} {S : Sh} {m0 : Mm} {K : Int → Mm → Prop} {u1 u2 : Int} (hS : Shp S) (hm0 : Inv X S m0) (l_u1 : (-2147483648) ≤ u1) (h_u1 : u1 ≤ 2147483647) (l_u2 : (-2147483648) ≤ u2) (h_u2 : u2 ≤ 2147483647) (hk : ∀ (r : Int) (M1 : Mm), Inv X S M1 → (-1) ≤ r → r ≤ 5 → K r M1) : wp_X12_go S m0 336 u1 u2 K := by
  refine u_X12_go ?_
  refine ⟨hS.k336, ?_⟩
  refine u_X12_isHand ?_
  refine g_if (fun w1 => ?_) (fun w1 => ?_)
  · refine g_C ?_
    refine ⟨by omega, ?_⟩
    refine g_ifT (by omega) ?_
    refine g_C ?_
    exact hk (-1) m0 hm0 (by omega) (by omega)
  · refine g_getr 20 346 rfl hS.k336 hm0.f_336_20 (by decide) ?_
    refine g_C ?_
    refine g_ld (0) (5) hS.k346 hS.l346 (by omega) (by omega) (hm0.f_346_4) (fun v2 ev2 bv2 cv2 => ?_)
    refine g_if (fun w3 => ?_) (fun w3 => ?_)
    · refine g_C ?_
      refine ⟨by omega, ?_⟩
      refine g_ifT (by omega) ?_
      refine g_C ?_
      exact hk (-1) m0 hm0 (by omega) (by omega)
    · refine g_C ?_
      refine ⟨by omega, ?_⟩
      refine g_ifF (by omega) ?_
      refine ⟨hS.k336, ?_⟩
      refine u_X12_isPlace ?_
      refine g_if (fun w4 => ?_) (fun w4 => ?_)
      · refine g_C ?_
        refine ⟨by omega, ?_⟩
        refine g_ifT (by omega) ?_
        refine g_C ?_
        exact hk (-1) m0 hm0 (by omega) (by omega)
      · refine g_getr 20 346 rfl hS.k336 hm0.f_336_20 (by decide) ?_
        refine g_C ?_
        refine g_ld (0) (6) hS.k346 hS.l346 (by omega) (by omega) (hm0.f_346_0) (fun v5 ev5 bv5 cv5 => ?_)
        refine g_if (fun w6 => ?_) (fun w6 => ?_)
        · refine g_C ?_
          refine ⟨by omega, ?_⟩
          refine g_ifT (by omega) ?_
          refine g_C ?_
          exact hk (-1) m0 hm0 (by omega) (by omega)
        · refine g_C ?_
          refine ⟨by omega, ?_⟩
          refine g_ifF (by omega) ?_
          refine ⟨hS.k336, ?_⟩
          refine u_X12_canGo ?_
          refine ⟨hS.k336, ?_⟩
          refine u_X12_isAtPlace ?_
          refine g_C ?_
          refine ⟨hS.k336, ?_⟩
          refine u_X12_handOf ?_
          refine g_getr 20 346 rfl hS.k336 hm0.f_336_20 (by decide) ?_
          refine g_C ?_
          refine g_C ?_
          refine g_M (by omega) (by omega) ?_
          refine g_A (by omega) (by omega) ?_
          refine g_A (by omega) (by omega) ?_
          refine g_ld (0) (5) hS.k346 hS.l346 (by omega) (by omega) (fam_346_11_5_0_4 hm0 (a := u1) (by omega) (by omega) (by omega)) (fun v7 ev7 bv7 cv7 => ?_)
          refine g_if (fun w8 => ?_) (fun w8 => ?_)
          · refine g_C ?_
            refine ⟨by omega, ?_⟩
            refine g_ifT (by omega) ?_
            refine g_C ?_
            refine ⟨by omega, ?_⟩
            refine g_ifF (by omega) ?_
            refine g_C ?_
            exact hk (-1) m0 hm0 (by omega) (by omega)
          · refine g_C ?_
            refine ⟨by omega, ?_⟩
            refine g_ifF (by omega) ?_
            refine g_C ?_
            refine ⟨hS.k336, ?_⟩
            refine u_X12_handOf ?_
            refine g_getr 20 346 rfl hS.k336 hm0.f_336_20 (by decide) ?_
            refine g_C ?_
            refine g_C ?_
            refine g_M (by omega) (by omega) ?_
            refine g_A (by omega) (by omega) ?_
            refine g_A (by omega) (by omega) ?_
            refine g_ld (0) (5) hS.k346 hS.l346 (by omega) (by omega) (fam_346_10_5_0_4 hm0 (a := u1) (by omega) (by omega) (by omega)) (fun v9 ev9 bv9 cv9 => ?_)
            refine ⟨hS.k336, ?_⟩
            refine z_X12_roadOf hS hm0 (by omega) (by omega) (by omega) (by omega) (fun v10 bv10 cv10 => ?_)
            refine g_if (fun w11 => ?_) (fun w11 => ?_)
            · refine g_C ?_
              refine ⟨by omega, ?_⟩
              refine g_ifF (by omega) ?_
              refine g_C ?_
              exact hk (-1) m0 hm0 (by omega) (by omega)
            · refine g_C ?_
              refine ⟨by omega, ?_⟩
              refine g_ifT (by omega) ?_
              refine ⟨hS.k336, ?_⟩
              refine z_X12_keepsAct hS hm0 (fun m12 hm12 => ?_)
              refine ⟨hS.k336, ?_⟩
              refine z_X12_goes hS hm12 (by omega) (by omega) (by omega) (by omega) (fun m13 hm13 => ?_)
              refine g_C ?_
              refine ⟨hS.k336, ?_⟩
              refine u_X12_handOf ?_
              refine g_getr 20 346 rfl hS.k336 hm13.f_336_20 (by decide) ?_
              refine g_C ?_
              refine g_C ?_
              refine g_M (by omega) (by omega) ?_
              refine g_A (by omega) (by omega) ?_
              refine g_A (by omega) (by omega) ?_
              refine g_ld (0) (5) hS.k346 hS.l346 (by omega) (by omega) (fam_346_11_5_0_4 hm13 (a := u1) (by omega) (by omega) (by omega)) (fun v14 ev14 bv14 cv14 => ?_)
              exact hk v14 m13 hm13 (by omega) (by omega)
