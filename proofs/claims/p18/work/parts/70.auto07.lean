theorem z_X11_rest {X : Mm} {S : Sh} {m0 : Mm} {K : Int → Mm → Prop} {u1 u2 u3 u4 : Int} (hS : Shp S) (hm0 : Inv X S m0) (l_u1 : (-2147483648) ≤ u1) (h_u1 : u1 ≤ 2147483647) (l_u2 : (-2147483648) ≤ u2) (h_u2 : u2 ≤ 2147483647) (l_u3 : (-2147483648) ≤ u3) (h_u3 : u3 ≤ 2147483647) (l_u4 : (-2147483648) ≤ u4) (h_u4 : u4 ≤ 2147483647) (hk : ∀ (r : Int) (M1 : Mm), Inv X S M1 → (-1) ≤ r → r ≤ 2147483647 → K r M1) : wp_X11_rest S m0 0 u1 u2 u3 u4 K := by
  refine u_X11_rest ?_
  refine ⟨hS.k0, ?_⟩
  refine u_X11_isHand ?_
  refine g_if (fun w1 => ?_) (fun w1 => ?_)
  · refine g_C ?_
    refine ⟨by omega, ?_⟩
    refine g_ifT (by omega) ?_
    refine g_C ?_
    exact hk (-1) m0 hm0 (by omega) (by omega)
  · refine g_getr 1 3 rfl hS.k0 hm0.f_0_1 (by decide) ?_
    refine g_getr 0 4 rfl hS.k3 hm0.f_3_0 (by decide) ?_
    refine g_get 4 (0) (5) rfl hS.k4 hm0.f_4_4 (fun v2 ev2 bv2 cv2 => ?_)
    refine g_if (fun w3 => ?_) (fun w3 => ?_)
    · refine g_C ?_
      refine ⟨by omega, ?_⟩
      refine g_ifT (by omega) ?_
      refine g_C ?_
      exact hk (-1) m0 hm0 (by omega) (by omega)
    · refine g_C ?_
      refine ⟨by omega, ?_⟩
      refine g_ifF (by omega) ?_
      refine g_C ?_
      refine g_if (fun w4 => ?_) (fun w4 => ?_)
      · refine g_C ?_
        exact hk (-1) m0 hm0 (by omega) (by omega)
      · refine g_C ?_
        refine g_if (fun w5 => ?_) (fun w5 => ?_)
        · refine g_C ?_
          exact hk (-1) m0 hm0 (by omega) (by omega)
        · refine g_if (fun w6 => ?_) (fun w6 => ?_)
          · refine g_C ?_
            exact hk (-1) m0 hm0 (by omega) (by omega)
          · refine g_if (fun w7 => ?_) (fun w7 => ?_)
            · refine g_C ?_
              exact hk (-1) m0 hm0 (by omega) (by omega)
            · refine g_if (fun w8 => ?_) (fun w8 => ?_)
              · refine g_C ?_
                exact hk (-1) m0 hm0 (by omega) (by omega)
              · refine g_C ?_
                refine g_if (fun w9 => ?_) (fun w9 => ?_)
                · refine g_C ?_
                  refine g_C ?_
                  refine g_C ?_
                  have L_n_l192 : ∀ (n_l192 : Nat) (u15 : Int) (u16 : Int) (u17 : Int) (m18 : Mm), Inv X S m18 → 0 ≤ u15 → u15 ≤ 6000 → 0 ≤ u16 → u16 ≤ 2147483647 → 0 ≤ u17 → u17 ≤ 1024 → 1025 - u17 ≤ (n_l192 : Int) → wp_X11_rest_52 S K n_l192 0 u1 u2 u3 u4 u15 u16 u17 m18 := by
                    intro n_l192
                    induction n_l192 with
                    | zero => intro u15 u16 u17 m18 hm18 bu15 cu15 bu16 cu16 bu17 cu17 zn_l192; exfalso; omega
                    | succ n_l192 ih_n_l192 =>
                      intro u15 u16 u17 m18 hm18 bu15 cu15 bu16 cu16 bu17 cu17 zn_l192
                      refine u_X11_rest_52 ?_
                      refine g_C ?_
                      refine g_iShl 10 (by omega) (by omega) (by decide) (fun v193 bv193 cv193 => ?_)
                      refine g_if (fun w194 => ?_) (fun w194 => ?_)
                      · refine g_if (fun w195 => ?_) (fun w195 => ?_)
                        · exact hk u16 m18 hm18 (by omega) (by omega)
                        · exact hk u15 m18 hm18 (by omega) (by omega)
                      · refine z_J6_bitCount_0f7a4 hS hm18 (by omega) (by omega) (fun v196 bv196 cv196 => ?_)
                        refine g_if (fun w197 => ?_) (fun w197 => ?_)
                        · refine u_X11_rest_97 ?_
                          refine g_A (by omega) (by omega) ?_
                          exact ih_n_l192 u15 u16 (u17 + 1) m18 hm18 (by omega) (by omega) (by omega) (by omega) (by omega) (by omega) (by omega)
                        · refine g_getr 14 66 rfl hS.k0 hm18.f_0_14 (by decide) ?_
                          refine ⟨hS.k66, ?_⟩
                          refine z_X9_turnedByTurns hS hm18 (by omega) (by omega) (by omega) (by omega) (by omega) (by omega) (fun v198 m199 hm199 bv198 cv198 => ?_)
                          refine g_if (fun w200 => ?_) (fun w200 => ?_)
                          · refine u_X11_rest_97 ?_
                            refine g_A (by omega) (by omega) ?_
                            exact ih_n_l192 u15 u16 (u17 + 1) m199 hm199 (by omega) (by omega) (by omega) (by omega) (by omega) (by omega) (by omega)
                          · refine u_X11_rest_97 ?_
                            refine g_A (by omega) (by omega) ?_
                            exact ih_n_l192 u17 v198 (u17 + 1) m199 hm199 (by omega) (by omega) (by omega) (by omega) (by omega) (by omega) (by omega)
                  exact ⟨1025, L_n_l192 1025 0 2147483647 0 m0 hm0 (by omega) (by omega) (by omega) (by omega) (by omega) (by omega) (by omega)⟩
                · refine g_C ?_
                  exact hk (-1) m0 hm0 (by omega) (by omega)
theorem z_X6_countRows {X : Mm} {S : Sh} {m0 : Mm} {K : Mm → Prop} {u1 u2 : Int} (hS : Shp S) (hm0 : Inv X S m0) (l_u1 : 1 ≤ u1) (h_u1 : u1 ≤ 12) (l_u2 : 0 ≤ u2) (h_u2 : u2 ≤ 300) (hk : ∀ (M1 : Mm), Inv X S M1 → K M1) : wp_X6_countRows S m0 63 u1 u2 K := by
  refine u_X6_countRows ?_
  refine g_getr 2 65 rfl hS.k63 hm0.f_63_2 (by decide) ?_
  refine g_C ?_
  refine g_C ?_
  refine g_C ?_
  refine s_fill2 hm0 hS.k65 hS.l65 (by decide) (by omega) (by omega) (by omega) (fun M i h0 h1 h2 => h0.wa_65 h1 h2 (by omega) (by omega)) (fun m1 hm1 => ?_)
  refine g_getr 2 65 rfl hS.k63 hm1.f_63_2 (by decide) ?_
  refine g_C ?_
  refine g_C ?_
  refine g_st hS.k65 hS.l65 (by omega) (by omega) (hm1.wa_65 (by omega) (by omega) (by omega) (by omega)) (fun m2 em2 hm2 => ?_)
  refine g_C ?_
  have L_n_l14411 : ∀ (n_l14411 : Nat) (u6 : Int) (m7 : Mm), Inv X S m7 → 1 ≤ u6 → u6 ≤ 13 → 14 - u6 ≤ (n_l14411 : Int) → wp_X6_countRows_21 S K n_l14411 63 u1 u2 u6 m7 := by
    intro n_l14411
    induction n_l14411 with
    | zero => intro u6 m7 hm7 bu6 cu6 zn_l14411; exfalso; omega
    | succ n_l14411 ih_n_l14411 =>
      intro u6 m7 hm7 bu6 cu6 zn_l14411
      refine u_X6_countRows_21 ?_
      refine g_if (fun w14412 => ?_) (fun w14412 => ?_)
      · exact hk m7 hm7
      · refine g_C ?_
        have L_n_l15520 : ∀ (n_l15520 : Nat) (u14417 : Int) (m14418 : Mm), Inv X S m14418 → 0 ≤ u14417 → u14417 ≤ 301 → 302 - u14417 ≤ (n_l15520 : Int) → wp_X6_countRows_29 S (fun a0 a1 a2 a3 M => wp_X6_countRows_21 S K n_l14411 a0 a1 a2 a3 M) K n_l15520 63 u1 u2 u6 u14417 m14418 := by
          intro n_l15520
          induction n_l15520 with
          | zero => intro u14417 m14418 hm14418 bu14417 cu14417 zn_l15520; exfalso; omega
          | succ n_l15520 ih_n_l15520 =>
            intro u14417 m14418 hm14418 bu14417 cu14417 zn_l15520
            refine u_X6_countRows_29 ?_
            refine g_if (fun w15521 => ?_) (fun w15521 => ?_)
            · refine g_A (by omega) (by omega) ?_
              exact ih_n_l14411 (u6 + 1) m14418 hm14418 (by omega) (by omega) (by omega)
            · refine g_C ?_
              refine g_C ?_
              have L_n_l15579 : ∀ (n_l15579 : Nat) (u15527 : Int) (u15528 : Int), (-9223372036854775808) ≤ u15527 → u15527 ≤ 9223372036854775807 → 0 ≤ u15528 → u15528 ≤ 5 → 6 - u15528 ≤ (n_l15579 : Int) → wp_X6_countRows_41 S (fun a0 a1 a2 a3 M => wp_X6_countRows_21 S K n_l14411 a0 a1 a2 a3 M) (fun a0 a1 a2 a3 a4 M => wp_X6_countRows_29 S (fun a0 a1 a2 a3 M => wp_X6_countRows_21 S K n_l14411 a0 a1 a2 a3 M) K n_l15520 a0 a1 a2 a3 a4 M) K n_l15579 63 u1 u2 u6 u14417 u15527 u15528 m14418 := by
                intro n_l15579
                induction n_l15579 with
                | zero => intro u15527 u15528 bu15527 cu15527 bu15528 cu15528 zn_l15579; exfalso; omega
                | succ n_l15579 ih_n_l15579 =>
                  intro u15527 u15528 bu15527 cu15527 bu15528 cu15528 zn_l15579
                  refine u_X6_countRows_41 ?_
                  refine g_getr 0 4 rfl hS.k63 hm14418.f_63_0 (by decide) ?_
                  refine g_get 4 (0) (5) rfl hS.k4 hm14418.f_4_4 (fun v15580 ev15580 bv15580 cv15580 => ?_)
                  refine g_if (fun w15581 => ?_) (fun w15581 => ?_)
                  · refine g_getr 2 65 rfl hS.k63 hm14418.f_63_2 (by decide) ?_
                    refine g_C ?_
                    refine g_M (by omega) (by omega) ?_
                    refine g_A (by omega) (by omega) ?_
                    refine g_C ?_
                    refine g_D64 (by omega) (fun v15582 bv15582 cv15582 => ?_)
                    refine g_w32w (fun v15583 bv15583 cv15583 => ?_)
                    refine g_st hS.k65 hS.l65 (by omega) (by omega) (hm14418.wa_65 (by omega) (by omega) (by omega) (by omega)) (fun m15584 em15584 hm15584 => ?_)
                    refine g_A (by omega) (by omega) ?_
                    exact ih_n_l15520 (u14417 + 1) m15584 hm15584 (by omega) (by omega) (by omega)
                  · refine g_C ?_
                    refine g_S (by omega) (by omega) ?_
                    refine g_getr 0 4 rfl hS.k63 hm14418.f_63_0 (by decide) ?_
                    refine g_getr 10 7 rfl hS.k4 hm14418.f_4_10 (by decide) ?_
                    refine g_ld (0) (20) hS.k7 hS.l7 (by omega) (by omega) (hm14418.a_7 (by omega) (by omega)) (fun v15585 ev15585 bv15585 cv15585 => ?_)
                    refine g_S (by omega) (by omega) ?_
                    refine ⟨hS.k63, ?_⟩
                    refine u_X6_rowsOf ?_
                    refine g_if (fun w15586 => ?_) (fun w15586 => ?_)
                    · refine g_getr 2 65 rfl hS.k63 hm14418.f_63_2 (by decide) ?_
                      refine g_C ?_
                      refine g_M (by omega) (by omega) ?_
                      refine g_A (by omega) (by omega) ?_
                      refine g_ld (-2147483648) (2147483647) hS.k65 hS.l65 (by omega) (by omega) (hm14418.a_65 (by omega) (by omega)) (fun v15587 ev15587 bv15587 cv15587 => ?_)
                      refine g_C ?_
                      refine g_LAw (fun v15588 bv15588 cv15588 => ?_)
                      refine g_A (by omega) (by omega) ?_
                      exact ih_n_l15579 v15588 (u15528 + 1) (by omega) (by omega) (by omega) (by omega) (by omega)
                    · refine g_C ?_
                      refine g_C ?_
                      refine g_LA (by omega) (by omega) ?_
                      refine g_A (by omega) (by omega) ?_
                      exact ih_n_l15579 (u15527 + 0) (u15528 + 1) (by omega) (by omega) (by omega) (by omega) (by omega)
              exact ⟨6, L_n_l15579 6 0 0 (by omega) (by omega) (by omega) (by omega) (by omega)⟩
        exact ⟨302, L_n_l15520 302 0 m7 hm7 (by omega) (by omega) (by omega)⟩
  exact ⟨13, L_n_l14411 13 1 m2 hm2 (by omega) (by omega) (by omega)⟩
theorem z_X6_firstThatLeaves {X : Mm} {S : Sh} {m0 : Mm} {K : Int → Mm → Prop} {u1 u2 : Int} (hS : Shp S) (hm0 : Inv X S m0) (l_u1 : 0 ≤ u1) (h_u1 : u1 ≤ 11) (l_u2 : (-240) ≤ u2) (h_u2 : u2 ≤ 300) (hk : ∀ (r : Int), 0 ≤ r → r ≤ 4 → K r m0) : wp_X6_firstThatLeaves S m0 63 u1 u2 K := by
  refine u_X6_firstThatLeaves ?_
  refine g_C ?_
  have L_n_l42 : ∀ (n_l42 : Nat) (u4 : Int), 0 ≤ u4 → u4 ≤ 5 → 6 - u4 ≤ (n_l42 : Int) → wp_X6_firstThatLeaves_2 S K n_l42 63 u1 u2 u4 m0 := by
    intro n_l42
    induction n_l42 with
    | zero => intro u4 bu4 cu4 zn_l42; exfalso; omega
    | succ n_l42 ih_n_l42 =>
      intro u4 bu4 cu4 zn_l42
      refine u_X6_firstThatLeaves_2 ?_
      refine g_getr 0 4 rfl hS.k63 hm0.f_63_0 (by decide) ?_
      refine g_get 4 (0) (5) rfl hS.k4 hm0.f_4_4 (fun v43 ev43 bv43 cv43 => ?_)
      refine g_if (fun w44 => ?_) (fun w44 => ?_)
      · refine g_C ?_
        exact hk 0 (by omega) (by omega)
      · refine g_getr 0 4 rfl hS.k63 hm0.f_63_0 (by decide) ?_
        refine g_getr 10 7 rfl hS.k4 hm0.f_4_10 (by decide) ?_
        refine g_ld (0) (20) hS.k7 hS.l7 (by omega) (by omega) (hm0.a_7 (by omega) (by omega)) (fun v45 ev45 bv45 cv45 => ?_)
        refine g_S (by omega) (by omega) ?_
        refine ⟨hS.k63, ?_⟩
        refine u_X6_rowsOf ?_
        refine g_if (fun w46 => ?_) (fun w46 => ?_)
        · refine g_getr 2 65 rfl hS.k63 hm0.f_63_2 (by decide) ?_
          refine g_C ?_
          refine g_M (by omega) (by omega) ?_
          refine g_A (by omega) (by omega) ?_
          refine g_ld (-2147483648) (2147483647) hS.k65 hS.l65 (by omega) (by omega) (hm0.a_65 (by omega) (by omega)) (fun v47 ev47 bv47 cv47 => ?_)
          refine g_if (fun w48 => ?_) (fun w48 => ?_)
          · refine g_A (by omega) (by omega) ?_
            exact ih_n_l42 (u4 + 1) (by omega) (by omega) (by omega)
          · exact hk u4 (by omega) (by omega)
        · refine g_C ?_
          refine g_ifT (by omega) ?_
          refine g_A (by omega) (by omega) ?_
          exact ih_n_l42 (u4 + 1) (by omega) (by omega) (by omega)
  exact ⟨6, L_n_l42 6 0 (by omega) (by omega) (by omega)⟩
theorem z_X6_handInFirstRow {X : Mm} {S : Sh} {m0 : Mm} {K : Int → Mm → Prop} {u1 u2 u3 : Int} (hS : Shp S) (hm0 : Inv X S m0) (l_u1 : 1 ≤ u1) (h_u1 : u1 ≤ 12) (l_u2 : 0 ≤ u2) (h_u2 : u2 ≤ 300) (l_u3 : 0 ≤ u3) (h_u3 : u3 ≤ 11) (p0 : u3 < u1) (hk : ∀ (r : Int), 0 ≤ r → r ≤ 4 → K r m0) : wp_X6_handInFirstRow S m0 63 u1 u2 u3 K := by
  refine u_X6_handInFirstRow ?_
  refine g_C ?_
  have L_n_l58 : ∀ (n_l58 : Nat) (u4 : Int) (u5 : Int), (-240) ≤ u4 → u4 ≤ 300 → 0 ≤ u5 → u5 ≤ 12 → (-20 * u5 ≤ u4) → 13 - u5 ≤ (n_l58 : Int) → wp_X6_handInFirstRow_6 S K n_l58 63 u1 u3 u4 u5 m0 := by
    intro n_l58
    induction n_l58 with
    | zero => intro u4 u5 bu4 cu4 bu5 cu5 xn_l58_0 zn_l58; exfalso; omega
    | succ n_l58 ih_n_l58 =>
      intro u4 u5 bu4 cu4 bu5 cu5 xn_l58_0 zn_l58
      refine u_X6_handInFirstRow_6 ?_
      refine g_if (fun w59 => ?_) (fun w59 => ?_)
      · refine g_C ?_
        exact hk 0 (by omega) (by omega)
      · refine g_S (by omega) (by omega) ?_
        refine g_C ?_
        refine g_S (by omega) (by omega) ?_
        refine ⟨hS.k63, ?_⟩
        refine z_X6_firstThatLeaves hS hm0 (by omega) (by omega) (by omega) (by omega) (fun v60 bv60 cv60 => ?_)
        refine g_if (fun w61 => ?_) (fun w61 => ?_)
        · refine g_getr 0 4 rfl hS.k63 hm0.f_63_0 (by decide) ?_
          refine g_getr 10 7 rfl hS.k4 hm0.f_4_10 (by decide) ?_
          refine g_ld (0) (20) hS.k7 hS.l7 (by omega) (by omega) (hm0.a_7 (by omega) (by omega)) (fun v62 ev62 bv62 cv62 => ?_)
          refine g_S (by omega) (by omega) ?_
          refine g_A (by omega) (by omega) ?_
          exact ih_n_l58 (u4 - v62) (u5 + 1) (by omega) (by omega) (by omega) (by omega) (by omega) (by omega)
        · exact hk v60 (by omega) (by omega)
  exact ⟨13, L_n_l58 13 u2 0 (by omega) (by omega) (by omega) (by omega) (by omega) (by omega)⟩
theorem z_X6_handsInRows {X : Mm} {S : Sh} {m0 : Mm} {K : Int → Mm → Prop} {u1 u2 u3 : Int} (hS : Shp S) (hm0 : Inv X S m0) (l_u1 : 1 ≤ u1) (h_u1 : u1 ≤ 12) (l_u2 : 0 ≤ u2) (h_u2 : u2 ≤ 300) (l_u3 : 0 ≤ u3) (h_u3 : u3 ≤ 11) (p0 : u3 < u1) (hk : ∀ (r : Int), 0 ≤ r → r ≤ 31 → K r m0) : wp_X6_handsInRows S m0 63 u1 u2 u3 K := by
  refine u_X6_handsInRows ?_
  refine g_C ?_
  refine g_C ?_
  have L_n_l1088 : ∀ (n_l1088 : Nat) (u5 : Int) (u6 : Int), 0 ≤ u5 → u5 ≤ 31 → 0 ≤ u6 → u6 ≤ 5 → 6 - u6 ≤ (n_l1088 : Int) → wp_X6_handsInRows_6 S K n_l1088 63 u1 u2 u3 u5 u6 m0 := by
    intro n_l1088
    induction n_l1088 with
    | zero => intro u5 u6 bu5 cu5 bu6 cu6 zn_l1088; exfalso; omega
    | succ n_l1088 ih_n_l1088 =>
      intro u5 u6 bu5 cu5 bu6 cu6 zn_l1088
      refine u_X6_handsInRows_6 ?_
      refine g_getr 0 4 rfl hS.k63 hm0.f_63_0 (by decide) ?_
      refine g_get 4 (0) (5) rfl hS.k4 hm0.f_4_4 (fun v1089 ev1089 bv1089 cv1089 => ?_)
      refine g_if (fun w1090 => ?_) (fun w1090 => ?_)
      · exact hk u5 (by omega) (by omega)
      · refine g_C ?_
        have L_n_l1269 : ∀ (n_l1269 : Nat) (u1095 : Int) (u1097 : Int), 0 ≤ u1095 → u1095 ≤ 31 → 0 ≤ u1097 → u1097 ≤ 301 → 302 - u1097 ≤ (n_l1269 : Int) → wp_X6_handsInRows_21 S (fun a0 a1 a2 a3 a4 a5 M => wp_X6_handsInRows_6 S K n_l1088 a0 a1 a2 a3 a4 a5 M) K n_l1269 63 u1 u2 u3 u1095 u6 u1097 m0 := by
          intro n_l1269
          induction n_l1269 with
          | zero => intro u1095 u1097 bu1095 cu1095 bu1097 cu1097 zn_l1269; exfalso; omega
          | succ n_l1269 ih_n_l1269 =>
            intro u1095 u1097 bu1095 cu1095 bu1097 cu1097 zn_l1269
            refine u_X6_handsInRows_21 ?_
            refine g_if (fun w1270 => ?_) (fun w1270 => ?_)
            · refine g_A (by omega) (by omega) ?_
              exact ih_n_l1088 u1095 (u6 + 1) (by omega) (by omega) (by omega) (by omega) (by omega)
            · refine g_S (by omega) (by omega) ?_
              refine g_getr 0 4 rfl hS.k63 hm0.f_63_0 (by decide) ?_
              refine g_getr 10 7 rfl hS.k4 hm0.f_4_10 (by decide) ?_
              refine g_ld (0) (20) hS.k7 hS.l7 (by omega) (by omega) (hm0.a_7 (by omega) (by omega)) (fun v1271 ev1271 bv1271 cv1271 => ?_)
              refine g_S (by omega) (by omega) ?_
              refine ⟨hS.k63, ?_⟩
              refine u_X6_rowsOf ?_
              refine g_ifT (by omega) ?_
              refine g_getr 2 65 rfl hS.k63 hm0.f_63_2 (by decide) ?_
              refine g_C ?_
              refine g_M (by omega) (by omega) ?_
              refine g_A (by omega) (by omega) ?_
              refine g_ld (-2147483648) (2147483647) hS.k65 hS.l65 (by omega) (by omega) (hm0.a_65 (by omega) (by omega)) (fun v1272 ev1272 bv1272 cv1272 => ?_)
              refine g_if (fun w1273 => ?_) (fun w1273 => ?_)
              · refine u_X6_handsInRows_77 ?_
                refine g_A (by omega) (by omega) ?_
                exact ih_n_l1269 u1095 (u1097 + 1) (by omega) (by omega) (by omega) (by omega) (by omega)
              · refine g_S (by omega) (by omega) ?_
                refine g_C ?_
                refine g_S (by omega) (by omega) ?_
                refine ⟨hS.k63, ?_⟩
                refine u_X6_rowsOf ?_
                refine g_if (fun w1274 => ?_) (fun w1274 => ?_)
                · refine g_getr 2 65 rfl hS.k63 hm0.f_63_2 (by decide) ?_
                  refine g_C ?_
                  refine g_M (by omega) (by omega) ?_
                  refine g_A (by omega) (by omega) ?_
                  refine g_ld (-2147483648) (2147483647) hS.k65 hS.l65 (by omega) (by omega) (hm0.a_65 (by omega) (by omega)) (fun v1275 ev1275 bv1275 cv1275 => ?_)
                  refine g_if (fun w1276 => ?_) (fun w1276 => ?_)
                  · refine u_X6_handsInRows_77 ?_
                    refine g_A (by omega) (by omega) ?_
                    exact ih_n_l1269 u1095 (u1097 + 1) (by omega) (by omega) (by omega) (by omega) (by omega)
                  · refine g_C ?_
                    refine g_iShl 4 (by omega) (by omega) (by decide) (fun v1277 bv1277 cv1277 => ?_)
                    refine g_iOr 5 (by omega) (by omega) (by omega) (by omega) (by decide) (fun v1278 bv1278 cv1278 => ?_)
                    refine u_X6_handsInRows_77 ?_
                    refine g_A (by omega) (by omega) ?_
                    exact ih_n_l1269 v1278 (u1097 + 1) (by omega) (by omega) (by omega) (by omega) (by omega)
                · refine g_C ?_
                  refine g_ifT (by omega) ?_
                  refine u_X6_handsInRows_77 ?_
                  refine g_A (by omega) (by omega) ?_
                  exact ih_n_l1269 u1095 (u1097 + 1) (by omega) (by omega) (by omega) (by omega) (by omega)
        exact ⟨302, L_n_l1269 302 u5 0 (by omega) (by omega) (by omega) (by omega) (by omega)⟩
  exact ⟨6, L_n_l1088 6 0 0 (by omega) (by omega) (by omega) (by omega) (by omega)⟩
theorem z_X11_rows {X : Mm} {S : Sh} {m0 : Mm} {K : Int → Mm → Prop} {u1 u2 u3 : Int} (hS : Shp S) (hm0 : Inv X S m0) (l_u1 : (-2147483648) ≤ u1) (h_u1 : u1 ≤ 2147483647) (l_u2 : (-2147483648) ≤ u2) (h_u2 : u2 ≤ 2147483647) (l_u3 : (-2147483648) ≤ u3) (h_u3 : u3 ≤ 2147483647) (hk : ∀ (r : Int) (M1 : Mm), Inv X S M1 → (-2147483648) ≤ r → r ≤ 2147483647 → K r M1) : wp_X11_rows S m0 0 u1 u2 u3 K := by
  refine u_X11_rows ?_
  refine g_if (fun w1 => ?_) (fun w1 => ?_)
  · refine u_X11_rows_14 ?_
    refine g_C ?_
    refine u_X11_rows_15 ?_
    refine g_C ?_
    refine g_ifT (by omega) ?_
    refine u_X11_rows_33 ?_
    refine g_C ?_
    refine u_X11_rows_34 ?_
    refine g_getr 1 3 rfl hS.k0 hm0.f_0_1 (by decide) ?_
    refine g_getr 0 4 rfl hS.k3 hm0.f_3_0 (by decide) ?_
    refine g_get 0 (0) (6) rfl hS.k4 hm0.f_4_0 (fun v2 ev2 bv2 cv2 => ?_)
    refine g_if (fun w3 => ?_) (fun w3 => ?_)
    · refine g_C ?_
      exact hk (-3) m0 hm0 (by omega) (by omega)
    · refine g_C ?_
      refine g_if (fun w4 => ?_) (fun w4 => ?_)
      · refine g_C ?_
        exact hk (-3) m0 hm0 (by omega) (by omega)
      · refine g_C ?_
        refine g_if (fun w5 => ?_) (fun w5 => ?_)
        · refine g_C ?_
          exact hk (-3) m0 hm0 (by omega) (by omega)
        · refine g_if (fun w6 => ?_) (fun w6 => ?_)
          · refine g_C ?_
            exact hk (-3) m0 hm0 (by omega) (by omega)
          · refine g_C ?_
            refine g_if (fun w7 => ?_) (fun w7 => ?_)
            · refine g_C ?_
              refine g_if (fun w8 => ?_) (fun w8 => ?_)
              · refine u_X11_rows_92 ?_
                refine g_getr 13 63 rfl hS.k0 hm0.f_0_13 (by decide) ?_
                refine ⟨hS.k63, ?_⟩
                refine z_X6_countRows hS hm0 (by omega) (by omega) (by omega) (by omega) (fun m9 hm9 => ?_)
                refine g_getr 13 63 rfl hS.k0 hm9.f_0_13 (by decide) ?_
                refine ⟨hS.k63, ?_⟩
                refine u_X6_rowsOf ?_
                refine g_ifT (by omega) ?_
                refine g_getr 2 65 rfl hS.k63 hm9.f_63_2 (by decide) ?_
                refine g_C ?_
                refine g_M (by omega) (by omega) ?_
                refine g_A (by omega) (by omega) ?_
                refine g_ld (-2147483648) (2147483647) hS.k65 hS.l65 (by omega) (by omega) (hm9.a_65 (by omega) (by omega)) (fun v10 ev10 bv10 cv10 => ?_)
                refine g_C ?_
                refine g_ifF (by omega) ?_
                exact hk v10 m9 hm9 (by omega) (by omega)
              · refine g_ifF (by omega) ?_
                refine g_ifF (by omega) ?_
                refine g_C ?_
                exact hk (-3) m0 hm0 (by omega) (by omega)
            · refine g_C ?_
              exact hk (-3) m0 hm0 (by omega) (by omega)
  · refine g_C ?_
    refine g_if (fun w11 => ?_) (fun w11 => ?_)
    · refine u_X11_rows_14 ?_
      refine g_C ?_
      refine u_X11_rows_15 ?_
      refine g_C ?_
      refine g_if (fun w12 => ?_) (fun w12 => ?_)
      · refine u_X11_rows_33 ?_
        refine g_C ?_
        refine u_X11_rows_34 ?_
        refine g_getr 1 3 rfl hS.k0 hm0.f_0_1 (by decide) ?_
        refine g_getr 0 4 rfl hS.k3 hm0.f_3_0 (by decide) ?_
        refine g_get 0 (0) (6) rfl hS.k4 hm0.f_4_0 (fun v13 ev13 bv13 cv13 => ?_)
        refine g_if (fun w14 => ?_) (fun w14 => ?_)
        · refine g_C ?_
          exact hk (-3) m0 hm0 (by omega) (by omega)
        · refine g_C ?_
          refine g_if (fun w15 => ?_) (fun w15 => ?_)
          · refine g_C ?_
            exact hk (-3) m0 hm0 (by omega) (by omega)
          · refine g_C ?_
            refine g_if (fun w16 => ?_) (fun w16 => ?_)
            · refine g_C ?_
              exact hk (-3) m0 hm0 (by omega) (by omega)
            · refine g_if (fun w17 => ?_) (fun w17 => ?_)
              · refine g_C ?_
                exact hk (-3) m0 hm0 (by omega) (by omega)
              · refine g_C ?_
                refine g_if (fun w18 => ?_) (fun w18 => ?_)
                · refine g_C ?_
                  refine g_ifF (by omega) ?_
                  refine g_ifF (by omega) ?_
                  refine g_ifF (by omega) ?_
                  refine g_C ?_
                  exact hk (-3) m0 hm0 (by omega) (by omega)
                · refine g_C ?_
                  exact hk (-3) m0 hm0 (by omega) (by omega)
      · refine g_C ?_
        refine g_if (fun w19 => ?_) (fun w19 => ?_)
        · refine u_X11_rows_33 ?_
          refine g_C ?_
          refine u_X11_rows_34 ?_
          refine g_getr 1 3 rfl hS.k0 hm0.f_0_1 (by decide) ?_
          refine g_getr 0 4 rfl hS.k3 hm0.f_3_0 (by decide) ?_
          refine g_get 0 (0) (6) rfl hS.k4 hm0.f_4_0 (fun v20 ev20 bv20 cv20 => ?_)
          refine g_if (fun w21 => ?_) (fun w21 => ?_)
          · refine g_C ?_
            exact hk (-3) m0 hm0 (by omega) (by omega)
          · refine g_C ?_
            refine g_if (fun w22 => ?_) (fun w22 => ?_)
            · refine g_C ?_
              exact hk (-3) m0 hm0 (by omega) (by omega)
            · refine g_C ?_
              refine g_if (fun w23 => ?_) (fun w23 => ?_)
              · refine g_C ?_
                exact hk (-3) m0 hm0 (by omega) (by omega)
              · refine g_if (fun w24 => ?_) (fun w24 => ?_)
                · refine g_C ?_
                  exact hk (-3) m0 hm0 (by omega) (by omega)
                · refine g_C ?_
                  refine g_if (fun w25 => ?_) (fun w25 => ?_)
                  · refine g_C ?_
                    refine g_ifF (by omega) ?_
                    refine g_ifF (by omega) ?_
                    refine g_ifF (by omega) ?_
                    refine g_C ?_
                    exact hk (-3) m0 hm0 (by omega) (by omega)
                  · refine g_C ?_
                    exact hk (-3) m0 hm0 (by omega) (by omega)
        · refine g_C ?_
          refine u_X11_rows_34 ?_
          refine g_getr 1 3 rfl hS.k0 hm0.f_0_1 (by decide) ?_
          refine g_getr 0 4 rfl hS.k3 hm0.f_3_0 (by decide) ?_
          refine g_get 0 (0) (6) rfl hS.k4 hm0.f_4_0 (fun v26 ev26 bv26 cv26 => ?_)
          refine g_if (fun w27 => ?_) (fun w27 => ?_)
          · refine g_C ?_
            exact hk (-3) m0 hm0 (by omega) (by omega)
          · refine g_C ?_
            refine g_if (fun w28 => ?_) (fun w28 => ?_)
            · refine g_C ?_
              exact hk (-3) m0 hm0 (by omega) (by omega)
            · refine g_C ?_
              refine g_if (fun w29 => ?_) (fun w29 => ?_)
              · refine g_C ?_
                exact hk (-3) m0 hm0 (by omega) (by omega)
              · refine g_if (fun w30 => ?_) (fun w30 => ?_)
                · refine g_C ?_
                  exact hk (-3) m0 hm0 (by omega) (by omega)
                · refine g_C ?_
                  refine g_if (fun w31 => ?_) (fun w31 => ?_)
                  · refine g_C ?_
                    refine g_ifF (by omega) ?_
                    refine g_ifF (by omega) ?_
                    refine g_ifT (by omega) ?_
                    refine u_X11_rows_92 ?_
                    refine g_getr 13 63 rfl hS.k0 hm0.f_0_13 (by decide) ?_
                    refine ⟨hS.k63, ?_⟩
                    refine z_X6_countRows hS hm0 (by omega) (by omega) (by omega) (by omega) (fun m32 hm32 => ?_)
                    refine g_getr 13 63 rfl hS.k0 hm32.f_0_13 (by decide) ?_
                    refine ⟨hS.k63, ?_⟩
                    refine u_X6_rowsOf ?_
                    refine g_ifT (by omega) ?_
                    refine g_getr 2 65 rfl hS.k63 hm32.f_63_2 (by decide) ?_
                    refine g_C ?_
                    refine g_M (by omega) (by omega) ?_
                    refine g_A (by omega) (by omega) ?_
                    refine g_ld (-2147483648) (2147483647) hS.k65 hS.l65 (by omega) (by omega) (hm32.a_65 (by omega) (by omega)) (fun v33 ev33 bv33 cv33 => ?_)
                    refine g_C ?_
                    refine g_ifT (by omega) ?_
                    refine g_ifT (by omega) ?_
                    refine g_C ?_
                    refine g_S (by omega) (by omega) ?_
                    refine u_X11_rows_133 ?_
                    refine g_if (fun w34 => ?_) (fun w34 => ?_)
                    · refine g_C ?_
                      exact hk (-2) m32 hm32 (by omega) (by omega)
                    · refine g_if (fun w35 => ?_) (fun w35 => ?_)
                      · refine g_ifT (by omega) ?_
                        refine g_getr 13 63 rfl hS.k0 hm32.f_0_13 (by decide) ?_
                        refine ⟨hS.k63, ?_⟩
                        refine z_X6_handsInRows hS hm32 (by omega) (by omega) (by omega) (by omega) (by omega) (by omega) (by omega) (fun v36 bv36 cv36 => ?_)
                        exact hk v36 m32 hm32 (by omega) (by omega)
                      · refine g_C ?_
                        exact hk (-2) m32 hm32 (by omega) (by omega)
                  · refine g_C ?_
                    exact hk (-3) m0 hm0 (by omega) (by omega)
    · refine g_C ?_
      refine u_X11_rows_15 ?_
      refine g_C ?_
      refine g_ifT (by omega) ?_
      refine u_X11_rows_33 ?_
      refine g_C ?_
      refine u_X11_rows_34 ?_
      refine g_getr 1 3 rfl hS.k0 hm0.f_0_1 (by decide) ?_
      refine g_getr 0 4 rfl hS.k3 hm0.f_3_0 (by decide) ?_
      refine g_get 0 (0) (6) rfl hS.k4 hm0.f_4_0 (fun v37 ev37 bv37 cv37 => ?_)
      refine g_if (fun w38 => ?_) (fun w38 => ?_)
      · refine g_C ?_
        exact hk (-3) m0 hm0 (by omega) (by omega)
      · refine g_C ?_
        refine g_if (fun w39 => ?_) (fun w39 => ?_)
        · refine g_C ?_
          exact hk (-3) m0 hm0 (by omega) (by omega)
        · refine g_C ?_
          refine g_if (fun w40 => ?_) (fun w40 => ?_)
          · refine g_C ?_
            exact hk (-3) m0 hm0 (by omega) (by omega)
          · refine g_if (fun w41 => ?_) (fun w41 => ?_)
            · refine g_C ?_
              exact hk (-3) m0 hm0 (by omega) (by omega)
            · refine g_C ?_
              refine g_if (fun w42 => ?_) (fun w42 => ?_)
              · refine g_C ?_
                refine g_ifF (by omega) ?_
                refine g_ifT (by omega) ?_
                refine u_X11_rows_92 ?_
                refine g_getr 13 63 rfl hS.k0 hm0.f_0_13 (by decide) ?_
                refine ⟨hS.k63, ?_⟩
                refine z_X6_countRows hS hm0 (by omega) (by omega) (by omega) (by omega) (fun m43 hm43 => ?_)
                refine g_getr 13 63 rfl hS.k0 hm43.f_0_13 (by decide) ?_
                refine ⟨hS.k63, ?_⟩
                refine u_X6_rowsOf ?_
                refine g_ifT (by omega) ?_
                refine g_getr 2 65 rfl hS.k63 hm43.f_63_2 (by decide) ?_
                refine g_C ?_
                refine g_M (by omega) (by omega) ?_
                refine g_A (by omega) (by omega) ?_
                refine g_ld (-2147483648) (2147483647) hS.k65 hS.l65 (by omega) (by omega) (hm43.a_65 (by omega) (by omega)) (fun v44 ev44 bv44 cv44 => ?_)
                refine g_C ?_
                refine g_ifT (by omega) ?_
                refine g_ifF (by omega) ?_
                refine u_X11_rows_133 ?_
                refine g_if (fun w45 => ?_) (fun w45 => ?_)
                · refine g_C ?_
                  exact hk (-2) m43 hm43 (by omega) (by omega)
                · refine g_if (fun w46 => ?_) (fun w46 => ?_)
                  · refine g_ifF (by omega) ?_
                    refine g_getr 13 63 rfl hS.k0 hm43.f_0_13 (by decide) ?_
                    refine ⟨hS.k63, ?_⟩
                    refine z_X6_handInFirstRow hS hm43 (by omega) (by omega) (by omega) (by omega) (by omega) (by omega) (by omega) (fun v47 bv47 cv47 => ?_)
                    exact hk v47 m43 hm43 (by omega) (by omega)
                  · refine g_C ?_
                    exact hk (-2) m43 hm43 (by omega) (by omega)
              · refine g_C ?_
                exact hk (-3) m0 hm0 (by omega) (by omega)
theorem z_X11_take {X : Mm} {S : Sh} {m0 : Mm} {K : Int → Mm → Prop} {u1 u2 : Int} (hS : Shp S) (hm0 : Inv X S m0) (l_u1 : (-2147483648) ≤ u1) (h_u1 : u1 ≤ 2147483647) (l_u2 : (-2147483648) ≤ u2) (h_u2 : u2 ≤ 2147483647) (hk : ∀ (r : Int) (M1 : Mm), Inv X S M1 → (-1) ≤ r → r ≤ 15 → K r M1) : wp_X11_take S m0 0 u1 u2 K := by
  refine u_X11_take ?_
  refine ⟨hS.k0, ?_⟩
  refine u_X11_isHand ?_
  refine g_if (fun w1 => ?_) (fun w1 => ?_)
  · refine g_C ?_
    refine ⟨by omega, ?_⟩
    refine g_ifT (by omega) ?_
    refine g_C ?_
    exact hk (-1) m0 hm0 (by omega) (by omega)
  · refine g_getr 1 3 rfl hS.k0 hm0.f_0_1 (by decide) ?_
    refine g_getr 0 4 rfl hS.k3 hm0.f_3_0 (by decide) ?_
    refine g_get 4 (0) (5) rfl hS.k4 hm0.f_4_4 (fun v2 ev2 bv2 cv2 => ?_)
    refine g_if (fun w3 => ?_) (fun w3 => ?_)
    · refine g_C ?_
      refine ⟨by omega, ?_⟩
      refine g_ifT (by omega) ?_
      refine g_C ?_
      exact hk (-1) m0 hm0 (by omega) (by omega)
    · refine g_C ?_
      refine ⟨by omega, ?_⟩
      refine g_ifF (by omega) ?_
      refine ⟨hS.k0, ?_⟩
      refine u_X11_isJug ?_
      refine g_if (fun w4 => ?_) (fun w4 => ?_)
      · refine g_C ?_
        refine ⟨by omega, ?_⟩
        refine g_ifT (by omega) ?_
        refine g_C ?_
        exact hk (-1) m0 hm0 (by omega) (by omega)
      · refine g_getr 1 3 rfl hS.k0 hm0.f_0_1 (by decide) ?_
        refine g_getr 0 4 rfl hS.k3 hm0.f_3_0 (by decide) ?_
        refine g_get 5 (0) (4) rfl hS.k4 hm0.f_4_5 (fun v5 ev5 bv5 cv5 => ?_)
        refine g_if (fun w6 => ?_) (fun w6 => ?_)
        · refine g_C ?_
          refine ⟨by omega, ?_⟩
          refine g_ifT (by omega) ?_
          refine g_C ?_
          exact hk (-1) m0 hm0 (by omega) (by omega)
        · refine g_C ?_
          refine ⟨by omega, ?_⟩
          refine g_ifF (by omega) ?_
          refine g_getr 1 3 rfl hS.k0 hm0.f_0_1 (by decide) ?_
          refine g_getr 1 16 rfl hS.k3 hm0.f_3_1 (by decide) ?_
          refine ⟨hS.k16, ?_⟩
          refine u_X5_canTake ?_
          refine ⟨hS.k16, ?_⟩
          refine u_X5_stands ?_
          refine g_getr 5 20 rfl hS.k16 hm0.f_16_5 (by decide) ?_
          refine g_ld (-1) (5) hS.k20 hS.l20 (by omega) (by omega) (hm0.a_20 (by omega) (by omega)) (fun v7 ev7 bv7 cv7 => ?_)
          refine g_C ?_
          refine g_if (fun w8 => ?_) (fun w8 => ?_)
          · refine g_C ?_
            refine ⟨by omega, ?_⟩
            refine g_ifT (by omega) ?_
            refine g_C ?_
            refine ⟨by omega, ?_⟩
            refine g_ifF (by omega) ?_
            refine g_C ?_
            exact hk (-1) m0 hm0 (by omega) (by omega)
          · refine g_C ?_
            refine ⟨by omega, ?_⟩
            refine g_ifF (by omega) ?_
            refine g_getr 5 20 rfl hS.k16 hm0.f_16_5 (by decide) ?_
            refine g_ld (-1) (5) hS.k20 hS.l20 (by omega) (by omega) (hm0.a_20 (by omega) (by omega)) (fun v9 ev9 bv9 cv9 => ?_)
            have qv9 : v9 = v7 := ev9.trans ev7.symm
            refine g_getr 2 17 rfl hS.k16 hm0.f_16_2 (by decide) ?_
            refine g_ld (0) (5) hS.k17 hS.l17 (by omega) (by omega) (hm0.a_17 (by omega) (by omega)) (fun v10 ev10 bv10 cv10 => ?_)
            refine g_if (fun w11 => ?_) (fun w11 => ?_)
            · refine g_C ?_
              refine ⟨by omega, ?_⟩
              refine g_ifF (by omega) ?_
              refine g_C ?_
              exact hk (-1) m0 hm0 (by omega) (by omega)
            · refine ⟨hS.k16, ?_⟩
              refine u_X5_canHoldMore ?_
              refine ⟨hS.k16, ?_⟩
              refine u_X5_isAtPlace ?_
              refine g_getr 3 18 rfl hS.k16 hm0.f_16_3 (by decide) ?_
              refine g_ld (0) (5) hS.k18 hS.l18 (by omega) (by omega) (hm0.a_18 (by omega) (by omega)) (fun v12 ev12 bv12 cv12 => ?_)
              refine g_if (fun w13 => ?_) (fun w13 => ?_)
              · refine g_C ?_
                refine ⟨by omega, ?_⟩
                refine g_ifT (by omega) ?_
                refine g_C ?_
                refine ⟨by omega, ?_⟩
                refine g_ifT (by omega) ?_
                refine g_C ?_
                refine ⟨by omega, ?_⟩
                refine g_ifF (by omega) ?_
                refine g_C ?_
                exact hk (-1) m0 hm0 (by omega) (by omega)
              · refine g_C ?_
                refine ⟨by omega, ?_⟩
                refine g_ifF (by omega) ?_
                refine ⟨hS.k16, ?_⟩
                refine u_X5_howManyHeld ?_
                refine ⟨hS.k16, ?_⟩
                refine z_X5_heldBits hS hm0 (by decide) (by omega) (by omega) (fun v14 bv14 cv14 => ?_)
                refine z_J6_bitCount_0f7a4 hS hm0 (by omega) (by omega) (fun v15 bv15 cv15 => ?_)
                refine g_C ?_
                refine g_if (fun w16 => ?_) (fun w16 => ?_)
                · refine g_C ?_
                  refine ⟨by omega, ?_⟩
                  refine g_ifT (by omega) ?_
                  refine g_C ?_
                  refine ⟨by omega, ?_⟩
                  refine g_ifF (by omega) ?_
                  refine g_C ?_
                  exact hk (-1) m0 hm0 (by omega) (by omega)
                · refine g_C ?_
                  refine ⟨by omega, ?_⟩
                  refine g_ifF (by omega) ?_
                  refine g_C ?_
                  refine ⟨by omega, ?_⟩
                  refine g_ifT (by omega) ?_
                  refine ⟨hS.k0, ?_⟩
                  refine z_X11_keepPast hS hm0 (fun m17 hm17 => ?_)
                  refine g_getr 1 3 rfl hS.k0 hm17.f_0_1 (by decide) ?_
                  refine g_getr 1 16 rfl hS.k3 hm17.f_3_1 (by decide) ?_
                  refine ⟨hS.k16, ?_⟩
                  refine u_X5_giveTo ?_
                  refine g_getr 6 21 rfl hS.k16 hm17.f_16_6 (by decide) ?_
                  refine g_st hS.k21 hS.l21 (by omega) (by omega) (hm17.wa_21 (by omega) (by omega) (by omega) (by omega)) (fun m18 em18 hm18 => ?_)
                  refine g_getr 5 20 rfl hS.k16 hm18.f_16_5 (by decide) ?_
                  refine g_C ?_
                  refine g_st hS.k20 hS.l20 (by omega) (by omega) (hm18.wa_20 (by omega) (by omega) (by omega) (by omega)) (fun m19 em19 hm19 => ?_)
                  refine g_getr 1 3 rfl hS.k0 hm19.f_0_1 (by decide) ?_
                  refine g_getr 1 16 rfl hS.k3 hm19.f_3_1 (by decide) ?_
                  refine ⟨hS.k16, ?_⟩
                  refine z_X5_heldBits hS hm19 (by decide) (by omega) (by omega) (fun v20 bv20 cv20 => ?_)
                  exact hk v20 m19 hm19 (by omega) (by omega)
theorem z_X4_addTest {X : Mm} {S : Sh} {m0 : Mm} {K : Mm → Prop} {u1 u2 u3 u4 : Int} (hS : Shp S) (hm0 : Inv X S m0) (l_u1 : 0 ≤ u1) (h_u1 : u1 ≤ 999) (l_u2 : 1 ≤ u2) (h_u2 : u2 ≤ 20) (l_u3 : 0 ≤ u3) (h_u3 : u3 ≤ 99) (l_u4 : 0 ≤ u4) (h_u4 : u4 ≤ 999) (hk : ∀ (M1 : Mm), Inv X S M1 → K M1) : wp_X4_addTest S m0 3 u1 u2 u3 u4 K := by
  refine u_X4_addTest ?_
  refine g_get 4 (0) (10) rfl hS.k3 hm0.f_3_4 (fun v1 ev1 bv1 cv1 => ?_)
  refine g_C ?_
  refine g_if (fun w2 => ?_) (fun w2 => ?_)
  · exact hk m0 hm0
  · refine g_getr 5 24 rfl hS.k3 hm0.f_3_5 (by decide) ?_
    refine g_get 4 (0) (10) rfl hS.k3 hm0.f_3_4 (fun v3 ev3 bv3 cv3 => ?_)
    have qv3 : v3 = v1 := ev3.trans ev1.symm
    refine g_st hS.k24 hS.l24 (by omega) (by omega) (hm0.wa_24 (by omega) (by omega) (by omega) (by omega)) (fun m4 em4 hm4 => ?_)
    refine g_getr 6 25 rfl hS.k3 hm4.f_3_6 (by decide) ?_
    refine g_get 4 (0) (10) rfl hS.k3 hm4.f_3_4 (fun v5 ev5 bv5 cv5 => ?_)
    have qv5 : v5 = v1 := ev5.trans ((congrFun (congrFun em4 _) _).trans ((up_ne (by omega)).trans ev1.symm))
    refine g_st hS.k25 hS.l25 (by omega) (by omega) (hm4.wa_25 (by omega) (by omega) (by omega) (by omega)) (fun m6 em6 hm6 => ?_)
    refine g_getr 7 26 rfl hS.k3 hm6.f_3_7 (by decide) ?_
    refine g_get 4 (0) (10) rfl hS.k3 hm6.f_3_4 (fun v7 ev7 bv7 cv7 => ?_)
    have qv7 : v7 = v1 := ev7.trans ((congrFun (congrFun em6 _) _).trans ((up_ne (by omega)).trans ((congrFun (congrFun em4 _) _).trans ((up_ne (by omega)).trans ev1.symm))))
    refine g_st hS.k26 hS.l26 (by omega) (by omega) (hm6.wa_26 (by omega) (by omega) (by omega) (by omega)) (fun m8 em8 hm8 => ?_)
    refine g_getr 8 27 rfl hS.k3 hm8.f_3_8 (by decide) ?_
    refine g_get 4 (0) (10) rfl hS.k3 hm8.f_3_4 (fun v9 ev9 bv9 cv9 => ?_)
    have qv9 : v9 = v1 := ev9.trans ((congrFun (congrFun em8 _) _).trans ((up_ne (by omega)).trans ((congrFun (congrFun em6 _) _).trans ((up_ne (by omega)).trans ((congrFun (congrFun em4 _) _).trans ((up_ne (by omega)).trans ev1.symm))))))
    refine g_st hS.k27 hS.l27 (by omega) (by omega) (hm8.wa_27 (by omega) (by omega) (by omega) (by omega)) (fun m10 em10 hm10 => ?_)
    refine g_get 4 (0) (10) rfl hS.k3 hm10.f_3_4 (fun v11 ev11 bv11 cv11 => ?_)
    have qv11 : v11 = v1 := ev11.trans ((congrFun (congrFun em10 _) _).trans ((up_ne (by omega)).trans ((congrFun (congrFun em8 _) _).trans ((up_ne (by omega)).trans ((congrFun (congrFun em6 _) _).trans ((up_ne (by omega)).trans ((congrFun (congrFun em4 _) _).trans ((up_ne (by omega)).trans ev1.symm))))))))
    refine g_C ?_
    refine g_A (by omega) (by omega) ?_
    refine g_put 4 rfl hS.k3 (hm10.w_3_4 (by omega) (by omega)) (fun m12 em12 hm12 => ?_)
    exact hk m12 hm12
theorem z_X11_test {X : Mm} {S : Sh} {m0 : Mm} {K : Int → Mm → Prop} {u1 u2 u3 u4 : Int} (hS : Shp S) (hm0 : Inv X S m0) (l_u1 : (-2147483648) ≤ u1) (h_u1 : u1 ≤ 2147483647) (l_u2 : (-2147483648) ≤ u2) (h_u2 : u2 ≤ 2147483647) (l_u3 : (-2147483648) ≤ u3) (h_u3 : u3 ≤ 2147483647) (l_u4 : (-2147483648) ≤ u4) (h_u4 : u4 ≤ 2147483647) (hk : ∀ (r : Int) (M1 : Mm), Inv X S M1 → (-2) ≤ r → r ≤ 10 → K r M1) : wp_X11_test S m0 0 u1 u2 u3 u4 K := by
  refine u_X11_test ?_
  refine g_getr 1 3 rfl hS.k0 hm0.f_0_1 (by decide) ?_
  refine g_getr 0 4 rfl hS.k3 hm0.f_3_0 (by decide) ?_
  refine g_get 0 (0) (6) rfl hS.k4 hm0.f_4_0 (fun v1 ev1 bv1 cv1 => ?_)
  refine g_if (fun w2 => ?_) (fun w2 => ?_)
  · refine g_C ?_
    refine g_if (fun w3 => ?_) (fun w3 => ?_)
    · refine u_X11_isTurned ?_
      refine g_if (fun w4 => ?_) (fun w4 => ?_)
      · refine g_C ?_
        refine ⟨by omega, ?_⟩
        refine g_ifT (by omega) ?_
        refine g_C ?_
        exact hk (-2) m0 hm0 (by omega) (by omega)
      · refine g_C ?_
        refine g_if (fun w5 => ?_) (fun w5 => ?_)
        · refine g_C ?_
          refine ⟨by omega, ?_⟩
          refine g_ifT (by omega) ?_
          refine g_C ?_
          exact hk (-2) m0 hm0 (by omega) (by omega)
        · refine g_C ?_
          refine ⟨by omega, ?_⟩
          refine g_ifF (by omega) ?_
          refine u_X11_isTurned ?_
          refine g_if (fun w6 => ?_) (fun w6 => ?_)
          · refine g_C ?_
            refine ⟨by omega, ?_⟩
            refine g_ifT (by omega) ?_
            refine g_C ?_
            exact hk (-2) m0 hm0 (by omega) (by omega)
          · refine g_C ?_
            refine g_if (fun w7 => ?_) (fun w7 => ?_)
            · refine g_C ?_
              refine ⟨by omega, ?_⟩
              refine g_ifT (by omega) ?_
              refine g_C ?_
              exact hk (-2) m0 hm0 (by omega) (by omega)
            · refine g_C ?_
              refine ⟨by omega, ?_⟩
              refine g_ifF (by omega) ?_
              refine g_C ?_
              refine g_if (fun w8 => ?_) (fun w8 => ?_)
              · refine g_C ?_
                exact hk (-2) m0 hm0 (by omega) (by omega)
              · refine g_C ?_
                refine g_if (fun w9 => ?_) (fun w9 => ?_)
                · refine g_C ?_
                  exact hk (-2) m0 hm0 (by omega) (by omega)
                · refine g_if (fun w10 => ?_) (fun w10 => ?_)
                  · refine g_C ?_
                    exact hk (-2) m0 hm0 (by omega) (by omega)
                  · refine g_C ?_
                    refine g_if (fun w11 => ?_) (fun w11 => ?_)
                    · refine g_getr 1 3 rfl hS.k0 hm0.f_0_1 (by decide) ?_
                      refine g_get 4 (0) (10) rfl hS.k3 hm0.f_3_4 (fun v12 ev12 bv12 cv12 => ?_)
                      refine g_C ?_
                      refine g_if (fun w13 => ?_) (fun w13 => ?_)
                      · refine g_getr 1 3 rfl hS.k0 hm0.f_0_1 (by decide) ?_
                        refine ⟨hS.k3, ?_⟩
                        refine z_X4_addTest hS hm0 (by omega) (by omega) (by omega) (by omega) (by omega) (by omega) (by omega) (by omega) (fun m14 hm14 => ?_)
                        refine g_getr 1 3 rfl hS.k0 hm14.f_0_1 (by decide) ?_
                        refine g_get 4 (0) (10) rfl hS.k3 hm14.f_3_4 (fun v15 ev15 bv15 cv15 => ?_)
                        exact hk v15 m14 hm14 (by omega) (by omega)
                      · refine g_C ?_
                        exact hk (-2) m0 hm0 (by omega) (by omega)
                    · refine g_C ?_
                      exact hk (-2) m0 hm0 (by omega) (by omega)
    · refine g_getr 1 3 rfl hS.k0 hm0.f_0_1 (by decide) ?_
      refine g_C ?_
      refine g_put 4 rfl hS.k3 (hm0.w_3_4 (by omega) (by omega)) (fun m16 em16 hm16 => ?_)
      refine g_C ?_
      exact hk 0 m16 hm16 (by omega) (by omega)
  · refine g_C ?_
    exact hk (-2) m0 hm0 (by omega) (by omega)
